section Mod7
variable {G : GE} {V : Nat → Nat → Int} {σ : Shp} {K : Option AV → Mem → Prop} {l : Nat} {c : Cfg} {n : Nat}
/-- does a step shut a door: told by the door's number before and after -/
theorem may_shS {s : Nat} (hs : s < stN c) (hc : okC c) (hn : n < spc c) (hm : mayN c n (allP c) s = true) : (shS c s = true → ld c n (s % dN c) ≠ 0 ∧ ld c (aftN c n s) (s % dN c) = 0) ∧ (shS c s = false → ld c n (s % dN c) = 0 ∨ ld c (aftN c n s) (s % dN c) ≠ 0) := by
  obtain ⟨hD, hm1, hm2⟩ := divmod_lt (s := s) (D := dN c) (R := 2 + pN c) (by have : stN c = dN c * (2 + pN c) := rfl; omega)
  unfold mayN at hm
  unfold shS aftN
  generalize s / dN c = row at *
  generalize s % dN c = dd at *
  by_cases r0 : row = 0
  · rw [if_pos r0] at hm
    have h0 := (mO_iff.mp hm).1
    subst r0
    exact ⟨fun q => by simp at q, fun _ => Or.inl h0⟩
  · rw [if_neg r0] at hm
    rw [if_neg r0]
    by_cases r1 : row = 1
    · rw [if_pos r1] at hm
      rw [if_pos r1]
      subst r1
      unfold mS at hm
      simp only [Bool.and_eq_true, bne_iff_ne] at hm
      exact ⟨fun _ => ⟨hm.1.1, by rw [(aS_dig hm1).2 dd hm1, if_pos rfl]⟩, fun q => by simp at q⟩
    · rw [if_neg r1] at hm
      rw [if_neg r1]
      unfold mG at hm
      simp only [Bool.and_eq_true, bne_iff_ne] at hm
      have hp : row - 2 < pN c := by omega
      have hg := (aG1_dig (n := n) (d := dd) hp).2.1
      unfold aG
      by_cases k1 : kdC c dd = 1
      · rw [if_pos k1, (aS_dig hm1).2 dd hm1, if_pos rfl]
        exact ⟨fun _ => ⟨hm.2.1, rfl⟩, fun q => absurd q (by simp [k1, r0, r1]; omega)⟩
      · rw [if_neg k1, hg]
        exact ⟨fun q => absurd q (by simp [k1, r1]), fun _ => Or.inr hm.2.1⟩
end Mod7
