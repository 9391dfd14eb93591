def updN (f : Nat → Nat) (m v : Nat) : Nat → Nat := fun k => if k = m then v else f k
theorem updN_at (f : Nat → Nat) (m v : Nat) : updN f m v m = v := if_pos rfl
theorem updN_ne {f : Nat → Nat} {m v k : Nat} (h : k ≠ m) : updN f m v k = f k := if_neg h
/-- by shuttings, as the reference goes: a level's queue, the next one's, what is done -/
def LI (c : Cfg) (n k : Nat) (f : Nat → Nat) (Qs Os : List Nat) : Prop :=
  (∀ m, m < spc c → f m ≠ 999999 → f m ≤ k + 1 ∧ SCt c n (f m) m) ∧ f n = 0 ∧ (∀ m, m ∈ Qs ↔ m < spc c ∧ f m = k) ∧ Qs.Nodup ∧ (∀ m, m ∈ Os → m < spc c ∧ f m ≤ k + 1) ∧ (∀ m, m < spc c → f m = k + 1 → m ∈ Os) ∧ Os.Nodup ∧ (∀ m s, m < spc c → f m < k → s < stN c → mayN c m (allP c) s = true → f (aftN c m s) ≤ f m + sh1 c s) ∧ ∃ E : List Nat, E.Nodup ∧ (∀ m, m ∈ E → m < spc c ∧ f m < k) ∧ k ≤ E.length
def PRc (c : Cfg) (k : Nat) (f : Nat → Nat) (Qs : List Nat) (a s : Nat) : Prop := (∀ i m, i < a → Qs[i]? = some m → ∀ s', s' < stN c → mayN c m (allP c) s' = true → f (aftN c m s') ≤ k + sh1 c s') ∧ ∀ m, Qs[a]? = some m → ∀ s', s' < s → mayN c m (allP c) s' = true → f (aftN c m s') ≤ k + sh1 c s'
theorem LI.lenQ {c : Cfg} {n k : Nat} {f : Nat → Nat} {Qs Os : List Nat} (h : LI c n k f Qs Os) : Qs.length ≤ spc c := nodup_le (spc c) Qs h.2.2.2.1 (fun x hx => ((h.2.2.1 x).mp hx).1)
theorem LI.lenO {c : Cfg} {n k : Nat} {f : Nat → Nat} {Qs Os : List Nat} (h : LI c n k f Qs Os) : Os.length ≤ spc c := nodup_le (spc c) Os h.2.2.2.2.2.2.1 (fun x hx => (h.2.2.2.2.1 x hx).1)
theorem LI.lek {c : Cfg} {n k : Nat} {f : Nat → Nat} {Qs Os : List Nat} (h : LI c n k f Qs Os) : k ≤ spc c := by
  obtain ⟨E, e1, e2, e3⟩ := h.2.2.2.2.2.2.2.2
  have := nodup_le (spc c) E e1 (fun x hx => (e2 x hx).1)
  omega
theorem nd_app {L : List Nat} {m : Nat} (h : L.Nodup) (hm : m ∉ L) : (L ++ [m]).Nodup := by
  rw [List.nodup_append]
  refine ⟨h, (List.nodup_cons.mpr ⟨List.not_mem_nil, List.nodup_nil⟩), fun a ha b hb e => hm ?_⟩
  rw [List.mem_singleton.mp hb] at e
  rw [← e]
  exact ha
theorem LI.free {c : Cfg} {n k m : Nat} {f : Nat → Nat} {Qs Os : List Nat} (h : LI c n k f Qs Os) (hm : m < spc c) (hf : k < f m) (hS : SCt c n k m) : LI c n k (updN f m k) (Qs ++ [m]) Os := by
  obtain ⟨h1, h2, h3, h4, h5, h6, h7, h8, E, e1, e2, e3⟩ := h
  have hle : ∀ x, updN f m k x ≤ f x := fun x => by
    by_cases e : x = m
    · rw [e, updN_at]; omega
    · rw [updN_ne e]; exact Nat.le_refl _
  refine ⟨fun x hx hn => ?_, ?_, fun x => ?_, nd_app h4 (fun q => by have := ((h3 m).mp q).2; omega), fun x hx => ⟨(h5 x hx).1, Nat.le_trans (hle x) (h5 x hx).2⟩, fun x hx hn => ?_, h7, fun x s hx hn hs hma => ?_, E, e1, fun x hx => ⟨(e2 x hx).1, Nat.lt_of_le_of_lt (hle x) (e2 x hx).2⟩, e3⟩
  · by_cases e : x = m
    · rw [e, updN_at]; exact ⟨by omega, hS⟩
    · rw [updN_ne e] at hn ⊢; exact h1 x hx hn
  · rw [updN_ne (fun e => by rw [← e, h2] at hf; omega)]; exact h2
  · rw [List.mem_append, h3, List.mem_singleton]
    by_cases e : x = m
    · rw [e, updN_at]; exact ⟨fun _ => ⟨hm, rfl⟩, fun _ => Or.inr rfl⟩
    · rw [updN_ne e]; exact ⟨fun q => by rcases q with q | q; exact q; exact absurd q e, fun q => Or.inl q⟩
  · by_cases e : x = m
    · rw [e, updN_at] at hn; omega
    · rw [updN_ne e] at hn; exact h6 x hx hn
  · have e : x ≠ m := fun e => by rw [e, updN_at] at hn; omega
    rw [updN_ne e] at hn ⊢
    exact Nat.le_trans (hle _) (h8 x s hx hn hs hma)
theorem LI.shut {c : Cfg} {n k m : Nat} {f : Nat → Nat} {Qs Os : List Nat} (h : LI c n k f Qs Os) (hm : m < spc c) (hf : k + 1 < f m) (hS : SCt c n (k + 1) m) : LI c n k (updN f m (k + 1)) Qs (Os ++ [m]) := by
  obtain ⟨h1, h2, h3, h4, h5, h6, h7, h8, E, e1, e2, e3⟩ := h
  have hle : ∀ x, updN f m (k + 1) x ≤ f x := fun x => by
    by_cases e : x = m
    · rw [e, updN_at]; omega
    · rw [updN_ne e]; exact Nat.le_refl _
  refine ⟨fun x hx hn => ?_, ?_, fun x => ?_, h4, fun x hx => ?_, fun x hx hn => ?_, nd_app h7 (fun q => by have := (h5 m q).2; omega), fun x s hx hn hs hma => ?_, E, e1, fun x hx => ⟨(e2 x hx).1, Nat.lt_of_le_of_lt (hle x) (e2 x hx).2⟩, e3⟩
  · by_cases e : x = m
    · rw [e, updN_at]; exact ⟨by omega, hS⟩
    · rw [updN_ne e] at hn ⊢; exact h1 x hx hn
  · rw [updN_ne (fun e => by rw [← e, h2] at hf; omega)]; exact h2
  · rw [h3]
    by_cases e : x = m
    · rw [e, updN_at]; exact ⟨fun q => by omega, fun q => by omega⟩
    · rw [updN_ne e]
  · rw [List.mem_append, List.mem_singleton] at hx
    by_cases e : x = m
    · rw [e, updN_at]; exact ⟨hm, Nat.le_refl _⟩
    · rw [updN_ne e]
      rcases hx with hx | hx
      · exact h5 x hx
      · exact absurd hx e
  · rw [List.mem_append, List.mem_singleton]
    by_cases e : x = m
    · exact Or.inr e
    · rw [updN_ne e] at hn; exact Or.inl (h6 x hx hn)
  · have e : x ≠ m := fun e => by rw [e, updN_at] at hn; omega
    rw [updN_ne e] at hn ⊢
    exact Nat.le_trans (hle _) (h8 x s hx hn hs hma)
theorem PRc.up {c : Cfg} {k a s m v : Nat} {f : Nat → Nat} {Qs Qt : List Nat} {w : Nat} (h : PRc c k f Qs a s) (ha : a < Qs.length) (hQ : ∃ M, Qt = Qs ++ M) (hv : v ≤ f m) (hw : Qs[a]? = some w) (hn : s < stN c) (hl : mayN c w (allP c) s = true → updN f m v (aftN c w s) ≤ k + sh1 c s) : PRc c k (updN f m v) Qt a (s + 1) := by
  obtain ⟨M, rfl⟩ := hQ
  have hle : ∀ x, updN f m v x ≤ f x := fun x => by
    by_cases e : x = m
    · rw [e, updN_at]; exact hv
    · rw [updN_ne e]; exact Nat.le_refl _
  refine ⟨fun i x hi hx s' h1 h2 => ?_, fun x hx s' h1 h2 => ?_⟩
  · rw [List.getElem?_append_left (by omega)] at hx
    exact Nat.le_trans (hle _) (h.1 i x hi hx s' h1 h2)
  · rw [List.getElem?_append_left ha, hw] at hx
    cases hx
    by_cases e : s' = s
    · rw [e] at h2 ⊢; exact hl h2
    · exact Nat.le_trans (hle _) (h.2 w hw s' (by omega) h2)
theorem PRc.no {c : Cfg} {k a s w : Nat} {f : Nat → Nat} {Qs : List Nat} (h : PRc c k f Qs a s) (hw : Qs[a]? = some w) (hl : mayN c w (allP c) s = true → f (aftN c w s) ≤ k + sh1 c s) : PRc c k f Qs a (s + 1) := by
  refine ⟨h.1, fun x hx s' h1 h2 => ?_⟩
  rw [hw] at hx
  cases hx
  by_cases e : s' = s
  · rw [e] at h2 ⊢; exact hl h2
  · exact h.2 w hw s' (by omega) h2
theorem PRc.nx {c : Cfg} {k a w : Nat} {f : Nat → Nat} {Qs : List Nat} (h : PRc c k f Qs a (stN c)) (hw : Qs[a]? = some w) : PRc c k f Qs (a + 1) 0 := by
  refine ⟨fun i m hi hm s' h1 h2 => ?_, fun m hm s' h1 => absurd h1 (by omega)⟩
  by_cases e : i = a
  · rw [e] at hm; exact h.2 m hm s' h1 h2
  · exact h.1 i m (by omega) hm s' h1 h2
/-- the next level -/
theorem LI.next {c : Cfg} {n k s : Nat} {f : Nat → Nat} {Qs Os : List Nat} (h : LI c n k f Qs Os) (hsp : spc c ≤ 62500) (hp : PRc c k f Qs Qs.length s) (h0 : 0 < Qs.length) : LI c n (k + 1) f (Os.filter (fun m => f m == k + 1)) [] := by
  have hk := h.lek
  obtain ⟨h1, h2, h3, h4, h5, h6, h7, h8, E, e1, e2, e3⟩ := h
  refine ⟨fun x hx hn => ⟨by have := (h1 x hx hn).1; omega, (h1 x hx hn).2⟩, h2, fun x => ?_, (List.Pairwise.filter _ h7), fun m hm => absurd hm List.not_mem_nil, fun x hx hn => ?_, List.nodup_nil, fun x s hx hn hs hma => ?_, Qs[0] :: E, List.nodup_cons.mpr ⟨fun q => ?_, e1⟩, fun x hx => ?_, by rw [List.length_cons]; omega⟩
  · rw [List.mem_filter, beq_iff_eq]
    exact ⟨fun q => ⟨(h5 x q.1).1, q.2⟩, fun q => ⟨h6 x q.1 q.2, q.2⟩⟩
  · have := (h1 x hx (by omega)).1
    omega
  · rcases Nat.lt_or_ge (f x) k with q | q
    · exact h8 x s hx q hs hma
    · have e : f x = k := by omega
      obtain ⟨i, hi⟩ := List.mem_iff_getElem?.mp ((h3 x).mpr ⟨hx, e⟩)
      rw [e]
      exact hp.1 i x (List.getElem?_eq_some_iff.mp hi).1 hi s hs hma
  · have a := (e2 _ q).2
    have b := ((h3 Qs[0]).mp (List.getElem_mem h0)).2
    omega
  · rcases List.mem_cons.mp hx with q | q
    · have b := (h3 Qs[0]).mp (List.getElem_mem h0)
      rw [q]
      exact ⟨b.1, by omega⟩
    · exact ⟨(e2 x q).1, by have := (e2 x q).2; omega⟩
/-- all is done -/
def FF (c : Cfg) (n : Nat) (f : Nat → Nat) : Prop := f n = 0 ∧ (∀ m, m < spc c → f m ≠ 999999 → f m ≤ 62500 ∧ SCt c n (f m) m) ∧ ∀ m s, m < spc c → f m ≠ 999999 → s < stN c → mayN c m (allP c) s = true → f (aftN c m s) ≤ f m + sh1 c s
theorem LI.done {c : Cfg} {n k : Nat} {f : Nat → Nat} (h : LI c n k f [] []) (hsp : spc c ≤ 62500) : FF c n f := by
  have hk := h.lek
  obtain ⟨h1, h2, h3, h4, h5, h6, h7, h8, -⟩ := h
  have hlt : ∀ m, m < spc c → f m ≠ 999999 → f m < k := fun m hm hn => by
    have a := (h1 m hm hn).1
    have b : f m ≠ k := fun e => absurd ((h3 m).mpr ⟨hm, e⟩) List.not_mem_nil
    have d : f m ≠ k + 1 := fun e => absurd (h6 m hm e) List.not_mem_nil
    omega
  exact ⟨h2, fun m hm hn => ⟨by have := hlt m hm hn; omega, (h1 m hm hn).2⟩, fun m s hm hn hs hma => h8 m s hm (hlt m hm hn) hs hma⟩
theorem FF.le {c : Cfg} {n k m : Nat} {f : Nat → Nat} (h : FF c n f) (hn : n < spc c) (hS : SCt c n k m) : m < spc c ∧ f m ≠ 999999 ∧ f m ≤ k :=
  hS (fun k m => m < spc c ∧ f m ≠ 999999 ∧ f m ≤ k) ⟨hn, by rw [h.1]; decide, by rw [h.1]; exact Nat.le_refl _⟩ (fun k m s ⟨a1, a2, a3⟩ hs hma => by
    have b := h.2.2 m s a1 a2 hs hma
    have d := (h.2.1 m a1 a2).1
    have e : sh1 c s ≤ 1 := by unfold sh1; split <;> omega
    exact ⟨aft_lt a1 hs hma, by omega, by omega⟩)
theorem LI.one {c : Cfg} {n : Nat} (hn : n < spc c) : LI c n 0 (updN (fun _ => 999999) n 0) [n] [] := by
  have e : ∀ m, updN (fun _ => 999999) n 0 m ≠ 999999 → m = n := fun m q => Classical.byContradiction fun z => q (updN_ne z)
  refine ⟨fun m hm hq => ?_, updN_at _ _ _, fun m => ?_, (List.nodup_cons.mpr ⟨List.not_mem_nil, List.nodup_nil⟩), fun m hm => absurd hm List.not_mem_nil, fun m hm hq => ?_, List.nodup_nil, fun m s hm hq => absurd hq (by omega), [], List.nodup_nil, fun m hm => absurd hm List.not_mem_nil, Nat.le_refl _⟩
  · rw [e m hq, updN_at]; exact ⟨by omega, SCt.z c n⟩
  · rw [List.mem_singleton]
    exact ⟨fun q => ⟨by rw [q]; exact hn, by rw [q]; exact updN_at _ _ _⟩, fun q => e m (by rw [q.2]; decide)⟩
  · have := e m (by rw [hq]; decide)
    rw [this, updN_at] at hq
    omega
/-- the reference's arrays -/
def RR (V : Nat → Nat → Int) (c : Cfg) (f : Nat → Nat) (Qs Os : List Nat) : Prop := (∀ m, m < spc c → V 59 (mnN c m) = f m) ∧ (∀ i m, Qs[i]? = some m → V 61 i = mnN c m) ∧ ∀ i m, Os[i]? = some m → V 62 i = mnN c m
theorem RR.xf {V V' : Nat → Nat → Int} {c : Cfg} {f : Nat → Nat} {Qs Os : List Nat} (h : RR V c f Qs Os) (g : XF V V') : RR V' c f Qs Os := by
  unfold RR
  rw [g 59 (by decide), g 61 (by decide), g 62 (by decide)]
  exact h
theorem RR.far {V : Nat → Nat → Int} {c : Cfg} {f : Nat → Nat} {Qs Os : List Nat} {m v : Nat} (h : RR V c f Qs Os) (hm : m < spc c) : RR (up2 V 59 (mnN c m) (v : Nat)) c (updN f m v) Qs Os := by
  obtain ⟨h1, h2, h3⟩ := h
  refine ⟨fun x hx => ?_, by rw [up2_nea _ _ (by decide)]; exact h2, by rw [up2_nea _ _ (by decide)]; exact h3⟩
  by_cases e : x = m
  · rw [e, up2_same, updN_at]
  · rw [up2_nek _ _ (fun q => e (mn_inj hx hm q)), updN_ne e]; exact h1 x hx
theorem at_app {L : List Nat} {m i x : Nat} (h : (L ++ [m])[i]? = some x) : (i < L.length ∧ L[i]? = some x) ∨ (i = L.length ∧ x = m) := by
  by_cases q : i < L.length
  · rw [List.getElem?_append_left q] at h; exact Or.inl ⟨q, h⟩
  · have h1 := (List.getElem?_eq_some_iff.mp h).1
    rw [List.length_append, List.length_singleton] at h1
    have e : i = L.length := by omega
    rw [e, List.getElem?_append_right (Nat.le_refl _), Nat.sub_self] at h
    cases h
    exact Or.inr ⟨e, rfl⟩
theorem RR.qu {V : Nat → Nat → Int} {c : Cfg} {f : Nat → Nat} {Qs Os : List Nat} {m : Nat} (h : RR V c f Qs Os) : RR (up2 V 61 Qs.length (mnN c m)) c f (Qs ++ [m]) Os := by
  obtain ⟨h1, h2, h3⟩ := h
  refine ⟨by rw [up2_nea _ _ (by decide)]; exact h1, fun i x hx => ?_, by rw [up2_nea _ _ (by decide)]; exact h3⟩
  rcases at_app hx with ⟨q1, q2⟩ | ⟨q1, q2⟩
  · rw [up2_nek _ _ (by omega)]; exact h2 i x q2
  · rw [q1, q2, up2_same]
theorem RR.ot {V : Nat → Nat → Int} {c : Cfg} {f : Nat → Nat} {Qs Os : List Nat} {m : Nat} (h : RR V c f Qs Os) : RR (up2 V 62 Os.length (mnN c m)) c f Qs (Os ++ [m]) := by
  obtain ⟨h1, h2, h3⟩ := h
  refine ⟨by rw [up2_nea _ _ (by decide)]; exact h1, by rw [up2_nea _ _ (by decide)]; exact h2, fun i x hx => ?_⟩
  rcases at_app hx with ⟨q1, q2⟩ | ⟨q1, q2⟩
  · rw [up2_nek _ _ (by omega)]; exact h3 i x q2
  · rw [q1, q2, up2_same]
