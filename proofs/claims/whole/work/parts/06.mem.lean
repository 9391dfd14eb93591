abbrev Shp : Type := (Nat → Nat → Nat) × (Nat → Nat) × (Nat → Nat) × Nat
abbrev sP (σ : Shp) : Nat → Nat → Nat := σ.1
abbrev sT (σ : Shp) : Nat → Nat := σ.2.1
abbrev sN (σ : Shp) : Nat → Nat := σ.2.2.1
abbrev sX (σ : Shp) : Nat := σ.2.2.2
def sO (σ : Shp) (a c : Nat) : Prop := sT σ a = c ∧ 0 < a ∧ a < sX σ
def sA (σ : Shp) (a t n : Nat) : Prop := sT σ a = t ∧ sN σ a = n ∧ 0 < a ∧ a < sX σ
theorem kI {K : Option AV → Mem → Prop} {x y : Int} {μ : Mem} (h : K (some (vI x)) μ) (e : x = y) : K (some (vI y)) μ := e ▸ h
theorem kL {K : Option AV → Mem → Prop} {x y : Int} {μ : Mem} (h : K (some (vL x)) μ) (e : x = y) : K (some (vL y)) μ := e ▸ h
section MemRows
variable {X : CT} {Y : MD} {pc q : Nat} {ls : List (Option AV)} {st : List AV} {V : Nat → Nat → Int} {σ : Shp} {k n : Nat}
theorem av_geti (F : Fx X Y) {idx ci f a : Nat} (hl : FL Y.1.cls idx ci f) (hd : decode Y.2.1 pc = .ok (.getfield idx, 3)) (hp : pc + 3 = q) (ht : intT (tyF ci f) = true) (ha : sO σ a ci) (kk : AW X q ls (vI (V a f) :: st) (V, σ) k n) : AW X pc ls (vR a :: st) (V, σ) k n := aw_geti (μ := (V, σ)) F hl hd hp ht ha kk
theorem av_getl (F : Fx X Y) {idx ci f a : Nat} (hl : FL Y.1.cls idx ci f) (hd : decode Y.2.1 pc = .ok (.getfield idx, 3)) (hp : pc + 3 = q) (ht : lngT (tyF ci f) = true) (ha : sO σ a ci) (kk : AW X q ls (vL (V a f) :: st) (V, σ) k n) : AW X pc ls (vR a :: st) (V, σ) k n := aw_getl (μ := (V, σ)) F hl hd hp ht ha kk
theorem av_geta (F : Fx X Y) {idx ci f a : Nat} (hl : FL Y.1.cls idx ci f) (hd : decode Y.2.1 pc = .ok (.getfield idx, 3)) (hp : pc + 3 = q) (ht : refT (tyF ci f) = true) (ha : sO σ a ci) (kk : AW X q ls (vR (sP σ a f) :: st) (V, σ) k n) : AW X pc ls (vR a :: st) (V, σ) k n := aw_geta (μ := (V, σ)) F hl hd hp ht ha kk
theorem av_getaE (F : Fx X Y) {idx ci f a r : Nat} (hl : FL Y.1.cls idx ci f) (hd : decode Y.2.1 pc = .ok (.getfield idx, 3)) (hp : pc + 3 = q) (ht : refT (tyF ci f) = true) (ha : sO σ a ci) (hr : sP σ a f = r) (kk : AW X q ls (vR r :: st) (V, σ) k n) : AW X pc ls (vR a :: st) (V, σ) k n := by subst hr; exact aw_geta (μ := (V, σ)) F hl hd hp ht ha kk
theorem av_puti (F : Fx X Y) {idx ci f a : Nat} {z : Int} (hl : FL Y.1.cls idx ci f) (hd : decode Y.2.1 pc = .ok (.putfield idx, 3)) (hp : pc + 3 = q) (ht : tyF ci f = .int) (hw : wrF Y ci f) (ha : sO σ a ci) (kk : AW X q ls st (up2 V a f z, σ) k n) : AW X pc ls (vI z :: vR a :: st) (V, σ) k n := aw_puti (μ := (V, σ)) F hl hd hp ht hw ha kk
theorem av_putz (F : Fx X Y) {idx ci f a : Nat} {z : Int} (hl : FL Y.1.cls idx ci f) (hd : decode Y.2.1 pc = .ok (.putfield idx, 3)) (hp : pc + 3 = q) (ht : tyF ci f = .boolean) (hw : wrF Y ci f) (ha : sO σ a ci) (hz : z = 0 ∨ z = 1) (kk : AW X q ls st (up2 V a f z, σ) k n) : AW X pc ls (vI z :: vR a :: st) (V, σ) k n := aw_putz (μ := (V, σ)) F hl hd hp ht hw ha hz kk
theorem av_putl (F : Fx X Y) {idx ci f a : Nat} {z : Int} (hl : FL Y.1.cls idx ci f) (hd : decode Y.2.1 pc = .ok (.putfield idx, 3)) (hp : pc + 3 = q) (ht : tyF ci f = .long) (hw : wrF Y ci f) (ha : sO σ a ci) (kk : AW X q ls st (up2 V a f z, σ) k n) : AW X pc ls (vL z :: vR a :: st) (V, σ) k n := aw_putl (μ := (V, σ)) F hl hd hp ht hw ha kk
theorem av_puta (F : Fx X Y) {idx ci f a r : Nat} (hl : FL Y.1.cls idx ci f) (hd : decode Y.2.1 pc = .ok (.putfield idx, 3)) (hp : pc + 3 = q) (ht : refT (tyF ci f) = true) (hw : wrF Y ci f) (ha : sO σ a ci) (kk : AW X q ls st (V, up2 (sP σ) a f r, σ.2) k n) : AW X pc ls (vR r :: vR a :: st) (V, σ) k n := aw_puta (μ := (V, σ)) F hl hd hp ht hw ha kk
theorem av_iaload (F : Fx X Y) {a N : Nat} {x : Int} (hd : decode Y.2.1 pc = .ok (.iaload, 1)) (hp : pc + 1 = q) (ha : sA σ a 11 N) (h0 : 0 ≤ x) (h1 : x < N) (kk : AW X q ls (vI (V a x.toNat) :: st) (V, σ) k n) : AW X pc ls (vI x :: vR a :: st) (V, σ) k n := aw_iaload (μ := (V, σ)) F hd hp ha h0 h1 kk
theorem av_iastore (F : Fx X Y) {a N : Nat} {x z : Int} (hd : decode Y.2.1 pc = .ok (.iastore, 1)) (hp : pc + 1 = q) (ha : sA σ a 11 N) (h0 : 0 ≤ x) (h1 : x < N) (kk : AW X q ls st (up2 V a x.toNat z, σ) k n) : AW X pc ls (vI z :: vI x :: vR a :: st) (V, σ) k n := aw_iastore (μ := (V, σ)) F hd hp ha h0 h1 kk
theorem av_baload (F : Fx X Y) {a N : Nat} {x : Int} (hd : decode Y.2.1 pc = .ok (.baload, 1)) (hp : pc + 1 = q) (ha : sA σ a 10 N) (h0 : 0 ≤ x) (h1 : x < N) (kk : AW X q ls (vI (V a x.toNat) :: st) (V, σ) k n) : AW X pc ls (vI x :: vR a :: st) (V, σ) k n := aw_baload (μ := (V, σ)) F hd hp ha h0 h1 kk
theorem av_bastore (F : Fx X Y) {a N : Nat} {x z : Int} (hd : decode Y.2.1 pc = .ok (.bastore, 1)) (hp : pc + 1 = q) (ha : sA σ a 10 N) (h0 : 0 ≤ x) (h1 : x < N) (hz : -128 ≤ z ∧ z < 128) (kk : AW X q ls st (up2 V a x.toNat z, σ) k n) : AW X pc ls (vI z :: vI x :: vR a :: st) (V, σ) k n := aw_bastore (μ := (V, σ)) F hd hp ha h0 h1 hz kk
theorem av_laload (F : Fx X Y) {a N : Nat} {x : Int} (hd : decode Y.2.1 pc = .ok (.laload, 1)) (hp : pc + 1 = q) (ha : sA σ a 12 N) (h0 : 0 ≤ x) (h1 : x < N) (kk : AW X q ls (vL (V a x.toNat) :: st) (V, σ) k n) : AW X pc ls (vI x :: vR a :: st) (V, σ) k n := aw_laload (μ := (V, σ)) F hd hp ha h0 h1 kk
theorem av_lastore (F : Fx X Y) {a N : Nat} {x z : Int} (hd : decode Y.2.1 pc = .ok (.lastore, 1)) (hp : pc + 1 = q) (ha : sA σ a 12 N) (h0 : 0 ≤ x) (h1 : x < N) (kk : AW X q ls st (up2 V a x.toNat z, σ) k n) : AW X pc ls (vL z :: vI x :: vR a :: st) (V, σ) k n := aw_lastore (μ := (V, σ)) F hd hp ha h0 h1 kk
theorem av_alen (F : Fx X Y) {a t N : Nat} (hd : decode Y.2.1 pc = .ok (.arraylength, 1)) (hp : pc + 1 = q) (ha : sA σ a t N) (ht : t = 10 ∨ t = 11 ∨ t = 12) (hN : N < 2147483648) (kk : AW X q ls (vI (N : Int) :: st) (V, σ) k n) : AW X pc ls (vR a :: st) (V, σ) k n := aw_alen (μ := (V, σ)) F hd hp ha ht hN kk
def newV (V : Nat → Nat → Int) (x : Nat) : Nat → Nat → Int := fun b j => if b = x then 0 else V b j
def newS (σ : Shp) (t n : Nat) : Shp := (fun b j => if b = sX σ then 0 else sP σ b j, fun b => if b = sX σ then t else sT σ b, fun b => if b = sX σ then n else sN σ b, sX σ + 1)
theorem av_new (F : Fx X Y) {h MC MS : Nat} (hm : Rm X h MC MS) {idx ci : Nat} {qc : vw_C} (hc : vwCl[ci]? = some qc) (hl : Cond.classLink Y.1.cls idx qc.1 ∈ TBL) (hd : decode Y.2.1 pc = .ok (.new idx, 3)) (hp : pc + 3 = q) (hB : sX σ < BG) (hk : k + 1 ≤ MC) (hn : n + nF ci ≤ MS) (kk : AW X q ls (vR (sX σ) :: st) (newV V (sX σ), newS σ ci 0) (k + 1) (n + nF ci)) : AW X pc ls st (V, σ) k n := aw_new (μ := (V, σ)) F hm hc hl hd hp hB hk hn kk
theorem av_newarr (F : Fx X Y) {h MC MS : Nat} (hm : Rm X h MC MS) {at' : ArrayType} {t : Nat} {x : Int} (hd : decode Y.2.1 pc = .ok (.newarray at', 2)) (hp : pc + 2 = q) (ht : (t = 10 ∧ newarray.typeOf at' = .byte) ∨ (t = 11 ∧ newarray.typeOf at' = .int) ∨ (t = 12 ∧ newarray.typeOf at' = .long)) (hB : sX σ < BG) (h0 : 0 ≤ x) (h1 : x ≤ 1000000) (hk : k + 1 ≤ MC) (hn : n + x.toNat ≤ MS) (kk : AW X q ls (vR (sX σ) :: st) (newV V (sX σ), newS σ t x.toNat) (k + 1) (n + x.toNat)) : AW X pc ls (vI x :: st) (V, σ) k n := aw_newarr (μ := (V, σ)) F hm hd hp ht hB h0 h1 hk hn kk
theorem av_callV0 (F : Fx X Y) {h MC MS : Nat} (hm : Rm X h MC MS) {Z : MD} (hi : MIV Z) {idx ci hz mc ms b : Nat} {qc : vw_C} (hn : nP Z 0) (hl : ML Y.1.cls idx Z.1) (hd : decode Y.2.1 pc = .ok (.invokevirtual idx, 3)) (hp : pc + 3 = q) (hcl : vwCl[ci]? = some qc) (hcn : qc.1 = Z.1.cls) (hb : sO σ b ci) (hh : hz + 1 ≤ h) (hk : k + mc ≤ MC) (hs : n + ms ≤ MS) (hcat : (st.map avc).sum ≤ 8) (w : Wp (cG X) hz Z (vR b :: []) (V, σ) mc ms (rK X q ls st (k + mc) (n + ms))) : AW X pc ls (vR b :: st) (V, σ) k n := aw_callV (μ := (V, σ)) (As := []) F hm hi hn hl hd hp hcl hcn hb hh hk hs hcat w
theorem av_callS0 (F : Fx X Y) {h MC MS : Nat} (hm : Rm X h MC MS) {Z : MD} (hi : MIS Z) {idx hz mc ms : Nat} (hn : nP Z 0) (hl : ML Y.1.cls idx Z.1) (hd : decode Y.2.1 pc = .ok (.invokestatic idx, 3)) (hp : pc + 3 = q) (hh : hz + 1 ≤ h) (hk : k + mc ≤ MC) (hs : n + ms ≤ MS) (hcat : (st.map avc).sum ≤ 8) (w : Wp (cG X) hz Z [] (V, σ) mc ms (rK X q ls st (k + mc) (n + ms))) : AW X pc ls (st) (V, σ) k n := aw_callS (μ := (V, σ)) (As := []) F hm hi hn hl hd hp hh hk hs hcat w
theorem av_callI0 (F : Fx X Y) {h MC MS : Nat} (hm : Rm X h MC MS) {Z : MD} (hi : MII Z) {idx hz mc ms b : Nat} (hn : nP Z 0) (hl : ML Y.1.cls idx Z.1) (hd : decode Y.2.1 pc = .ok (.invokespecial idx, 3)) (hp : pc + 3 = q) (hb : 0 < b) (hh : hz + 1 ≤ h) (hk : k + mc ≤ MC) (hs : n + ms ≤ MS) (hcat : (st.map avc).sum ≤ 8) (w : Wp (cG X) hz Z (vR b :: []) (V, σ) mc ms (rK X q ls st (k + mc) (n + ms))) : AW X pc ls (vR b :: st) (V, σ) k n := aw_callI (μ := (V, σ)) (As := []) F hm hi hn hl hd hp hb hh hk hs hcat w
theorem av_callV1 (F : Fx X Y) {h MC MS : Nat} (hm : Rm X h MC MS) {Z : MD} (hi : MIV Z) {idx ci hz mc ms b : Nat} {x0 : AV} {qc : vw_C} (hn : nP Z 1) (hl : ML Y.1.cls idx Z.1) (hd : decode Y.2.1 pc = .ok (.invokevirtual idx, 3)) (hp : pc + 3 = q) (hcl : vwCl[ci]? = some qc) (hcn : qc.1 = Z.1.cls) (hb : sO σ b ci) (hh : hz + 1 ≤ h) (hk : k + mc ≤ MC) (hs : n + ms ≤ MS) (hcat : (st.map avc).sum ≤ 8) (w : Wp (cG X) hz Z (vR b :: [x0]) (V, σ) mc ms (rK X q ls st (k + mc) (n + ms))) : AW X pc ls (x0 :: vR b :: st) (V, σ) k n := aw_callV (μ := (V, σ)) (As := [x0]) F hm hi hn hl hd hp hcl hcn hb hh hk hs hcat w
theorem av_callS1 (F : Fx X Y) {h MC MS : Nat} (hm : Rm X h MC MS) {Z : MD} (hi : MIS Z) {idx hz mc ms : Nat} {x0 : AV} (hn : nP Z 1) (hl : ML Y.1.cls idx Z.1) (hd : decode Y.2.1 pc = .ok (.invokestatic idx, 3)) (hp : pc + 3 = q) (hh : hz + 1 ≤ h) (hk : k + mc ≤ MC) (hs : n + ms ≤ MS) (hcat : (st.map avc).sum ≤ 8) (w : Wp (cG X) hz Z [x0] (V, σ) mc ms (rK X q ls st (k + mc) (n + ms))) : AW X pc ls (x0 :: st) (V, σ) k n := aw_callS (μ := (V, σ)) (As := [x0]) F hm hi hn hl hd hp hh hk hs hcat w
theorem av_callI1 (F : Fx X Y) {h MC MS : Nat} (hm : Rm X h MC MS) {Z : MD} (hi : MII Z) {idx hz mc ms b : Nat} {x0 : AV} (hn : nP Z 1) (hl : ML Y.1.cls idx Z.1) (hd : decode Y.2.1 pc = .ok (.invokespecial idx, 3)) (hp : pc + 3 = q) (hb : 0 < b) (hh : hz + 1 ≤ h) (hk : k + mc ≤ MC) (hs : n + ms ≤ MS) (hcat : (st.map avc).sum ≤ 8) (w : Wp (cG X) hz Z (vR b :: [x0]) (V, σ) mc ms (rK X q ls st (k + mc) (n + ms))) : AW X pc ls (x0 :: vR b :: st) (V, σ) k n := aw_callI (μ := (V, σ)) (As := [x0]) F hm hi hn hl hd hp hb hh hk hs hcat w
theorem av_callV2 (F : Fx X Y) {h MC MS : Nat} (hm : Rm X h MC MS) {Z : MD} (hi : MIV Z) {idx ci hz mc ms b : Nat} {x0 x1 : AV} {qc : vw_C} (hn : nP Z 2) (hl : ML Y.1.cls idx Z.1) (hd : decode Y.2.1 pc = .ok (.invokevirtual idx, 3)) (hp : pc + 3 = q) (hcl : vwCl[ci]? = some qc) (hcn : qc.1 = Z.1.cls) (hb : sO σ b ci) (hh : hz + 1 ≤ h) (hk : k + mc ≤ MC) (hs : n + ms ≤ MS) (hcat : (st.map avc).sum ≤ 8) (w : Wp (cG X) hz Z (vR b :: [x0, x1]) (V, σ) mc ms (rK X q ls st (k + mc) (n + ms))) : AW X pc ls (x1 :: x0 :: vR b :: st) (V, σ) k n := aw_callV (μ := (V, σ)) (As := [x0, x1]) F hm hi hn hl hd hp hcl hcn hb hh hk hs hcat w
theorem av_callS2 (F : Fx X Y) {h MC MS : Nat} (hm : Rm X h MC MS) {Z : MD} (hi : MIS Z) {idx hz mc ms : Nat} {x0 x1 : AV} (hn : nP Z 2) (hl : ML Y.1.cls idx Z.1) (hd : decode Y.2.1 pc = .ok (.invokestatic idx, 3)) (hp : pc + 3 = q) (hh : hz + 1 ≤ h) (hk : k + mc ≤ MC) (hs : n + ms ≤ MS) (hcat : (st.map avc).sum ≤ 8) (w : Wp (cG X) hz Z [x0, x1] (V, σ) mc ms (rK X q ls st (k + mc) (n + ms))) : AW X pc ls (x1 :: x0 :: st) (V, σ) k n := aw_callS (μ := (V, σ)) (As := [x0, x1]) F hm hi hn hl hd hp hh hk hs hcat w
theorem av_callI2 (F : Fx X Y) {h MC MS : Nat} (hm : Rm X h MC MS) {Z : MD} (hi : MII Z) {idx hz mc ms b : Nat} {x0 x1 : AV} (hn : nP Z 2) (hl : ML Y.1.cls idx Z.1) (hd : decode Y.2.1 pc = .ok (.invokespecial idx, 3)) (hp : pc + 3 = q) (hb : 0 < b) (hh : hz + 1 ≤ h) (hk : k + mc ≤ MC) (hs : n + ms ≤ MS) (hcat : (st.map avc).sum ≤ 8) (w : Wp (cG X) hz Z (vR b :: [x0, x1]) (V, σ) mc ms (rK X q ls st (k + mc) (n + ms))) : AW X pc ls (x1 :: x0 :: vR b :: st) (V, σ) k n := aw_callI (μ := (V, σ)) (As := [x0, x1]) F hm hi hn hl hd hp hb hh hk hs hcat w
theorem av_callV3 (F : Fx X Y) {h MC MS : Nat} (hm : Rm X h MC MS) {Z : MD} (hi : MIV Z) {idx ci hz mc ms b : Nat} {x0 x1 x2 : AV} {qc : vw_C} (hn : nP Z 3) (hl : ML Y.1.cls idx Z.1) (hd : decode Y.2.1 pc = .ok (.invokevirtual idx, 3)) (hp : pc + 3 = q) (hcl : vwCl[ci]? = some qc) (hcn : qc.1 = Z.1.cls) (hb : sO σ b ci) (hh : hz + 1 ≤ h) (hk : k + mc ≤ MC) (hs : n + ms ≤ MS) (hcat : (st.map avc).sum ≤ 8) (w : Wp (cG X) hz Z (vR b :: [x0, x1, x2]) (V, σ) mc ms (rK X q ls st (k + mc) (n + ms))) : AW X pc ls (x2 :: x1 :: x0 :: vR b :: st) (V, σ) k n := aw_callV (μ := (V, σ)) (As := [x0, x1, x2]) F hm hi hn hl hd hp hcl hcn hb hh hk hs hcat w
theorem av_callS3 (F : Fx X Y) {h MC MS : Nat} (hm : Rm X h MC MS) {Z : MD} (hi : MIS Z) {idx hz mc ms : Nat} {x0 x1 x2 : AV} (hn : nP Z 3) (hl : ML Y.1.cls idx Z.1) (hd : decode Y.2.1 pc = .ok (.invokestatic idx, 3)) (hp : pc + 3 = q) (hh : hz + 1 ≤ h) (hk : k + mc ≤ MC) (hs : n + ms ≤ MS) (hcat : (st.map avc).sum ≤ 8) (w : Wp (cG X) hz Z [x0, x1, x2] (V, σ) mc ms (rK X q ls st (k + mc) (n + ms))) : AW X pc ls (x2 :: x1 :: x0 :: st) (V, σ) k n := aw_callS (μ := (V, σ)) (As := [x0, x1, x2]) F hm hi hn hl hd hp hh hk hs hcat w
theorem av_callV4 (F : Fx X Y) {h MC MS : Nat} (hm : Rm X h MC MS) {Z : MD} (hi : MIV Z) {idx ci hz mc ms b : Nat} {x0 x1 x2 x3 : AV} {qc : vw_C} (hn : nP Z 4) (hl : ML Y.1.cls idx Z.1) (hd : decode Y.2.1 pc = .ok (.invokevirtual idx, 3)) (hp : pc + 3 = q) (hcl : vwCl[ci]? = some qc) (hcn : qc.1 = Z.1.cls) (hb : sO σ b ci) (hh : hz + 1 ≤ h) (hk : k + mc ≤ MC) (hs : n + ms ≤ MS) (hcat : (st.map avc).sum ≤ 8) (w : Wp (cG X) hz Z (vR b :: [x0, x1, x2, x3]) (V, σ) mc ms (rK X q ls st (k + mc) (n + ms))) : AW X pc ls (x3 :: x2 :: x1 :: x0 :: vR b :: st) (V, σ) k n := aw_callV (μ := (V, σ)) (As := [x0, x1, x2, x3]) F hm hi hn hl hd hp hcl hcn hb hh hk hs hcat w
theorem av_callS4 (F : Fx X Y) {h MC MS : Nat} (hm : Rm X h MC MS) {Z : MD} (hi : MIS Z) {idx hz mc ms : Nat} {x0 x1 x2 x3 : AV} (hn : nP Z 4) (hl : ML Y.1.cls idx Z.1) (hd : decode Y.2.1 pc = .ok (.invokestatic idx, 3)) (hp : pc + 3 = q) (hh : hz + 1 ≤ h) (hk : k + mc ≤ MC) (hs : n + ms ≤ MS) (hcat : (st.map avc).sum ≤ 8) (w : Wp (cG X) hz Z [x0, x1, x2, x3] (V, σ) mc ms (rK X q ls st (k + mc) (n + ms))) : AW X pc ls (x3 :: x2 :: x1 :: x0 :: st) (V, σ) k n := aw_callS (μ := (V, σ)) (As := [x0, x1, x2, x3]) F hm hi hn hl hd hp hh hk hs hcat w
theorem av_callV5 (F : Fx X Y) {h MC MS : Nat} (hm : Rm X h MC MS) {Z : MD} (hi : MIV Z) {idx ci hz mc ms b : Nat} {x0 x1 x2 x3 x4 : AV} {qc : vw_C} (hn : nP Z 5) (hl : ML Y.1.cls idx Z.1) (hd : decode Y.2.1 pc = .ok (.invokevirtual idx, 3)) (hp : pc + 3 = q) (hcl : vwCl[ci]? = some qc) (hcn : qc.1 = Z.1.cls) (hb : sO σ b ci) (hh : hz + 1 ≤ h) (hk : k + mc ≤ MC) (hs : n + ms ≤ MS) (hcat : (st.map avc).sum ≤ 8) (w : Wp (cG X) hz Z (vR b :: [x0, x1, x2, x3, x4]) (V, σ) mc ms (rK X q ls st (k + mc) (n + ms))) : AW X pc ls (x4 :: x3 :: x2 :: x1 :: x0 :: vR b :: st) (V, σ) k n := aw_callV (μ := (V, σ)) (As := [x0, x1, x2, x3, x4]) F hm hi hn hl hd hp hcl hcn hb hh hk hs hcat w
theorem av_callS5 (F : Fx X Y) {h MC MS : Nat} (hm : Rm X h MC MS) {Z : MD} (hi : MIS Z) {idx hz mc ms : Nat} {x0 x1 x2 x3 x4 : AV} (hn : nP Z 5) (hl : ML Y.1.cls idx Z.1) (hd : decode Y.2.1 pc = .ok (.invokestatic idx, 3)) (hp : pc + 3 = q) (hh : hz + 1 ≤ h) (hk : k + mc ≤ MC) (hs : n + ms ≤ MS) (hcat : (st.map avc).sum ≤ 8) (w : Wp (cG X) hz Z [x0, x1, x2, x3, x4] (V, σ) mc ms (rK X q ls st (k + mc) (n + ms))) : AW X pc ls (x4 :: x3 :: x2 :: x1 :: x0 :: st) (V, σ) k n := aw_callS (μ := (V, σ)) (As := [x0, x1, x2, x3, x4]) F hm hi hn hl hd hp hh hk hs hcat w
end MemRows
theorem wf_0_0 : wrF mC_init 0 0 := Or.inr ⟨fun q h => by cases h; rfl, rfl, fun q h => by cases h; rfl⟩
theorem wr_0_1 (Y : MD) : wrF Y 0 1 := Or.inl (fun q h => by cases h; rfl)
theorem wr_0_2 (Y : MD) : wrF Y 0 2 := Or.inl (fun q h => by cases h; rfl)
theorem wr_1_0 (Y : MD) : wrF Y 1 0 := Or.inl (fun q h => by cases h; rfl)
theorem wr_1_1 (Y : MD) : wrF Y 1 1 := Or.inl (fun q h => by cases h; rfl)
theorem wr_1_2 (Y : MD) : wrF Y 1 2 := Or.inl (fun q h => by cases h; rfl)
theorem wr_1_3 (Y : MD) : wrF Y 1 3 := Or.inl (fun q h => by cases h; rfl)
theorem wr_1_4 (Y : MD) : wrF Y 1 4 := Or.inl (fun q h => by cases h; rfl)
theorem wr_2_0 (Y : MD) : wrF Y 2 0 := Or.inl (fun q h => by cases h; rfl)
theorem wr_2_1 (Y : MD) : wrF Y 2 1 := Or.inl (fun q h => by cases h; rfl)
theorem wr_2_2 (Y : MD) : wrF Y 2 2 := Or.inl (fun q h => by cases h; rfl)
theorem wr_2_3 (Y : MD) : wrF Y 2 3 := Or.inl (fun q h => by cases h; rfl)
theorem wr_2_4 (Y : MD) : wrF Y 2 4 := Or.inl (fun q h => by cases h; rfl)
theorem wr_2_5 (Y : MD) : wrF Y 2 5 := Or.inl (fun q h => by cases h; rfl)
theorem wr_2_6 (Y : MD) : wrF Y 2 6 := Or.inl (fun q h => by cases h; rfl)
theorem wr_2_7 (Y : MD) : wrF Y 2 7 := Or.inl (fun q h => by cases h; rfl)
theorem wf_2_8 : wrF mH_init 2 8 := Or.inr ⟨fun q h => by cases h; rfl, rfl, fun q h => by cases h; rfl⟩
theorem wr_2_9 (Y : MD) : wrF Y 2 9 := Or.inl (fun q h => by cases h; rfl)
theorem wr_2_10 (Y : MD) : wrF Y 2 10 := Or.inl (fun q h => by cases h; rfl)
theorem wr_2_11 (Y : MD) : wrF Y 2 11 := Or.inl (fun q h => by cases h; rfl)
theorem wr_2_12 (Y : MD) : wrF Y 2 12 := Or.inl (fun q h => by cases h; rfl)
theorem wr_2_13 (Y : MD) : wrF Y 2 13 := Or.inl (fun q h => by cases h; rfl)
theorem wf_2_14 : wrF mH_init 2 14 := Or.inr ⟨fun q h => by cases h; rfl, rfl, fun q h => by cases h; rfl⟩
theorem wf_2_15 : wrF mH_init 2 15 := Or.inr ⟨fun q h => by cases h; rfl, rfl, fun q h => by cases h; rfl⟩
theorem wf_2_16 : wrF mH_init 2 16 := Or.inr ⟨fun q h => by cases h; rfl, rfl, fun q h => by cases h; rfl⟩
theorem wf_2_17 : wrF mH_init 2 17 := Or.inr ⟨fun q h => by cases h; rfl, rfl, fun q h => by cases h; rfl⟩
theorem wf_3_0 : wrF mE_init 3 0 := Or.inr ⟨fun q h => by cases h; rfl, rfl, fun q h => by cases h; rfl⟩
theorem wr_3_1 (Y : MD) : wrF Y 3 1 := Or.inl (fun q h => by cases h; rfl)
theorem wr_3_2 (Y : MD) : wrF Y 3 2 := Or.inl (fun q h => by cases h; rfl)
theorem wf_3_3 : wrF mE_init 3 3 := Or.inr ⟨fun q h => by cases h; rfl, rfl, fun q h => by cases h; rfl⟩
theorem wf_3_4 : wrF mE_init 3 4 := Or.inr ⟨fun q h => by cases h; rfl, rfl, fun q h => by cases h; rfl⟩
theorem wr_3_5 (Y : MD) : wrF Y 3 5 := Or.inl (fun q h => by cases h; rfl)
theorem wr_3_6 (Y : MD) : wrF Y 3 6 := Or.inl (fun q h => by cases h; rfl)
theorem wr_3_7 (Y : MD) : wrF Y 3 7 := Or.inl (fun q h => by cases h; rfl)
theorem wr_3_8 (Y : MD) : wrF Y 3 8 := Or.inl (fun q h => by cases h; rfl)
theorem wr_3_9 (Y : MD) : wrF Y 3 9 := Or.inl (fun q h => by cases h; rfl)
theorem wr_3_10 (Y : MD) : wrF Y 3 10 := Or.inl (fun q h => by cases h; rfl)
theorem wf_3_11 : wrF mE_init 3 11 := Or.inr ⟨fun q h => by cases h; rfl, rfl, fun q h => by cases h; rfl⟩
theorem wr_4_0 (Y : MD) : wrF Y 4 0 := Or.inl (fun q h => by cases h; rfl)
theorem wf_4_1 : wrF mR_init 4 1 := Or.inr ⟨fun q h => by cases h; rfl, rfl, fun q h => by cases h; rfl⟩
theorem wf_4_2 : wrF mR_init 4 2 := Or.inr ⟨fun q h => by cases h; rfl, rfl, fun q h => by cases h; rfl⟩
theorem wf_4_3 : wrF mR_init 4 3 := Or.inr ⟨fun q h => by cases h; rfl, rfl, fun q h => by cases h; rfl⟩
theorem wr_4_4 (Y : MD) : wrF Y 4 4 := Or.inl (fun q h => by cases h; rfl)
theorem wr_4_5 (Y : MD) : wrF Y 4 5 := Or.inl (fun q h => by cases h; rfl)
theorem wr_4_6 (Y : MD) : wrF Y 4 6 := Or.inl (fun q h => by cases h; rfl)
theorem wf_5_0 : wrF mS_init 5 0 := Or.inr ⟨fun q h => by cases h; rfl, rfl, fun q h => by cases h; rfl⟩
theorem wr_5_1 (Y : MD) : wrF Y 5 1 := Or.inl (fun q h => by cases h; rfl)
theorem wr_5_2 (Y : MD) : wrF Y 5 2 := Or.inl (fun q h => by cases h; rfl)
theorem wr_5_3 (Y : MD) : wrF Y 5 3 := Or.inl (fun q h => by cases h; rfl)
theorem wr_5_4 (Y : MD) : wrF Y 5 4 := Or.inl (fun q h => by cases h; rfl)
theorem wr_5_5 (Y : MD) : wrF Y 5 5 := Or.inl (fun q h => by cases h; rfl)
theorem wr_5_6 (Y : MD) : wrF Y 5 6 := Or.inl (fun q h => by cases h; rfl)
theorem wr_6_0 (Y : MD) : wrF Y 6 0 := Or.inl (fun q h => by cases h; rfl)
theorem wr_6_1 (Y : MD) : wrF Y 6 1 := Or.inl (fun q h => by cases h; rfl)
theorem wr_6_2 (Y : MD) : wrF Y 6 2 := Or.inl (fun q h => by cases h; rfl)
theorem wr_6_3 (Y : MD) : wrF Y 6 3 := Or.inl (fun q h => by cases h; rfl)
theorem wr_6_4 (Y : MD) : wrF Y 6 4 := Or.inl (fun q h => by cases h; rfl)
theorem wr_6_5 (Y : MD) : wrF Y 6 5 := Or.inl (fun q h => by cases h; rfl)
theorem wf_6_6 : wrF mT_init 6 6 := Or.inr ⟨fun q h => by cases h; rfl, rfl, fun q h => by cases h; rfl⟩
theorem wf_6_7 : wrF mT_init 6 7 := Or.inr ⟨fun q h => by cases h; rfl, rfl, fun q h => by cases h; rfl⟩
theorem wf_6_8 : wrF mT_init 6 8 := Or.inr ⟨fun q h => by cases h; rfl, rfl, fun q h => by cases h; rfl⟩
theorem wf_6_9 : wrF mT_init 6 9 := Or.inr ⟨fun q h => by cases h; rfl, rfl, fun q h => by cases h; rfl⟩
theorem wf_6_10 : wrF mT_init 6 10 := Or.inr ⟨fun q h => by cases h; rfl, rfl, fun q h => by cases h; rfl⟩
theorem wf_6_11 : wrF mT_init 6 11 := Or.inr ⟨fun q h => by cases h; rfl, rfl, fun q h => by cases h; rfl⟩
theorem wf_7_0 : wrF mL_init 7 0 := Or.inr ⟨fun q h => by cases h; rfl, rfl, fun q h => by cases h; rfl⟩
theorem wr_7_1 (Y : MD) : wrF Y 7 1 := Or.inl (fun q h => by cases h; rfl)
theorem wr_7_2 (Y : MD) : wrF Y 7 2 := Or.inl (fun q h => by cases h; rfl)
theorem wr_7_3 (Y : MD) : wrF Y 7 3 := Or.inl (fun q h => by cases h; rfl)
theorem wr_7_4 (Y : MD) : wrF Y 7 4 := Or.inl (fun q h => by cases h; rfl)
theorem wr_7_5 (Y : MD) : wrF Y 7 5 := Or.inl (fun q h => by cases h; rfl)
theorem wf_7_6 : wrF mL_init 7 6 := Or.inr ⟨fun q h => by cases h; rfl, rfl, fun q h => by cases h; rfl⟩
theorem wf_7_7 : wrF mL_init 7 7 := Or.inr ⟨fun q h => by cases h; rfl, rfl, fun q h => by cases h; rfl⟩
theorem wr_7_8 (Y : MD) : wrF Y 7 8 := Or.inl (fun q h => by cases h; rfl)
theorem wf_7_9 : wrF mL_init 7 9 := Or.inr ⟨fun q h => by cases h; rfl, rfl, fun q h => by cases h; rfl⟩
theorem wr_7_10 (Y : MD) : wrF Y 7 10 := Or.inl (fun q h => by cases h; rfl)
theorem wf_7_11 : wrF mL_init 7 11 := Or.inr ⟨fun q h => by cases h; rfl, rfl, fun q h => by cases h; rfl⟩
theorem wr_7_12 (Y : MD) : wrF Y 7 12 := Or.inl (fun q h => by cases h; rfl)
theorem wf_7_13 : wrF mL_init 7 13 := Or.inr ⟨fun q h => by cases h; rfl, rfl, fun q h => by cases h; rfl⟩
theorem wf_7_14 : wrF mL_init 7 14 := Or.inr ⟨fun q h => by cases h; rfl, rfl, fun q h => by cases h; rfl⟩
theorem wf_7_15 : wrF mL_init 7 15 := Or.inr ⟨fun q h => by cases h; rfl, rfl, fun q h => by cases h; rfl⟩
theorem wf_7_16 : wrF mL_init 7 16 := Or.inr ⟨fun q h => by cases h; rfl, rfl, fun q h => by cases h; rfl⟩
theorem wr_8_0 (Y : MD) : wrF Y 8 0 := Or.inl (fun q h => by cases h; rfl)
theorem wr_8_1 (Y : MD) : wrF Y 8 1 := Or.inl (fun q h => by cases h; rfl)
theorem wr_8_2 (Y : MD) : wrF Y 8 2 := Or.inl (fun q h => by cases h; rfl)
theorem wr_8_3 (Y : MD) : wrF Y 8 3 := Or.inl (fun q h => by cases h; rfl)
theorem wr_8_4 (Y : MD) : wrF Y 8 4 := Or.inl (fun q h => by cases h; rfl)
theorem wr_8_5 (Y : MD) : wrF Y 8 5 := Or.inl (fun q h => by cases h; rfl)
theorem wr_8_6 (Y : MD) : wrF Y 8 6 := Or.inl (fun q h => by cases h; rfl)
theorem wr_8_7 (Y : MD) : wrF Y 8 7 := Or.inl (fun q h => by cases h; rfl)
theorem wr_8_8 (Y : MD) : wrF Y 8 8 := Or.inl (fun q h => by cases h; rfl)
theorem wf_8_9 : wrF mN_init 8 9 := Or.inr ⟨fun q h => by cases h; rfl, rfl, fun q h => by cases h; rfl⟩
theorem wf_8_10 : wrF mN_init 8 10 := Or.inr ⟨fun q h => by cases h; rfl, rfl, fun q h => by cases h; rfl⟩
theorem wf_8_11 : wrF mN_init 8 11 := Or.inr ⟨fun q h => by cases h; rfl, rfl, fun q h => by cases h; rfl⟩
theorem wf_8_12 : wrF mN_init 8 12 := Or.inr ⟨fun q h => by cases h; rfl, rfl, fun q h => by cases h; rfl⟩
theorem wf_8_13 : wrF mN_init 8 13 := Or.inr ⟨fun q h => by cases h; rfl, rfl, fun q h => by cases h; rfl⟩
theorem wr_8_14 (Y : MD) : wrF Y 8 14 := Or.inl (fun q h => by cases h; rfl)
theorem wf_8_15 : wrF mN_init 8 15 := Or.inr ⟨fun q h => by cases h; rfl, rfl, fun q h => by cases h; rfl⟩
theorem wf_8_16 : wrF mN_init 8 16 := Or.inr ⟨fun q h => by cases h; rfl, rfl, fun q h => by cases h; rfl⟩
theorem wf_8_17 : wrF mN_init 8 17 := Or.inr ⟨fun q h => by cases h; rfl, rfl, fun q h => by cases h; rfl⟩
theorem wr_9_0 (Y : MD) : wrF Y 9 0 := Or.inl (fun q h => by cases h; rfl)
theorem wr_9_1 (Y : MD) : wrF Y 9 1 := Or.inl (fun q h => by cases h; rfl)
theorem wr_9_2 (Y : MD) : wrF Y 9 2 := Or.inl (fun q h => by cases h; rfl)
theorem wr_9_3 (Y : MD) : wrF Y 9 3 := Or.inl (fun q h => by cases h; rfl)
theorem wr_9_4 (Y : MD) : wrF Y 9 4 := Or.inl (fun q h => by cases h; rfl)
theorem wf_9_5 : wrF mM_init 9 5 := Or.inr ⟨fun q h => by cases h; rfl, rfl, fun q h => by cases h; rfl⟩
theorem wr_9_6 (Y : MD) : wrF Y 9 6 := Or.inl (fun q h => by cases h; rfl)
theorem wr_9_7 (Y : MD) : wrF Y 9 7 := Or.inl (fun q h => by cases h; rfl)
theorem wr_9_8 (Y : MD) : wrF Y 9 8 := Or.inl (fun q h => by cases h; rfl)
theorem wr_9_9 (Y : MD) : wrF Y 9 9 := Or.inl (fun q h => by cases h; rfl)
theorem wr_9_10 (Y : MD) : wrF Y 9 10 := Or.inl (fun q h => by cases h; rfl)
theorem wr_9_11 (Y : MD) : wrF Y 9 11 := Or.inl (fun q h => by cases h; rfl)
theorem wr_9_12 (Y : MD) : wrF Y 9 12 := Or.inl (fun q h => by cases h; rfl)
theorem wr_9_13 (Y : MD) : wrF Y 9 13 := Or.inl (fun q h => by cases h; rfl)
theorem wr_9_14 (Y : MD) : wrF Y 9 14 := Or.inl (fun q h => by cases h; rfl)
theorem wf_9_15 : wrF mM_init 9 15 := Or.inr ⟨fun q h => by cases h; rfl, rfl, fun q h => by cases h; rfl⟩
theorem wf_9_16 : wrF mM_init 9 16 := Or.inr ⟨fun q h => by cases h; rfl, rfl, fun q h => by cases h; rfl⟩
theorem wf_9_17 : wrF mM_init 9 17 := Or.inr ⟨fun q h => by cases h; rfl, rfl, fun q h => by cases h; rfl⟩
theorem wf_9_18 : wrF mM_init 9 18 := Or.inr ⟨fun q h => by cases h; rfl, rfl, fun q h => by cases h; rfl⟩
theorem wr_9_19 (Y : MD) : wrF Y 9 19 := Or.inl (fun q h => by cases h; rfl)
theorem wr_9_20 (Y : MD) : wrF Y 9 20 := Or.inl (fun q h => by cases h; rfl)
theorem wf_9_21 : wrF mM_init 9 21 := Or.inr ⟨fun q h => by cases h; rfl, rfl, fun q h => by cases h; rfl⟩
theorem wf_9_22 : wrF mM_init 9 22 := Or.inr ⟨fun q h => by cases h; rfl, rfl, fun q h => by cases h; rfl⟩
theorem wf_9_23 : wrF mM_init 9 23 := Or.inr ⟨fun q h => by cases h; rfl, rfl, fun q h => by cases h; rfl⟩
theorem wf_9_24 : wrF mM_init 9 24 := Or.inr ⟨fun q h => by cases h; rfl, rfl, fun q h => by cases h; rfl⟩
theorem wr_9_25 (Y : MD) : wrF Y 9 25 := Or.inl (fun q h => by cases h; rfl)
theorem wr_9_26 (Y : MD) : wrF Y 9 26 := Or.inl (fun q h => by cases h; rfl)
theorem wr_9_27 (Y : MD) : wrF Y 9 27 := Or.inl (fun q h => by cases h; rfl)
theorem wf_9_28 : wrF mM_init 9 28 := Or.inr ⟨fun q h => by cases h; rfl, rfl, fun q h => by cases h; rfl⟩
theorem wr_9_29 (Y : MD) : wrF Y 9 29 := Or.inl (fun q h => by cases h; rfl)
theorem wr_9_30 (Y : MD) : wrF Y 9 30 := Or.inl (fun q h => by cases h; rfl)
theorem wr_9_31 (Y : MD) : wrF Y 9 31 := Or.inl (fun q h => by cases h; rfl)
theorem wr_9_32 (Y : MD) : wrF Y 9 32 := Or.inl (fun q h => by cases h; rfl)
theorem oi_L_1 : Cond.methodLink "LastLatch" 1 Lib.objectInit ∈ TBL := tb1 28 (by decide +kernel) rfl
theorem oi_T_3 : Cond.methodLink "LastLatch$Told" 3 Lib.objectInit ∈ TBL := tb1 36 (by decide +kernel) rfl
theorem oi_H_5 : Cond.methodLink "LastLatch$Hall" 5 Lib.objectInit ∈ TBL := tb1 105 (by decide +kernel) rfl
theorem oi_S_3 : Cond.methodLink "LastLatch$Search" 3 Lib.objectInit ∈ TBL := tb1 179 (by decide +kernel) rfl
theorem oi_R_3 : Cond.methodLink "LastLatch$Rows" 3 Lib.objectInit ∈ TBL := tb1 216 (by decide +kernel) rfl
theorem oi_C_3 : Cond.methodLink "LastLatch$Contest" 3 Lib.objectInit ∈ TBL := tb2 5 (by decide +kernel) rfl
theorem oi_U_3 : Cond.methodLink "LastLatch$Gusts" 3 Lib.objectInit ∈ TBL := tb2 23 (by decide +kernel) rfl
theorem oi_E_3 : Cond.methodLink "LastLatch$Reader" 3 Lib.objectInit ∈ TBL := tb2 115 (by decide +kernel) rfl
theorem oi_JT_1 : Cond.methodLink "java/lang/Throwable" 1 Lib.objectInit ∈ TBL := tb5 233 (by decide +kernel) rfl
theorem oi_M_3 : Cond.methodLink "LastLatchModel" 3 Lib.objectInit ∈ TBL := tb6 34 (by decide +kernel) rfl
theorem oi_N_3 : Cond.methodLink "LastLatchModel$Lane" 3 Lib.objectInit ∈ TBL := tb6 157 (by decide +kernel) rfl
