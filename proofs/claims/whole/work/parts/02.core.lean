/-- where a static field lies, its class's statics cell in H -/
def vx_L (C n d : String) (A : Nat → Prop) (U : State) (H : Heap) : Prop := ∃ (c : ClassId) (k : Class) (i : Nat) (f : Field) (a : Nat) (cell : Cell), U.vm.findClass C = some c ∧ U.fieldFound? C n d = some (c, k, i, f) ∧ f.isStatic = true ∧ k.statics = some a ∧ H[a]? = some cell ∧ cell.vm.isStatics = true ∧ cell.cls = c ∧ f.slot < cell.slots.size ∧ k.staticTypes[f.slot]? = some f.type ∧ ¬ A a
theorem vx_L.moved {C n d : String} {A : Nat → Prop} {u U : State} {H : Heap} (hvm : u.vm.Alike U.vm) (h : vx_L C n d A u H) : vx_L C n d A U H := by
  obtain ⟨c, k, i, f, a, cell, h1, h2, h3, h4, h5, h6, h7, h8, h9, h10⟩ := h
  obtain ⟨k', hi', he⟩ := State.fieldFound?_setVm hvm h2
  exact ⟨c, k', i, f, a, cell, by rw [hvm.findClass]; exact h1, hi', h3, by rw [he]; exact h4, h5, h6, h7, h8, by rw [he]; exact h9, h10⟩
theorem vx_L.kept {C n d : String} {A : Nat → Prop} {U : State} {H H1 : Heap} (h : vx_L C n d A U H) (hq : ∀ a : Nat, a < H.size → ¬ A a → H1[a]? = H[a]?) : vx_L C n d A U H1 := by
  obtain ⟨c, k, i, f, a, cell, h1, h2, h3, h4, h5, h6, h7, h8, h9, h10⟩ := h
  exact ⟨c, k, i, f, a, cell, h1, h2, h3, h4, by rw [hq a (Array.getElem?_eq_some_iff.mp h5).1 h10]; exact h5, h6, h7, h8, h9, h10⟩
theorem vx_L.narrow {C n d : String} {A B : Nat → Prop} {U : State} {H : Heap} (h : vx_L C n d A U H) (hAB : ∀ q, B q → A q) : vx_L C n d B U H := by
  obtain ⟨c, k, i, f, a, cell, h1, h2, h3, h4, h5, h6, h7, h8, h9, h10⟩ := h
  exact ⟨c, k, i, f, a, cell, h1, h2, h3, h4, h5, h6, h7, h8, h9, fun z => h10 (hAB _ z)⟩
theorem vx_L.word {C n d : String} {A : Nat → Prop} {s : State} {args : Array Value} (h : vx_L C n d A s s.heap) : (Cond.laysStatic C n d).before args s = true := by
  obtain ⟨c, k, i, f, a, cell, h1, h2, h3, h4, h5, h6, h7, h8, h9, -⟩ := h
  show (Cond.laysStatic C n d).holds args s none s [] = true
  exact Cond.laysStatic_of h1 h2 h3 h4 h5 h6 h7 h8 h9
/-- .. and what it holds: null or some reference -/
def vx_Zq (C n d : String) (A : Nat → Prop) (U : State) (H : Heap) : Prop := va_Zq C n d A U H ∧ vx_L C n d A U H
theorem vx_Zq.moved {C n d : String} {A : Nat → Prop} {u U : State} {H : Heap} (hvm : u.vm.Alike U.vm) (h : vx_Zq C n d A u H) : vx_Zq C n d A U H := ⟨va_Zq.moved hvm h.1, vx_L.moved hvm h.2⟩
theorem vx_Zq.kept {C n d : String} {A : Nat → Prop} {U : State} {H H1 : Heap} (h : vx_Zq C n d A U H) (hq : ∀ a : Nat, a < H.size → ¬ A a → H1[a]? = H[a]?) : vx_Zq C n d A U H1 := ⟨va_Zq.kept h.1 hq, vx_L.kept h.2 hq⟩
theorem vx_Zq.narrow {C n d : String} {A B : Nat → Prop} {U : State} {H : Heap} (h : vx_Zq C n d A U H) (hAB : ∀ q, B q → A q) : vx_Zq C n d B U H := ⟨va_Zq.narrow h.1 hAB, vx_L.narrow h.2 hAB⟩
-- abstract values: an int, a long, a reference (0: null)
abbrev AV : Type := Int ⊕ Int ⊕ Nat
abbrev vI (z : Int) : AV := Sum.inl z
abbrev vL (z : Int) : AV := Sum.inr (Sum.inl z)
abbrev vR (n : Nat) : AV := Sum.inr (Sum.inr n)
-- the memory: numbers, references, kinds, lengths, the next name
abbrev Mem : Type := (Nat → Nat → Int) × (Nat → Nat → Nat) × (Nat → Nat) × (Nat → Nat) × Nat
abbrev mV (μ : Mem) : Nat → Nat → Int := μ.1
abbrev mP (μ : Mem) : Nat → Nat → Nat := μ.2.1
abbrev mT (μ : Mem) : Nat → Nat := μ.2.2.1
abbrev mN (μ : Mem) : Nat → Nat := μ.2.2.2.1
abbrev mX (μ : Mem) : Nat := μ.2.2.2.2
def up2 {α : Type} (f : Nat → Nat → α) (a k : Nat) (z : α) : Nat → Nat → α := fun b j => if b = a ∧ j = k then z else f b j
abbrev setV (μ : Mem) (a k : Nat) (z : Int) : Mem := (up2 (mV μ) a k z, μ.2)
abbrev setP (μ : Mem) (a k : Nat) (r : Nat) : Mem := (mV μ, up2 (mP μ) a k r, μ.2.2)
/-- a new cell of kind t and length n, all 0 -/
abbrev newM (μ : Mem) (t n : Nat) : Mem := (fun b j => if b = mX μ then 0 else mV μ b j, fun b j => if b = mX μ then 0 else mP μ b j, fun b => if b = mX μ then t else mT μ b, fun b => if b = mX μ then n else mN μ b, mX μ + 1)
theorem up2_same {α : Type} (f : Nat → Nat → α) (a k : Nat) (z : α) : up2 f a k z a k = z := by simp [up2]
theorem up2_ne {α : Type} (f : Nat → Nat → α) {a k b j : Nat} (z : α) (h : ¬ (b = a ∧ j = k)) : up2 f a k z b j = f b j := by simp [up2, h]
theorem up2_nea {α : Type} (f : Nat → Nat → α) {a k b : Nat} (z : α) (h : b ≠ a) : up2 f a k z b = f b := by funext j; simp [up2, h]
theorem up2_nek {α : Type} (f : Nat → Nat → α) {a k b j : Nat} (z : α) (h : j ≠ k) : up2 f a k z b j = f b j := by simp [up2, h]
-- the surroundings of a run: launch, numbers of kinds and fields, classes of rows, the texts' cells
abbrev GE : Type := Launch × va_G × (Nat → ClassId) × (Nat → Nat) × (Nat → Nat)
abbrev gl (G : GE) : Launch := G.1
abbrev gD (G : GE) : va_G := G.2.1
abbrev gy (G : GE) : Nat → ClassId := G.2.2.1
abbrev gK (G : GE) : Nat → Nat := G.2.2.2.1
abbrev gW (G : GE) : Nat → Nat := G.2.2.2.2
def BG : Nat := 1000000000
/-- texts, their rows of bytes, the formatter: names from BG on -/
def gX (G : GE) (k : Nat) : Nat := if k < 19 then gK G k else if k < 38 then gW G (k - 19) else gK G k
def trv (ad : Nat → Nat) : AV → Value
  | .inl z => .int (Int32.ofInt z)
  | .inr (.inl z) => .long (Int64.ofInt z)
  | .inr (.inr n) => if n = 0 then .null else .ref (ad n)
def fv (ad : Nat → Nat) (μ : Mem) (i k : Nat) (ty : FieldType) : Value := match ty with
  | .long => .long (Int64.ofInt (mV μ i k))
  | .object _ => trv ad (vR (mP μ i k))
  | .array _ => trv ad (vR (mP μ i k))
  | _ => .int (Int32.ofInt (mV μ i k))
def cel (G : GE) (ad : Nat → Nat) (μ : Mem) (i : Nat) : va_E :=
  if mT μ i = 10 then .inl (gy G 0, mN μ i, .inl (fun j => Int32.ofInt (mV μ i j)))
  else if mT μ i = 11 then .inl (gy G 1, mN μ i, .inl (fun j => Int32.ofInt (mV μ i j)))
  else if mT μ i = 12 then .inl (gy G 2, mN μ i, .inr (.inl (fun j => Int64.ofInt (mV μ i j))))
  else .inr (mT μ i, (List.range (nF (mT μ i))).map (fun k => fv ad μ i k (tyF (mT μ i) k)))
def wrl (G : GE) (ad : Nat → Nat) (μ : Mem) : va_W := (List.range (mX μ - 1)).map (fun i => (ad (i + 1), cel G ad μ (i + 1)))
-- what is in order
abbrev okI (z : Int) : Prop := -2147483648 ≤ z ∧ z < 2147483648
abbrev okL (z : Int) : Prop := -9223372036854775808 ≤ z ∧ z < 9223372036854775808
def okR (μ : Mem) (n : Nat) : Prop := n < mX μ ∨ BG ≤ n
def okV (μ : Mem) : AV → Prop
  | .inl z => okI z
  | .inr (.inl z) => okL z
  | .inr (.inr n) => okR μ n
/-- a place that holds a long -/
def lgS (t k : Nat) : Prop := t = 12 ∨ (t < 10 ∧ tyF t k = .long)
def okM (μ : Mem) : Prop := (0 < mX μ ∧ mX μ ≤ BG) ∧ (∀ a k, okR μ (mP μ a k)) ∧ ∀ a k, (lgS (mT μ a) k → okL (mV μ a k)) ∧ (¬ lgS (mT μ a) k → okI (mV μ a k)) ∧ (mT μ a = 10 → -128 ≤ mV μ a k ∧ mV μ a k < 128)
/-- an object of kind c; a row of kind t and length n -/
def isO (μ : Mem) (a c : Nat) : Prop := mT μ a = c ∧ 0 < a ∧ a < mX μ
def isA (μ : Mem) (a t n : Nat) : Prop := mT μ a = t ∧ mN μ a = n ∧ 0 < a ∧ a < mX μ
-- the texts
def kOwn (i : Nat) : String := if i < 3 then "LastLatch$Reader" else "LastLatchModel"
def kIdx (i : Nat) : Nat := [53, 101, 112, 117, 213, 123, 125, 127, 129, 131, 133, 135, 137, 139, 141, 222, 224, 226, 228].getD i 0
def kTx (i : Nat) : String := ["lane    door    locked  last    ajar    person  inside  key     home    wants   seen    ", "drafts  ", "plain   spring  heavy   stuck   ", "lane", "drafts", "door", "locked", "last", "ajar", "person", "inside", "key", "home", "wants", "seen", "plain", "spring", "heavy", "stuck"].getD i ""
def kLen : List Nat := [88, 8, 32, 4, 6, 4, 6, 4, 4, 6, 6, 3, 4, 5, 4, 5, 6, 5, 5]
def kByt : List (List Int32) := [[108, 97, 110, 101, 32, 32, 32, 32, 100, 111, 111, 114, 32, 32, 32, 32, 108, 111, 99, 107, 101, 100, 32, 32, 108, 97, 115, 116, 32, 32, 32, 32, 97, 106, 97, 114, 32, 32, 32, 32, 112, 101, 114, 115, 111, 110, 32, 32, 105, 110, 115, 105, 100, 101, 32, 32, 107, 101, 121, 32, 32, 32, 32, 32, 104, 111, 109, 101, 32, 32, 32, 32, 119, 97, 110, 116, 115, 32, 32, 32, 115, 101, 101, 110, 32, 32, 32, 32], [100, 114, 97, 102, 116, 115, 32, 32], [112, 108, 97, 105, 110, 32, 32, 32, 115, 112, 114, 105, 110, 103, 32, 32, 104, 101, 97, 118, 121, 32, 32, 32, 115, 116, 117, 99, 107, 32, 32, 32], [108, 97, 110, 101], [100, 114, 97, 102, 116, 115], [100, 111, 111, 114], [108, 111, 99, 107, 101, 100], [108, 97, 115, 116], [97, 106, 97, 114], [112, 101, 114, 115, 111, 110], [105, 110, 115, 105, 100, 101], [107, 101, 121], [104, 111, 109, 101], [119, 97, 110, 116, 115], [115, 101, 101, 110], [112, 108, 97, 105, 110], [115, 112, 114, 105, 110, 103], [104, 101, 97, 118, 121], [115, 116, 117, 99, 107]]
def tyl (G : GE) : List (ClassId × FieldType) := [(gy G 0, .byte), (gy G 1, .int), (gy G 2, .long)]
/-- what stays: the tables, the nest's links, the texts, the statics -/
def KF (G : GE) (A : Nat → Prop) (U : State) (H : Heap) : Prop := va_K (gD G) vwCl (tyl G) U ∧ (∀ w ∈ nestW, va_Nw w U) ∧ vk_S 19 kLen kByt (gK G) (gW G) A U H ∧ (∀ i, i < 19 → vk_R (kOwn i) (kIdx i) (kTx i) (gK G i) U) ∧ va_Z "java/lang/String" "COMPACT_STRINGS" "Z" (.int 1) A U H ∧ vx_Zq "java/lang/Throwable" "UNASSIGNED_STACK" "[Ljava/lang/StackTraceElement;" A U H ∧ vx_Zq "java/lang/Throwable" "SUPPRESSED_SENTINEL" "Ljava/util/List;" A U H ∧ va_Z "jdk/internal/util/Preconditions" "SIOOBE_FORMATTER" "Ljava/util/function/BiFunction;" (if gK G 39 = 0 then .null else .ref (gK G 38)) A U H
theorem KF.moved {G : GE} {A : Nat → Prop} {u U : State} {H : Heap} (hW : u.WarmedH U.vm) (h : KF G A u H) : KF G A U H := by
  obtain ⟨h1, h2, h3, h4, h5, h6, h7, h8⟩ := h
  refine ⟨h1.moved hW.alike, fun w hw => ?_, h3.moved hW.alike, fun i hi => (h4 i hi).warm hW, va_Z.moved hW.alike h5, h6.moved hW.alike, h7.moved hW.alike, va_Z.moved hW.alike h8⟩
  have hn := (List.mem_filter.mp hw).2
  have h2 := h2 w hw
  cases w <;> first | exact va_Nw.warmF hW h2 | exact va_Nw.warmM hW h2 | (simp [isNest] at hn)
theorem KF.kept {G : GE} {A : Nat → Prop} {U : State} {H H1 : Heap} (h : KF G A U H) (hq : ∀ a : Nat, a < H.size → ¬ A a → H1[a]? = H[a]?) : KF G A U H1 := by
  obtain ⟨h1, h2, h3, h4, h5, h6, h7, h8⟩ := h
  exact ⟨h1, h2, h3.kept hq, h4, h5.kept hq, h6.kept hq, h7.kept hq, h8.kept hq⟩
theorem KF.narrow {G : GE} {A B : Nat → Prop} {U : State} {H : Heap} (h : KF G A U H) (hAB : ∀ q, B q → A q) : KF G B U H := by
  obtain ⟨h1, h2, h3, h4, h5, h6, h7, h8⟩ := h
  exact ⟨h1, h2, h3.narrow hAB, h4, h5.narrow hAB, h6.narrow hAB, h7.narrow hAB, h8.narrow hAB⟩
-- a method's own context
abbrev CT : Type := GE × Program × Env × Room × State × MethodId × Array Value × List Frame × Method × Code × (Nat → Prop) × (State → Prop) × Nat × (Nat → Nat) × Nat
abbrev cG (X : CT) : GE := X.1
abbrev cPr (X : CT) : Program := X.2.1
abbrev cE (X : CT) : Env := X.2.2.1
abbrev cR (X : CT) : Room := X.2.2.2.1
abbrev cS (X : CT) : State := X.2.2.2.2.1
abbrev cM (X : CT) : MethodId := X.2.2.2.2.2.1
abbrev cAr (X : CT) : Array Value := X.2.2.2.2.2.2.1
abbrev cBe (X : CT) : List Frame := X.2.2.2.2.2.2.2.1
abbrev cMe (X : CT) : Method := X.2.2.2.2.2.2.2.2.1
abbrev cC (X : CT) : Code := X.2.2.2.2.2.2.2.2.2.1
abbrev cA (X : CT) : Nat → Prop := X.2.2.2.2.2.2.2.2.2.2.1
abbrev cQ (X : CT) : State → Prop := X.2.2.2.2.2.2.2.2.2.2.2.1
abbrev cN (X : CT) : Nat := X.2.2.2.2.2.2.2.2.2.2.2.2.1
abbrev cAd (X : CT) : Nat → Nat := X.2.2.2.2.2.2.2.2.2.2.2.2.2.1
abbrev cX0 (X : CT) : Nat := X.2.2.2.2.2.2.2.2.2.2.2.2.2.2
def lsR (nL : Nat) (ad : Nat → Nat) (ls : List (Option AV)) (lsl : Array Slot) : Prop := lsl.size = nL ∧ lv_wf lsl ∧ ls.length = nL ∧ ∀ (i : Nat) (v : AV), ls[i]? = some (some v) → lsl[i]? = some (.val (trv ad v))
/-- the state is in order, and the machine's heap is the memory's picture -/
def RP (X : CT) (ls : List (Option AV)) (st : List AV) (μ : Mem) (ad : Nat → Nat) (H : Heap) (locs : List Loc) (lsl : Array Slot) : Prop :=
  okM μ ∧ (∀ v, some v ∈ ls → okV μ v) ∧ (∀ v ∈ st, okV μ v) ∧ (cX0 X ≤ mX μ ∧ ∀ q, (q < cX0 X ∨ BG ≤ q) → ad q = cAd X q) ∧
  va_P (gD (cG X)) vwCl (wrl (cG X) ad μ) H ∧ va_D (cA X) (wrl (cG X) ad μ) ∧ va_S (cA X) (cS X).heap H locs ∧ lsR (cN X) ad ls lsl
def AW (X : CT) (pc : Nat) (ls : List (Option AV)) (st : List AV) (μ : Mem) (k n : Nat) : Prop :=
  ∀ (ad : Nat → Nat) (H : Heap) (locs : List Loc) (lsl : Array Slot), RP X ls st μ ad H locs lsl →
    W (cPr X) (gl (cG X)) (cE X) (cR X) (cS X) (cM X) (cAr X) (cBe X) (cMe X) (cC X) H locs k n (cQ X) (F0 (cM X) pc lsl (st.map (trv ad)))
def Fx (X : CT) (Y : MD) : Prop := (cPr X).tables.exec = Jvm.exec ∧ (cC X).code = Y.2.1 ∧ (cC X).maxLocals = cN X ∧ (cS X).vm.findClass Y.1.cls = some (cM X).cls ∧ (∀ w ∈ TBL, w.before (cAr X) (cS X) = true) ∧ KF (cG X) (cA X) (cS X) (cS X).heap ∧ (∀ q, (cS X).heap.size ≤ q → cA X q) ∧ (cMe X).locks = false ∧ (cMe X).name = Y.1.name ∧ (∀ k, k < 39 → cAd X (BG + k) = gX (cG X) k) ∧ (cMe X).sig.returnType = Y.2.2.2
-- contracts
def rmN (h mc ms : Nat) : Room := { frames := h + 1, cells := mc, slots := ms, locals := 100 * (h + 1) }
def wsM (Y : MD) : List Cond := Cond.code Y.1 Y.2.1 Y.2.2.1 Y.2.2.2 :: TBL
def pW (G : GE) (ad : Nat → Nat) (args : List AV) (μ : Mem) (sz : Nat) : Array Value → State → Prop := va_Pc (args.map (trv ad)) (fun U => U.heap.size = sz ∧ va_P (gD G) vwCl (wrl G ad μ) U.heap ∧ va_D (fun _ => True) (wrl G ad μ) ∧ KF G (va_A (wrl G ad μ) sz) U U.heap)
def qW (G : GE) (ad : Nat → Nat) (μ : Mem) (sz : Nat) (K : Option AV → Mem → Prop) : Array Value → State → Outcome → State → Prop := fun _ st oc t =>
  (∃ (r : Option AV) (μ' : Mem) (ad' : Nat → Nat), oc = .returned (r.map (trv ad')) ∧ K r μ' ∧ okM μ' ∧ (∀ v, r = some v → okV μ' v) ∧ mX μ ≤ mX μ' ∧ (∀ q, (q < mX μ ∨ BG ≤ q) → ad' q = ad q) ∧ va_P (gD G) vwCl (wrl G ad' μ') t.heap ∧ va_D (va_A (wrl G ad μ) sz) (wrl G ad' μ')) ∧ va_F (va_A (wrl G ad μ) sz) st t
/-- called with args in memory μ, Y returns r in a memory μ' with K r μ'; it makes at most mc cells of ms slots; h: how deep it calls -/
def Wp (G : GE) (h : Nat) (Y : MD) (args : List AV) (μ : Mem) (mc ms : Nat) (K : Option AV → Mem → Prop) : Prop :=
  ∀ (ad : Nat → Nat) (sz : Nat), okM μ → (∀ v ∈ args, okV μ v) → (∀ k, k < 39 → ad (BG + k) = gX G k) →
    Met (gl G) Y.1 (wsM Y) (rmN h mc ms) (pW G ad args μ sz) (qW G ad μ sz K) mc ms (va_A (wrl G ad μ) sz)
/-- the way back to the caller -/
def Rx (X : CT) (h mc ms : Nat) (K : Option AV → Mem → Prop) : Prop := ∃ (μ0 : Mem) (sz : Nat), cR X = rmN h mc ms ∧ cA X = va_A (wrl (cG X) (cAd X) μ0) sz ∧ cX0 X = mX μ0 ∧ cQ X = MQ (cBe X) (qW (cG X) (cAd X) μ0 sz K) (cAr X) (cS X) mc ms (cA X)
def initL (args : List AV) : List (Option AV) := args.flatMap (fun v => match v with
  | .inr (.inl z) => [some (vL z), none]
  | v => [some v])
theorem trv_cat2 (ad : Nat → Nat) (v : AV) : (trv ad v).category = 2 ↔ ∃ z, v = vL z := by
  rcases v with z | z | n
  · simp [trv, Value.category]
  · simp [trv, Value.category]
  · simp only [trv]; split <;> simp [Value.category]
theorem initL_args (ad : Nat → Nat) : ∀ (args : List AV) (o i : Nat) (v : AV), (initL args)[i]? = some (some v) → (o + i, trv ad v) ∈ lv_args o (args.map (trv ad))
  | [], o, i, v, h => by simp [initL] at h
  | a :: args, o, i, v, h => by
    have ih := initL_args ad args
    rcases a with z | z | n
    · simp only [initL, List.flatMap_cons, List.singleton_append] at h
      simp only [List.map_cons, lv_args]
      cases i with
      | zero => simp at h; subst h; simp
      | succ i =>
        rw [List.getElem?_cons_succ] at h
        have := ih (o + 1) i v h
        rw [if_neg (by simp [trv, Value.category]), show o + (i + 1) = o + 1 + i by omega]
        exact List.mem_cons_of_mem _ this
    · simp only [initL, List.flatMap_cons, List.cons_append, List.nil_append] at h
      simp only [List.map_cons, lv_args]
      match i, h with
      | 0, h => simp at h; subst h; simp
      | 1, h => simp at h
      | i + 2, h =>
        rw [List.getElem?_cons_succ, List.getElem?_cons_succ] at h
        have := ih (o + 2) i v h
        rw [if_pos (by simp [trv, Value.category]), show o + (i + 2) = o + 2 + i by omega]
        exact List.mem_cons_of_mem _ this
    · simp only [initL, List.flatMap_cons, List.singleton_append] at h
      simp only [List.map_cons, lv_args]
      cases i with
      | zero => simp at h; subst h; simp
      | succ i =>
        rw [List.getElem?_cons_succ] at h
        have := ih (o + 1) i v h
        rw [if_neg (by intro h2; obtain ⟨z, hz⟩ := (trv_cat2 ad _).mp h2; cases hz), show o + (i + 1) = o + 1 + i by omega]
        exact List.mem_cons_of_mem _ this
theorem initL_len (ad : Nat → Nat) : ∀ (args : List AV), (lg_sl (args.map (trv ad))).length = (initL args).length
  | [] => rfl
  | a :: args => by
    have ih := initL_len ad args
    simp only [lg_sl, List.map_cons, List.flatMap_cons, List.length_append, initL] at ih ⊢
    rw [ih]
    rcases a with z | z | n
    · simp [trv, Value.category]
    · simp [trv, Value.category]
    · rw [if_neg (by intro h2; obtain ⟨z, hz⟩ := (trv_cat2 ad _).mp h2; cases hz)]; rfl
/-- a method's contract out of its walk -/
theorem wp_intro {G : GE} {h : Nat} {Y : MD} {args : List AV} {μ : Mem} {mc ms : Nat} {K : Option AV → Mem → Prop} (hi : MI Y) (ls : List (Option AV)) (hls : initL args = ls.take (initL args).length) (hln : ls.drop (initL args).length = List.replicate (Y.2.2.1 - (initL args).length) none) (hl0 : (initL args).length ≤ Y.2.2.1)
    (body : ∀ X : CT, cG X = G → Fx X Y → Rx X h mc ms K → AW X 0 ls [] μ 0 0) : Wp G h Y args μ mc ms K := by
  intro ad sz hM hargs hex
  refine Met.ofW (cc := Y.2.1) (maxL := Y.2.2.1) (ret := Y.2.2.2) hi.2.2.1 rfl ?_
  intro p e s m args' below meth c s₁ B hml hv
  obtain ⟨rfl, hsz, hP, hD0, hK⟩ := hv
  subst hsz
  have hts := atoms_spec (ws := wsM Y) B.pre
  have hown : s.vm.findClass Y.1.cls = some m.cls := findClass_of_methodNamed B.named
  let X : CT := (G, p, e, rmN h mc ms, s, m, (args.map (trv ad)).toArray, below, meth, c, va_A (wrl G ad μ) s.heap.size, MQ below (qW G ad μ s.heap.size K) (args.map (trv ad)).toArray s mc ms (va_A (wrl G ad μ) s.heap.size), Y.2.2.1, ad, mX μ)
  have hF : Fx X Y := ⟨B.exec, B.bytes, hml, hown, fun w hw => hts w (List.mem_cons_of_mem _ hw), hK, fun q hq => Or.inr hq, B.notSynchronized, (name_of_methodNamed B.named B.method).1, hex, B.returns⟩
  have hR : Rx X h mc ms K := ⟨μ, s.heap.size, rfl, rfl, rfl, rfl⟩
  have := body X rfl hF hR ad s.heap [] ((lg_sl (args.map (trv ad)) ++ List.replicate (Y.2.2.1 - (lg_sl (args.map (trv ad))).length) Slot.unset).toArray)
  rw [lg_entry_eq]
  refine this ⟨hM, fun v hv => ?_, fun v hv => (by cases hv), ⟨Nat.le_refl _, fun q _ => rfl⟩, hP, hD0.self, va_S.rf, ?_⟩
  · have h1 : some v ∈ initL args := by
      rw [← List.take_append_drop (initL args).length ls, hln, ← hls] at hv
      rcases List.mem_append.mp hv with h | h
      · exact h
      · have := List.eq_of_mem_replicate h; cases this
    obtain ⟨a, ha, hb⟩ := List.mem_flatMap.mp h1
    have : a = v := by rcases a with z | z | n <;> simp at hb <;> exact hb.symm
    exact this ▸ hargs a ha
  · have hn : (lg_sl (args.map (trv ad))).length ≤ Y.2.2.1 := by rw [initL_len]; exact hl0
    obtain ⟨e1, e2, e3⟩ := lv_entry (args.map (trv ad)) hn
    refine ⟨e1, e2, by rw [← List.take_append_drop (initL args).length ls, hln, ← hls, List.length_append, List.length_replicate]; show _ = Y.2.2.1; omega, fun i v hv => ?_⟩
    have hlt : i < (initL args).length := by
      refine Nat.lt_of_not_le fun hge => ?_
      have : (ls.drop (initL args).length)[i - (initL args).length]? = some (some v) := by rw [List.getElem?_drop, show (initL args).length + (i - (initL args).length) = i by omega]; exact hv
      rw [hln] at this
      have := List.eq_of_mem_replicate (List.mem_of_getElem? this); cases this
    have h1 : (initL args)[i]? = some (some v) := by rw [hls, List.getElem?_take, if_pos hlt]; exact hv
    have := e3 _ (initL_args ad args 0 i v h1)
    simpa using this
/-- the room that is left to a method -/
def Rm (X : CT) (h mc ms : Nat) : Prop := h + 1 ≤ (cR X).frames ∧ 100 * (h + 1) ≤ (cR X).locals ∧ mc ≤ (cR X).cells ∧ ms ≤ (cR X).slots
theorem Rx.rm {X : CT} {h mc ms : Nat} {K : Option AV → Mem → Prop} (R : Rx X h mc ms K) : Rm X h mc ms := by
  obtain ⟨μ0, sz, h1, -⟩ := R
  unfold Rm
  rw [h1]
  exact ⟨Nat.le_refl _, Nat.le_refl _, Nat.le_refl _, Nat.le_refl _⟩
section RPs
variable {X : CT} {ls : List (Option AV)} {st : List AV} {μ : Mem} {ad : Nat → Nat} {H : Heap} {locs : List Loc} {lsl : Array Slot} {v w : AV}
theorem RP.push (R : RP X ls st μ ad H locs lsl) (h : okV μ v) : RP X ls (v :: st) μ ad H locs lsl := by
  obtain ⟨h1, h2, h3, h4⟩ := R
  exact ⟨h1, h2, fun x hx => by rcases List.mem_cons.mp hx with rfl | hx; exact h; exact h3 x hx, h4⟩
theorem RP.pop (R : RP X ls (v :: st) μ ad H locs lsl) : RP X ls st μ ad H locs lsl := by
  obtain ⟨h1, h2, h3, h4⟩ := R
  exact ⟨h1, h2, fun x hx => h3 x (List.mem_cons_of_mem _ hx), h4⟩
theorem RP.top (R : RP X ls (v :: st) μ ad H locs lsl) : okV μ v := R.2.2.1 v List.mem_cons_self
theorem RP.loc (R : RP X ls st μ ad H locs lsl) {i : Nat} (h : ls[i]? = some (some v)) : okV μ v ∧ lsl[i]? = some (.val (trv ad v)) := ⟨R.2.1 v (List.mem_of_getElem? h), R.2.2.2.2.2.2.2.2.2.2 i v h⟩
end RPs
def lvOf (ad : Nat → Nat) (ls : List (Option AV)) : List (Nat × Value) := (List.range ls.length).filterMap (fun i => (ls.getD i none).map (fun v => (i, trv ad v)))
theorem lvOf_mem {ad : Nat → Nat} {ls : List (Option AV)} {i : Nat} {v : AV} (h : ls[i]? = some (some v)) : (i, trv ad v) ∈ lvOf ad ls := by
  refine List.mem_filterMap.mpr ⟨i, List.mem_range.mpr (List.getElem?_eq_some_iff.mp h).1, ?_⟩
  simp [List.getD, h]
theorem lvOf_has {nL : Nat} {ad : Nat → Nat} {ls : List (Option AV)} {lsl : Array Slot} (h : lsR nL ad ls lsl) : lv_has lsl nL (lvOf ad ls) := by
  refine ⟨h.1, h.2.1, fun q hq => ?_⟩
  obtain ⟨i, -, hi⟩ := List.mem_filterMap.mp hq
  cases hv : ls.getD i none with
  | none => rw [hv] at hi; cases hi
  | some v =>
    rw [hv] at hi
    cases hi
    refine h.2.2.2 i v ?_
    unfold List.getD at hv
    cases h2 : ls[i]? with
    | none => rw [h2] at hv; cases hv
    | some x => rw [h2] at hv; exact congrArg some hv
/-- the slot ahead of i holds no long -/
def nlg (ls : List (Option AV)) (i : Nat) : Prop := ∀ (j : Nat) (z : Int), j + 1 = i → ls[j]? ≠ some (some (vL z))
theorem lsR_store1 {nL i : Nat} {ad : Nat → Nat} {ls : List (Option AV)} {lsl' : Array Slot} {v : AV} (hl0 : ls.length = nL) (hn : nlg ls i) (h : lv_has lsl' nL ((i, trv ad v) :: (lvOf ad ls).filter (fun q => !(q.1 == i) && !(q.1 + 1 == i && q.2.category == 2)))) : lsR nL ad (ls.set i (some v)) lsl' := by
  refine ⟨h.1, h.2.1, by rw [List.length_set]; exact hl0, fun j w hj => ?_⟩
  by_cases hji : j = i
  · subst hji
    have hl : j < (ls.set j (some v)).length := (List.getElem?_eq_some_iff.mp hj).1
    rw [List.length_set] at hl
    rw [List.getElem?_set_self hl] at hj
    cases hj
    exact h.2.2 _ List.mem_cons_self
  · rw [List.getElem?_set_ne (Ne.symm hji)] at hj
    refine h.2.2 (j, trv ad w) (List.mem_cons_of_mem _ (List.mem_filter.mpr ⟨lvOf_mem hj, ?_⟩))
    simp only [Bool.and_eq_true, Bool.not_eq_true', beq_eq_false_iff_ne, ne_eq, Bool.and_eq_false_imp, beq_iff_eq]
    refine ⟨hji, fun e => ?_⟩
    intro hc
    obtain ⟨z, rfl⟩ := (trv_cat2 ad w).mp hc
    exact hn j z e hj
theorem lsR_store2 {nL i : Nat} {ad : Nat → Nat} {ls : List (Option AV)} {lsl' : Array Slot} {v : AV} (hl0 : ls.length = nL) (hn : nlg ls i) (h : lv_has lsl' nL ((i, trv ad v) :: (lvOf ad ls).filter (fun q => !(q.1 == i) && (!(q.1 == i + 1) && !(q.1 + 1 == i && q.2.category == 2))))) : lsR nL ad ((ls.set i (some v)).set (i + 1) none) lsl' := by
  refine ⟨h.1, h.2.1, by rw [List.length_set, List.length_set]; exact hl0, fun j w hj => ?_⟩
  by_cases hj1 : j = i + 1
  · subst hj1
    have hl := (List.getElem?_eq_some_iff.mp hj).1
    rw [List.length_set] at hl
    rw [List.getElem?_set_self hl] at hj
    cases hj
  rw [List.getElem?_set_ne (Ne.symm hj1)] at hj
  by_cases hji : j = i
  · subst hji
    have hl : j < (ls.set j (some v)).length := (List.getElem?_eq_some_iff.mp hj).1
    rw [List.length_set] at hl
    rw [List.getElem?_set_self hl] at hj
    cases hj
    exact h.2.2 _ List.mem_cons_self
  · rw [List.getElem?_set_ne (Ne.symm hji)] at hj
    refine h.2.2 (j, trv ad w) (List.mem_cons_of_mem _ (List.mem_filter.mpr ⟨lvOf_mem hj, ?_⟩))
    simp only [Bool.and_eq_true, Bool.not_eq_true', beq_eq_false_iff_ne, ne_eq, Bool.and_eq_false_imp, beq_iff_eq]
    refine ⟨hji, hj1, fun e => ?_⟩
    intro hc
    obtain ⟨z, rfl⟩ := (trv_cat2 ad w).mp hc
    exact hn j z e hj
theorem RP.store {X : CT} {ls ls' : List (Option AV)} {st : List AV} {μ : Mem} {ad : Nat → Nat} {H : Heap} {locs : List Loc} {lsl lsl' : Array Slot} {v : AV} (R : RP X ls (v :: st) μ ad H locs lsl) (hs : ∀ w, some w ∈ ls' → some w ∈ ls ∨ w = v) (h : lsR (cN X) ad ls' lsl') : RP X ls' st μ ad H locs lsl' := by
  obtain ⟨h1, h2, h3, h4, h5, h6, h7, h8⟩ := R
  exact ⟨h1, fun w hw => (hs w hw).elim (h2 w) (fun e => e ▸ h3 v List.mem_cons_self), fun x hx => h3 x (List.mem_cons_of_mem _ hx), h4, h5, h6, h7, h⟩
theorem mem_set {ls : List (Option AV)} {i : Nat} {v w : AV} (h : some w ∈ ls.set i (some v)) : some w ∈ ls ∨ w = v := by
  rcases List.mem_or_eq_of_mem_set h with h | h
  · exact Or.inl h
  · exact Or.inr (Option.some.inj h)
theorem mem_set2 {ls : List (Option AV)} {i j : Nat} {v w : AV} (h : some w ∈ (ls.set i (some v)).set j none) : some w ∈ ls ∨ w = v := by
  rcases List.mem_or_eq_of_mem_set h with h | h
  · exact mem_set h
  · cases h
-- the memory's world
theorem wrl_get {G : GE} {ad : Nat → Nat} {μ : Mem} {a : Nat} (h0 : 0 < a) (h : a < mX μ) : (wrl G ad μ)[a - 1]? = some (ad a, cel G ad μ a) := by
  unfold wrl
  rw [List.getElem?_map, List.getElem?_range (by omega)]
  simp [show a - 1 + 1 = a by omega]
theorem cel_obj {G : GE} {ad : Nat → Nat} {μ : Mem} {a c : Nat} (h : mT μ a = c) (hc : c < 10) : cel G ad μ a = .inr (c, (List.range (nF c)).map (fun k => fv ad μ a k (tyF c k))) := by
  subst h
  unfold cel
  rw [if_neg (by omega), if_neg (by omega), if_neg (by omega)]
theorem cls_ok {ci : Nat} {q : vw_C} (h : vwCl[ci]? = some q) : ci < 10 ∧ nF ci = q.2.2 ∧ (∀ w ∈ u_ws q.1 q.2.1 q.2.2, w ∈ TBL) ∧ (∀ k, k < q.2.2 → parseFieldDescriptor (q.2.1 k).2.2.1 = some (tyF ci k)) ∧ (∀ a, a < q.2.2 → ∀ b, b < q.2.2 → a ≠ b → (q.2.1 a).2.1 ≠ (q.2.1 b).2.1) ∧ Cond.instantiable q.1 q.2.2 ∈ TBL ∧ Cond.initialized q.1 ∈ TBL := by
  match ci, h with
  | 0, h => cases h; exact ⟨by decide, rfl, in_0, tyX0_ok, nmX0, cn_0⟩
  | 1, h => cases h; exact ⟨by decide, rfl, in_1, tyX1_ok, nmX1, cn_1⟩
  | 2, h => cases h; exact ⟨by decide, rfl, in_2, tyX2_ok, nmX2, cn_2⟩
  | 3, h => cases h; exact ⟨by decide, rfl, in_3, tyX3_ok, nmX3, cn_3⟩
  | 4, h => cases h; exact ⟨by decide, rfl, in_4, tyX4_ok, nmX4, cn_4⟩
  | 5, h => cases h; exact ⟨by decide, rfl, in_5, tyX5_ok, nmX5, cn_5⟩
  | 6, h => cases h; exact ⟨by decide, rfl, in_6, tyX6_ok, nmX6, cn_6⟩
  | 7, h => cases h; exact ⟨by decide, rfl, in_7, tyX7_ok, nmX7, cn_7⟩
  | 8, h => cases h; exact ⟨by decide, rfl, in_8, tyX8_ok, nmX8, cn_8⟩
  | 9, h => cases h; exact ⟨by decide, rfl, in_9, tyX9_ok, nmX9, cn_9⟩
  | n + 10, h => simp [vwCl] at h
theorem cel_set {G : GE} {ad : Nat → Nat} {μ μ' : Mem} {a : Nat} {e : va_E} (h0 : 0 < a) (hx : mX μ' = mX μ) (he : cel G ad μ' a = e) (ho : ∀ b, b ≠ a → cel G ad μ' b = cel G ad μ b) : (wrl G ad μ).set (a - 1) (ad a, e) = wrl G ad μ' := by
  unfold wrl
  rw [hx]
  apply List.ext_getElem?
  intro i
  by_cases hi : i < mX μ - 1
  · by_cases hia : i = a - 1
    · subst hia
      rw [List.getElem?_set_self (by simpa using hi), List.getElem?_map, List.getElem?_range hi]
      simp only [Option.map_some, show a - 1 + 1 = a by omega, he]
    · rw [List.getElem?_set_ne (Ne.symm hia), List.getElem?_map, List.getElem?_map, List.getElem?_range hi]
      simp only [Option.map_some]
      rw [ho (i + 1) (by omega)]
  · rw [List.getElem?_eq_none (by simpa using hi), List.getElem?_eq_none (by simpa using hi)]
theorem cel_setV_ne {G : GE} {ad : Nat → Nat} {μ : Mem} {a k b : Nat} {z : Int} (h : b ≠ a) : cel G ad (setV μ a k z) b = cel G ad μ b := by
  unfold cel fv
  simp only [setV, mV, mT, mN, mP, up2_nea _ _ h]
theorem cel_setP_ne {G : GE} {ad : Nat → Nat} {μ : Mem} {a k b r : Nat} (h : b ≠ a) : cel G ad (setP μ a k r) b = cel G ad μ b := by
  unfold cel fv
  simp only [setP, mV, mT, mN, mP, up2_nea _ _ h]
theorem range_set {α : Type} {n k : Nat} (f g : Nat → α) (h : ∀ j, j ≠ k → g j = f j) : ((List.range n).map f).set k (g k) = (List.range n).map g := by
  apply List.ext_getElem?
  intro i
  by_cases hik : i = k
  · subst hik
    by_cases hi : i < n
    · rw [List.getElem?_set_self (by simpa using hi), List.getElem?_map, List.getElem?_range hi]; rfl
    · rw [List.getElem?_eq_none (by simpa using hi), List.getElem?_eq_none (by simpa using hi)]
  · rw [List.getElem?_set_ne (Ne.symm hik), List.getElem?_map, List.getElem?_map]
    by_cases hi : i < n
    · rw [List.getElem?_range hi]; simp [h i hik]
    · rw [List.getElem?_eq_none (by simpa using hi)]; rfl
