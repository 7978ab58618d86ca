/-! A judgement over a heap that is a function: zx_X (the machine at a place of a method, heap h of n cells, comes to the method's end with Q), zx_Ok (a method's contract). Rows of the kit, each turned once. -/
abbrev zxH : Type := Nat → Option va_E
/-- launch, the first address of ours, the kinds' numbers and slots, the arrays' numbers -/
abbrev zxE : Type := Launch × Nat × va_G × (Nat → ClassId)
/-- a method: whose it is, its name, code, locals, return type, room, cells and slots that it makes -/
abbrev zxM : Type := String × String × ByteArray × Nat × Option FieldType × Room × Nat × Nat
def zx_tys (dA : Nat → ClassId) : List (ClassId × FieldType) := [(dA 0, .int), (dA 1, .long), (dA 2, .boolean), (dA 3, .object "AddressClaimBus$Function"), (dA 4, .object "AddressClaimBus$Incoming")]
def zx_cz (dA : Nat → ClassId) : va_E → va_E
  | .inl x => .inl (dA x.1, x.2)
  | .inr o => .inr o
def zx_R (E : zxE) (h : zxH) (n : Nat) (H : Heap) : Prop := H.size = n ∧ E.2.1 ≤ n ∧ ∀ (a : Nat) (e : va_E), h a = some e → E.2.1 ≤ a ∧ va_at E.2.2.1 vwCl (a, zx_cz E.2.2.2 e) H
def zx_A (E : zxE) : Nat → Prop := fun q => E.2.1 ≤ q
def zx_Q (E : zxE) (Q : Option Value → zxH → Nat → Prop) : Array Value → State → Outcome → State → Prop := fun _ st oc t => (∃ (r : Option Value) (h : zxH) (n : Nat), oc = .returned r ∧ Q r h n ∧ zx_R E h n t.heap) ∧ va_F (zx_A E) st t
def zx_K (E : zxE) (U : State) : Prop := va_K E.2.2.1 vwCl (zx_tys E.2.2.2) U ∧ (∀ q ∈ zx_N, va_Nw (.methodLinkNest q.1 q.2.1 q.2.2 "AddressClaimBus") U) ∧ ∀ C ∈ zx_AO, va_AO C U
theorem zx_K.warm {E : zxE} {s U : State} (hW : s.WarmedH U.vm) (h : zx_K E s) : zx_K E U := ⟨va_K.moved hW.alike h.1, fun q hq => va_Nw.warmM hW (h.2.1 q hq), fun C hC => va_AO.moved hW.alike (h.2.2 C hC)⟩
/-- what is known of the start, and what is to be reached -/
abbrev zxY : Type := (State → Prop) × (List Frame → Array Value → State → State → Prop)
def zx_C (E : zxE) (M : zxM) (Y : zxY) (p : Program) (s : State) (m : MethodId) (args : Array Value) (meth : Method) (c : Code) : Prop :=
  p.tables.exec = Jvm.exec ∧ c.code = M.2.2.1 ∧ c.maxLocals = M.2.2.2.1 ∧ s.vm.findClass M.1 = some m.cls ∧ (∀ w ∈ zx_T, w.before args s = true) ∧ meth.sig.returnType = M.2.2.2.2.1 ∧ meth.locks = false ∧ meth.name = M.2.1 ∧ zx_K E s ∧ Y.1 s
def zx_as : Nat → List (Option Value) → List (Nat × Value)
  | _, [] => []
  | i, none :: r => zx_as (i + 1) r
  | i, some v :: r => (i, v) :: zx_as (i + 1) r
def zx_nth : List (Option Value) → Nat → Option Value
  | [], _ => none
  | a :: _, 0 => a
  | _ :: r, j + 1 => zx_nth r j
def zx_X (E : zxE) (M : zxM) (Y : zxY) (pc : Nat) (L : List (Option Value)) (st : List Value) (h : zxH) (n cells slots : Nat) : Prop :=
  ∀ (p : Program) (e : Env) (s : State) (m : MethodId) (args : Array Value) (below : List Frame) (meth : Method) (c : Code) (ls : Array Slot) (H : Heap) (locs : List Loc),
    zx_C E M Y p s m args meth c → lv_has ls M.2.2.2.1 (zx_as 0 L) → zx_R E h n H → va_S (zx_A E) s.heap H locs → E.2.1 ≤ s.heap.size →
    W p E.1 e M.2.2.2.2.2.1 s m args below meth c H locs cells slots (Y.2 below args s) (F0 m pc ls st)
def zx_Y (E : zxE) (M : zxM) (Q : Option Value → zxH → Nat → Prop) : zxY := (fun _ => True, fun below args s => MQ below (zx_Q E Q) args s M.2.2.2.2.2.2.1 M.2.2.2.2.2.2.2 (zx_A E))
def zx_Ok (E : zxE) (y : MethodName) (M : zxM) (av : List Value) (h : zxH) (n : Nat) (Q : Option Value → zxH → Nat → Prop) : Prop :=
  Met E.1 y (.code y M.2.2.1 M.2.2.2.1 M.2.2.2.2.1 :: zx_T) M.2.2.2.2.2.1 (va_Pc av (fun U => zx_R E h n U.heap ∧ zx_K E U)) (zx_Q E Q) M.2.2.2.2.2.2.1 M.2.2.2.2.2.2.2 (zx_A E)
theorem zx_as_mem : ∀ (L : List (Option Value)) (i j : Nat) (v : Value), zx_nth L j = some v → (i + j, v) ∈ zx_as i L
  | [], i, j, v, h => by cases h
  | none :: r, i, 0, v, h => by cases h
  | none :: r, i, j + 1, v, h => by
    have := zx_as_mem r (i + 1) j v h
    rw [show i + (j + 1) = i + 1 + j by omega]
    exact this
  | some w :: r, i, 0, v, h => by
    have h1 : w = v := Option.some.inj h
    subst h1
    exact List.mem_cons_self
  | some w :: r, i, j + 1, v, h => by
    have := zx_as_mem r (i + 1) j v h
    rw [show i + (j + 1) = i + 1 + j by omega]
    exact List.mem_cons_of_mem _ this
theorem zx_as_inv : ∀ (L : List (Option Value)) (i : Nat) (q : Nat × Value), q ∈ zx_as i L → i ≤ q.1 ∧ zx_nth L (q.1 - i) = some q.2
  | [], i, q, h => by cases h
  | none :: r, i, q, h => by
    obtain ⟨h1, h2⟩ := zx_as_inv r (i + 1) q h
    refine ⟨by omega, ?_⟩
    rw [show q.1 - i = (q.1 - (i + 1)) + 1 by omega]
    exact h2
  | some w :: r, i, q, h => by
    rcases List.mem_cons.mp h with rfl | h
    · exact ⟨Nat.le_refl _, by rw [Nat.sub_self]; rfl⟩
    · obtain ⟨h1, h2⟩ := zx_as_inv r (i + 1) q h
      refine ⟨by omega, ?_⟩
      rw [show q.1 - i = (q.1 - (i + 1)) + 1 by omega]
      exact h2
theorem zx_lat {ls : Array Slot} {nL : Nat} {L : List (Option Value)} (h : lv_has ls nL (zx_as 0 L)) {j : Nat} {v : Value} (hj : zx_nth L j = some v) : ls[j]? = some (.val v) := by
  have := h.2.2 _ (zx_as_mem L 0 j v hj)
  rw [Nat.zero_add] at this
  exact this
def zx_ok1 (i : Nat) (v : Value) (L L' : List (Option Value)) : Prop := ∀ (j : Nat) (w : Value), zx_nth L' j = some w → (j = i ∧ w = v) ∨ (j ≠ i ∧ zx_nth L j = some w ∧ ¬ (j + 1 = i ∧ w.category = 2))
def zx_ok2 (i : Nat) (v : Value) (L L' : List (Option Value)) : Prop := ∀ (j : Nat) (w : Value), zx_nth L' j = some w → (j = i ∧ w = v) ∨ (j ≠ i ∧ j ≠ i + 1 ∧ zx_nth L j = some w ∧ ¬ (j + 1 = i ∧ w.category = 2))
theorem zx_ok1_has {i nL : Nat} {v : Value} {L L' : List (Option Value)} {ls : Array Slot} (hL : zx_ok1 i v L L') (h : lv_has ls nL ((i, v) :: (zx_as 0 L).filter (fun q => !(q.1 == i) && !(q.1 + 1 == i && q.2.category == 2)))) : lv_has ls nL (zx_as 0 L') := by
  refine ⟨h.1, h.2.1, fun q hq => h.2.2 q ?_⟩
  have h1 := (zx_as_inv L' 0 q hq).2
  rw [Nat.sub_zero] at h1
  rcases hL q.1 q.2 h1 with ⟨a, b⟩ | ⟨a, b, d⟩
  · have : q = (i, v) := by rw [← a, ← b]
    rw [this]
    exact List.mem_cons_self
  · refine List.mem_cons_of_mem _ (List.mem_filter.mpr ⟨?_, ?_⟩)
    · have := zx_as_mem L 0 q.1 q.2 b
      rw [Nat.zero_add] at this
      exact this
    · by_cases e1 : q.1 + 1 = i
      · have e2 : ¬ q.2.category = 2 := fun z => d ⟨e1, z⟩
        simp [a, e2]
      · simp [a, e1]
theorem zx_ok2_has {i nL : Nat} {v : Value} {L L' : List (Option Value)} {ls : Array Slot} (hL : zx_ok2 i v L L') (h : lv_has ls nL ((i, v) :: (zx_as 0 L).filter (fun q => !(q.1 == i) && (!(q.1 == i + 1) && !(q.1 + 1 == i && q.2.category == 2))))) : lv_has ls nL (zx_as 0 L') := by
  refine ⟨h.1, h.2.1, fun q hq => h.2.2 q ?_⟩
  have h1 := (zx_as_inv L' 0 q hq).2
  rw [Nat.sub_zero] at h1
  rcases hL q.1 q.2 h1 with ⟨a, b⟩ | ⟨a, a2, b, d⟩
  · have : q = (i, v) := by rw [← a, ← b]
    rw [this]
    exact List.mem_cons_self
  · refine List.mem_cons_of_mem _ (List.mem_filter.mpr ⟨?_, ?_⟩)
    · have := zx_as_mem L 0 q.1 q.2 b
      rw [Nat.zero_add] at this
      exact this
    · by_cases e1 : q.1 + 1 = i
      · have e2 : ¬ q.2.category = 2 := fun z => d ⟨e1, z⟩
        simp [a, a2, e2]
      · simp [a, a2, e1]
def zx_n2 : Option Value → Bool
  | some (.long _) => false
  | some (.double _) => false
  | _ => true
theorem zx_n2_cat {w : Value} (h : zx_n2 (some w) = true) : ¬ w.category = 2 := by
  cases w <;> first | (cases h; done) | (intro z; cases z)
theorem zx_nth_app : ∀ (pre r : List (Option Value)) (j : Nat), zx_nth (pre ++ r) j = if j < pre.length then zx_nth pre j else zx_nth r (j - pre.length)
  | [], r, j => by simp
  | a :: pre, r, 0 => by simp [zx_nth]
  | a :: pre, r, j + 1 => by
    have := zx_nth_app pre r j
    simp only [List.cons_append, zx_nth, this, List.length_cons, Nat.add_lt_add_iff_right, Nat.add_sub_add_right]
theorem zx_ok1_gen (pre : List (Option Value)) (y : Option Value) (rr : List (Option Value)) (v : Value) (hc : ∀ w, zx_nth pre (pre.length - 1) = some w → ¬ w.category = 2) : zx_ok1 pre.length v (pre ++ y :: rr) (pre ++ some v :: rr) := by
  intro j w hw
  rw [zx_nth_app] at hw
  by_cases h1 : j < pre.length
  · rw [if_pos h1] at hw
    refine Or.inr ⟨by omega, by rw [zx_nth_app, if_pos h1]; exact hw, fun z => ?_⟩
    refine hc w ?_ z.2
    rw [show pre.length - 1 = j by omega]
    exact hw
  · rw [if_neg h1] at hw
    by_cases h2 : j = pre.length
    · subst h2
      rw [Nat.sub_self] at hw
      exact Or.inl ⟨rfl, (Option.some.inj hw).symm⟩
    · obtain ⟨d, hd⟩ : ∃ d, j - pre.length = d + 1 := ⟨j - pre.length - 1, by omega⟩
      rw [hd] at hw
      refine Or.inr ⟨h2, ?_, fun z => by omega⟩
      rw [zx_nth_app, if_neg h1, hd]
      exact hw
theorem zx_ok2_gen (pre : List (Option Value)) (y y' : Option Value) (rr : List (Option Value)) (v : Value) (hc : ∀ w, zx_nth pre (pre.length - 1) = some w → ¬ w.category = 2) : zx_ok2 pre.length v (pre ++ y :: y' :: rr) (pre ++ some v :: none :: rr) := by
  intro j w hw
  rw [zx_nth_app] at hw
  by_cases h1 : j < pre.length
  · rw [if_pos h1] at hw
    refine Or.inr ⟨by omega, by omega, by rw [zx_nth_app, if_pos h1]; exact hw, fun z => ?_⟩
    refine hc w ?_ z.2
    rw [show pre.length - 1 = j by omega]
    exact hw
  · rw [if_neg h1] at hw
    by_cases h2 : j = pre.length
    · subst h2
      rw [Nat.sub_self] at hw
      exact Or.inl ⟨rfl, (Option.some.inj hw).symm⟩
    · by_cases h3 : j = pre.length + 1
      · subst h3
        rw [show pre.length + 1 - pre.length = 1 by omega] at hw
        cases hw
      · obtain ⟨d, hd⟩ : ∃ d, j - pre.length = d + 1 + 1 := ⟨j - pre.length - 2, by omega⟩
        rw [hd] at hw
        refine Or.inr ⟨h2, h3, ?_, fun z => by omega⟩
        rw [zx_nth_app, if_neg h1, hd]
        exact hw
theorem zx_n2_last {pre : List (Option Value)} {o : Option Value} {k : Nat} (hk : zx_nth pre k = o) (h : zx_n2 o = true) : ∀ w, zx_nth pre k = some w → ¬ w.category = 2 := by
  intro w hw
  rw [hk] at hw
  rw [hw] at h
  exact zx_n2_cat h
theorem zx_R.one {E : zxE} {h : zxH} {n : Nat} {H : Heap} (hR : zx_R E h n H) {a : Nat} {e : va_E} (ha : h a = some e) : va_P E.2.2.1 vwCl [(a, zx_cz E.2.2.2 e)] H := by
  intro k q hk
  match k, hk with
  | 0, hk =>
    cases hk
    exact (hR.2.2 a e ha).2
def zx_up (h : zxH) (a : Nat) (e : va_E) : zxH := fun q => if q = a then some e else h q
theorem zx_R.set {E : zxE} {h : zxH} {n : Nat} {H H1 : Heap} (hR : zx_R E h n H) {a : Nat} {e e0 : va_E} (ha : h a = some e0) (he : va_at E.2.2.1 vwCl (a, zx_cz E.2.2.2 e) H1) (hz : H1.size = H.size) (oq : ∀ q : Nat, q ≠ a → H1[q]? = H[q]?) : zx_R E (zx_up h a e) n H1 := by
  refine ⟨hz.trans hR.1, hR.2.1, fun b x hb => ?_⟩
  unfold zx_up at hb
  by_cases hba : b = a
  · subst hba
    rw [if_pos rfl] at hb
    cases hb
    exact ⟨(hR.2.2 _ _ ha).1, he⟩
  · rw [if_neg hba] at hb
    exact ⟨(hR.2.2 b x hb).1, ((hR.2.2 b x hb).2).kept (oq b hba)⟩
theorem zx_R.new {E : zxE} {h : zxH} {n : Nat} {H H1 : Heap} (hR : zx_R E h n H) {e : va_E} (he : va_at E.2.2.1 vwCl (n, zx_cz E.2.2.2 e) H1) (hz : H1.size = n + 1) (oq : ∀ q : Nat, q < n → H1[q]? = H[q]?) : zx_R E (zx_up h n e) (n + 1) H1 := by
  refine ⟨hz, Nat.le_succ_of_le hR.2.1, fun b x hb => ?_⟩
  unfold zx_up at hb
  by_cases hba : b = n
  · subst hba
    rw [if_pos rfl] at hb
    cases hb
    exact ⟨hR.2.1, he⟩
  · rw [if_neg hba] at hb
    have h1 := (hR.2.2 b x hb).2
    have hl : b < H.size := h1.lt
    exact ⟨(hR.2.2 b x hb).1, h1.kept (oq b (by rw [← hR.1]; exact hl))⟩
def zx_Cl (ci : Nat) (C : String) (T : u_T) (N : Nat) (ty : Nat → FieldType) : Prop :=
  vwCl[ci]? = some (C, T, N) ∧ (∀ w ∈ u_ws C T N, w ∈ zx_T) ∧ (∀ k, k < N → parseFieldDescriptor (T k).2.2.1 = some (ty k)) ∧ (∀ a, a < N → ∀ b, b < N → a ≠ b → (T a).2.1 ≠ (T b).2.1)
/-- a field that instructions name by the number idx: of the kind ci the k-th, of type t, final or not -/
def zx_Fl (own : String) (idx ci k : Nat) (t : FieldType) (fin : Bool) : Prop :=
  ∃ (C : String) (T : u_T) (N : Nat) (ty : Nat → FieldType), zx_Cl ci C T N ty ∧ k < N ∧ Cond.fieldLink own idx (T k).1 (T k).2.1 (T k).2.2.1 ∈ zx_T ∧ ty k = t ∧ (T k).2.2.2 = fin ∧ (T k).1 = C
section ZX
variable {E : zxE} {M : zxM} {Y : zxY} {Q : Option Value → zxH → Nat → Prop} {pc q cells slots n : Nat} {L : List (Option Value)} {st : List Value} {h : zxH}
theorem zx_iadd {x y : Int32} (hd : decode M.2.2.1 pc = .ok (.iadd, 1)) (hq : pc + 1 = q) (k : zx_X E M Y q L (.int (x + y) :: st) h n cells slots) : zx_X E M Y pc L (.int y :: .int x :: st) h n cells slots := by
  subst hq
  exact fun p e s m args below meth c ls H locs C hl hR hS hb => lv_iadd C.1 C.2.1 hd (k p e s m args below meth c ls H locs C hl hR hS hb)
theorem zx_isub {x y : Int32} (hd : decode M.2.2.1 pc = .ok (.isub, 1)) (hq : pc + 1 = q) (k : zx_X E M Y q L (.int (x - y) :: st) h n cells slots) : zx_X E M Y pc L (.int y :: .int x :: st) h n cells slots := by
  subst hq
  exact fun p e s m args below meth c ls H locs C hl hR hS hb => lv_isub C.1 C.2.1 hd (k p e s m args below meth c ls H locs C hl hR hS hb)
theorem zx_imul {x y : Int32} (hd : decode M.2.2.1 pc = .ok (.imul, 1)) (hq : pc + 1 = q) (k : zx_X E M Y q L (.int (x * y) :: st) h n cells slots) : zx_X E M Y pc L (.int y :: .int x :: st) h n cells slots := by
  subst hq
  exact fun p e s m args below meth c ls H locs C hl hR hS hb => lv_imul C.1 C.2.1 hd (k p e s m args below meth c ls H locs C hl hR hS hb)
theorem zx_iand {x y : Int32} (hd : decode M.2.2.1 pc = .ok (.iand, 1)) (hq : pc + 1 = q) (k : zx_X E M Y q L (.int (x &&& y) :: st) h n cells slots) : zx_X E M Y pc L (.int y :: .int x :: st) h n cells slots := by
  subst hq
  exact fun p e s m args below meth c ls H locs C hl hR hS hb => lv_iand C.1 C.2.1 hd (k p e s m args below meth c ls H locs C hl hR hS hb)
theorem zx_ior {x y : Int32} (hd : decode M.2.2.1 pc = .ok (.ior, 1)) (hq : pc + 1 = q) (k : zx_X E M Y q L (.int (x ||| y) :: st) h n cells slots) : zx_X E M Y pc L (.int y :: .int x :: st) h n cells slots := by
  subst hq
  exact fun p e s m args below meth c ls H locs C hl hR hS hb => lv_ior C.1 C.2.1 hd (k p e s m args below meth c ls H locs C hl hR hS hb)
theorem zx_ixor {x y : Int32} (hd : decode M.2.2.1 pc = .ok (.ixor, 1)) (hq : pc + 1 = q) (k : zx_X E M Y q L (.int (x ^^^ y) :: st) h n cells slots) : zx_X E M Y pc L (.int y :: .int x :: st) h n cells slots := by
  subst hq
  exact fun p e s m args below meth c ls H locs C hl hR hS hb => lv_ixor C.1 C.2.1 hd (k p e s m args below meth c ls H locs C hl hR hS hb)
theorem zx_ladd {x y : Int64} (hd : decode M.2.2.1 pc = .ok (.ladd, 1)) (hq : pc + 1 = q) (k : zx_X E M Y q L (.long (x + y) :: st) h n cells slots) : zx_X E M Y pc L (.long y :: .long x :: st) h n cells slots := by
  subst hq
  exact fun p e s m args below meth c ls H locs C hl hR hS hb => lv_ladd C.1 C.2.1 hd (k p e s m args below meth c ls H locs C hl hR hS hb)
theorem zx_lsub {x y : Int64} (hd : decode M.2.2.1 pc = .ok (.lsub, 1)) (hq : pc + 1 = q) (k : zx_X E M Y q L (.long (x - y) :: st) h n cells slots) : zx_X E M Y pc L (.long y :: .long x :: st) h n cells slots := by
  subst hq
  exact fun p e s m args below meth c ls H locs C hl hR hS hb => lv_lsub C.1 C.2.1 hd (k p e s m args below meth c ls H locs C hl hR hS hb)
theorem zx_lmul {x y : Int64} (hd : decode M.2.2.1 pc = .ok (.lmul, 1)) (hq : pc + 1 = q) (k : zx_X E M Y q L (.long (x * y) :: st) h n cells slots) : zx_X E M Y pc L (.long y :: .long x :: st) h n cells slots := by
  subst hq
  exact fun p e s m args below meth c ls H locs C hl hR hS hb => lv_lmul C.1 C.2.1 hd (k p e s m args below meth c ls H locs C hl hR hS hb)
theorem zx_land {x y : Int64} (hd : decode M.2.2.1 pc = .ok (.land, 1)) (hq : pc + 1 = q) (k : zx_X E M Y q L (.long (x &&& y) :: st) h n cells slots) : zx_X E M Y pc L (.long y :: .long x :: st) h n cells slots := by
  subst hq
  exact fun p e s m args below meth c ls H locs C hl hR hS hb => lv_land C.1 C.2.1 hd (k p e s m args below meth c ls H locs C hl hR hS hb)
theorem zx_lor {x y : Int64} (hd : decode M.2.2.1 pc = .ok (.lor, 1)) (hq : pc + 1 = q) (k : zx_X E M Y q L (.long (x ||| y) :: st) h n cells slots) : zx_X E M Y pc L (.long y :: .long x :: st) h n cells slots := by
  subst hq
  exact fun p e s m args below meth c ls H locs C hl hR hS hb => lv_lor C.1 C.2.1 hd (k p e s m args below meth c ls H locs C hl hR hS hb)
theorem zx_lxor {x y : Int64} (hd : decode M.2.2.1 pc = .ok (.lxor, 1)) (hq : pc + 1 = q) (k : zx_X E M Y q L (.long (x ^^^ y) :: st) h n cells slots) : zx_X E M Y pc L (.long y :: .long x :: st) h n cells slots := by
  subst hq
  exact fun p e s m args below meth c ls H locs C hl hR hS hb => lv_lxor C.1 C.2.1 hd (k p e s m args below meth c ls H locs C hl hR hS hb)
theorem zx_idiv {x y : Int32} (hd : decode M.2.2.1 pc = .ok (.idiv, 1)) (hq : pc + 1 = q) (hne : ¬ y = 0) (k : zx_X E M Y q L (.int (x / y) :: st) h n cells slots) : zx_X E M Y pc L (.int y :: .int x :: st) h n cells slots := by
  subst hq
  exact fun p e s m args below meth c ls H locs C hl hR hS hb => lv_idiv C.1 C.2.1 hd hne (k p e s m args below meth c ls H locs C hl hR hS hb)
theorem zx_irem {x y : Int32} (hd : decode M.2.2.1 pc = .ok (.irem, 1)) (hq : pc + 1 = q) (hne : ¬ y = 0) (k : zx_X E M Y q L (.int (x - x / y * y) :: st) h n cells slots) : zx_X E M Y pc L (.int y :: .int x :: st) h n cells slots := by
  subst hq
  exact fun p e s m args below meth c ls H locs C hl hR hS hb => lv_irem C.1 C.2.1 hd hne (k p e s m args below meth c ls H locs C hl hR hS hb)
theorem zx_ineg {x : Int32} (hd : decode M.2.2.1 pc = .ok (.ineg, 1)) (hq : pc + 1 = q) (k : zx_X E M Y q L (.int (-x) :: st) h n cells slots) : zx_X E M Y pc L (.int x :: st) h n cells slots := by
  subst hq
  exact fun p e s m args below meth c ls H locs C hl hR hS hb => lv_ineg C.1 C.2.1 hd (k p e s m args below meth c ls H locs C hl hR hS hb)
theorem zx_ishl {x y : Int32} (hd : decode M.2.2.1 pc = .ok (.ishl, 1)) (hq : pc + 1 = q) (k : zx_X E M Y q L (.int (x <<< (y &&& 31)) :: st) h n cells slots) : zx_X E M Y pc L (.int y :: .int x :: st) h n cells slots := by
  subst hq
  exact fun p e s m args below meth c ls H locs C hl hR hS hb => lv_ishl C.1 C.2.1 hd (k p e s m args below meth c ls H locs C hl hR hS hb)
theorem zx_ishr {x y : Int32} (hd : decode M.2.2.1 pc = .ok (.ishr, 1)) (hq : pc + 1 = q) (k : zx_X E M Y q L (.int (x >>> (y &&& 31)) :: st) h n cells slots) : zx_X E M Y pc L (.int y :: .int x :: st) h n cells slots := by
  subst hq
  exact fun p e s m args below meth c ls H locs C hl hR hS hb => lv_ishr C.1 C.2.1 hd (k p e s m args below meth c ls H locs C hl hR hS hb)
theorem zx_i2l {x : Int32} (hd : decode M.2.2.1 pc = .ok (.i2l, 1)) (hq : pc + 1 = q) (k : zx_X E M Y q L (.long x.toInt64 :: st) h n cells slots) : zx_X E M Y pc L (.int x :: st) h n cells slots := by
  subst hq
  exact fun p e s m args below meth c ls H locs C hl hR hS hb => lv_i2l C.1 C.2.1 hd rfl (k p e s m args below meth c ls H locs C hl hR hS hb)
theorem zx_l2i {x : Int64} (hd : decode M.2.2.1 pc = .ok (.l2i, 1)) (hq : pc + 1 = q) (k : zx_X E M Y q L (.int x.toInt32 :: st) h n cells slots) : zx_X E M Y pc L (.long x :: st) h n cells slots := by
  subst hq
  exact fun p e s m args below meth c ls H locs C hl hR hS hb => lv_l2i C.1 C.2.1 hd rfl (k p e s m args below meth c ls H locs C hl hR hS hb)
theorem zx_lushr {x : Int64} {y : Int32} (hd : decode M.2.2.1 pc = .ok (.lushr, 1)) (hq : pc + 1 = q) (k : zx_X E M Y q L (.long (x.toUInt64 >>> (y.toInt64.toUInt64 &&& Int64.toUInt64 63)).toInt64 :: st) h n cells slots) : zx_X E M Y pc L (.int y :: .long x :: st) h n cells slots := by
  subst hq
  exact fun p e s m args below meth c ls H locs C hl hR hS hb => lv_lushr C.1 C.2.1 hd rfl (k p e s m args below meth c ls H locs C hl hR hS hb)
theorem zx_lshl {x : Int64} {y : Int32} (hd : decode M.2.2.1 pc = .ok (.lshl, 1)) (hq : pc + 1 = q) (k : zx_X E M Y q L (.long (x <<< (y.toInt64 &&& 63)) :: st) h n cells slots) : zx_X E M Y pc L (.int y :: .long x :: st) h n cells slots := by
  subst hq
  exact fun p e s m args below meth c ls H locs C hl hR hS hb => lv_lshl C.1 C.2.1 hd rfl (k p e s m args below meth c ls H locs C hl hR hS hb)
theorem zx_lshr {x : Int64} {y : Int32} (hd : decode M.2.2.1 pc = .ok (.lshr, 1)) (hq : pc + 1 = q) (k : zx_X E M Y q L (.long (x >>> (y.toInt64 &&& 63)) :: st) h n cells slots) : zx_X E M Y pc L (.int y :: .long x :: st) h n cells slots := by
  subst hq
  exact fun p e s m args below meth c ls H locs C hl hR hS hb => lv_lshr C.1 C.2.1 hd rfl (k p e s m args below meth c ls H locs C hl hR hS hb)
theorem zx_lcmp {x y : Int64} (hd : decode M.2.2.1 pc = .ok (.lcmp, 1)) (hq : pc + 1 = q) (k : zx_X E M Y q L (.int (lg_cmp x y) :: st) h n cells slots) : zx_X E M Y pc L (.long y :: .long x :: st) h n cells slots := by
  subst hq
  exact fun p e s m args below meth c ls H locs C hl hR hS hb => W.lcmp C.1 C.2.1 hd (k p e s m args below meth c ls H locs C hl hR hS hb)
theorem zx_dup {v : Value} (hd : decode M.2.2.1 pc = .ok (.dup, 1)) (hq : pc + 1 = q) (hv : v.category = 1) (k : zx_X E M Y q L (v :: v :: st) h n cells slots) : zx_X E M Y pc L (v :: st) h n cells slots := by
  subst hq
  exact fun p e s m args below meth c ls H locs C hl hR hS hb => lv_dup C.1 C.2.1 hd hv (k p e s m args below meth c ls H locs C hl hR hS hb)
theorem zx_dup_x1 {v w : Value} (hd : decode M.2.2.1 pc = .ok (.dup_x1, 1)) (hq : pc + 1 = q) (hv : v.category = 1) (hw : w.category = 1) (k : zx_X E M Y q L (v :: w :: v :: st) h n cells slots) : zx_X E M Y pc L (v :: w :: st) h n cells slots := by
  subst hq
  exact fun p e s m args below meth c ls H locs C hl hR hS hb => lv_dup_x1 C.1 C.2.1 hd hv hw (k p e s m args below meth c ls H locs C hl hR hS hb)
theorem zx_dup2 {v w : Value} (hd : decode M.2.2.1 pc = .ok (.dup2, 1)) (hq : pc + 1 = q) (hv : v.category = 1) (hw : w.category = 1) (k : zx_X E M Y q L (v :: w :: v :: w :: st) h n cells slots) : zx_X E M Y pc L (v :: w :: st) h n cells slots := by
  subst hq
  exact fun p e s m args below meth c ls H locs C hl hR hS hb => lv_dup2_11 C.1 C.2.1 hd hv hw (k p e s m args below meth c ls H locs C hl hR hS hb)
theorem zx_pop {v : Value} (hd : decode M.2.2.1 pc = .ok (.pop, 1)) (hq : pc + 1 = q) (hv : v.category = 1) (k : zx_X E M Y q L (st) h n cells slots) : zx_X E M Y pc L (v :: st) h n cells slots := by
  subst hq
  exact fun p e s m args below meth c ls H locs C hl hR hS hb => lv_pop C.1 C.2.1 hd hv (k p e s m args below meth c ls H locs C hl hR hS hb)
theorem zx_iconst {z : Int} (v : Int32) (hd : decode M.2.2.1 pc = .ok (.iconst z, 1)) (hq : pc + 1 = q) (hv : Int32.ofInt z = v) (k : zx_X E M Y q L (.int v :: st) h n cells slots) : zx_X E M Y pc L (st) h n cells slots := by
  subst hq
  exact fun p e s m args below meth c ls H locs C hl hR hS hb => lv_iconst C.1 C.2.1 hd hv (k p e s m args below meth c ls H locs C hl hR hS hb)
theorem zx_bipush {z : Int} (v : Int32) (hd : decode M.2.2.1 pc = .ok (.bipush z, 2)) (hq : pc + 2 = q) (hv : (Int8.ofInt z).toInt32 = v) (k : zx_X E M Y q L (.int v :: st) h n cells slots) : zx_X E M Y pc L (st) h n cells slots := by
  subst hq
  exact fun p e s m args below meth c ls H locs C hl hR hS hb => lv_bipush C.1 C.2.1 hd hv (k p e s m args below meth c ls H locs C hl hR hS hb)
theorem zx_sipush {z : Int} (v : Int32) (hd : decode M.2.2.1 pc = .ok (.sipush z, 3)) (hq : pc + 3 = q) (hv : (Int16.ofInt z).toInt32 = v) (k : zx_X E M Y q L (.int v :: st) h n cells slots) : zx_X E M Y pc L (st) h n cells slots := by
  subst hq
  exact fun p e s m args below meth c ls H locs C hl hR hS hb => lv_sipush C.1 C.2.1 hd hv (k p e s m args below meth c ls H locs C hl hR hS hb)
theorem zx_lconst {z : Fin 2} (v : Int64) (hd : decode M.2.2.1 pc = .ok (.lconst z, 1)) (hq : pc + 1 = q) (hv : Int64.ofNat (z : Nat) = v) (k : zx_X E M Y q L (.long v :: st) h n cells slots) : zx_X E M Y pc L (st) h n cells slots := by
  subst hq
  exact fun p e s m args below meth c ls H locs C hl hR hS hb => lv_lconst C.1 C.2.1 hd hv (k p e s m args below meth c ls H locs C hl hR hS hb)
theorem zx_ldc {i : Nat} (v : Int32) (hd : decode M.2.2.1 pc = .ok (.ldc i, 2)) (hq : pc + 2 = q) (hw : Cond.constant M.1 i v ∈ zx_T) (k : zx_X E M Y q L (.int v :: st) h n cells slots) : zx_X E M Y pc L st h n cells slots := by
  subst hq
  exact fun p e s m args below meth c ls H locs C hl hR hS hb => lv_ldc C.1 C.2.1 C.2.2.2.1 (C.2.2.2.2.1 _ hw) hd (k p e s m args below meth c ls H locs C hl hR hS hb)
theorem zx_ldc2 {i : Nat} (v : Int64) (hd : decode M.2.2.1 pc = .ok (.ldc2_w i, 3)) (hq : pc + 3 = q) (hw : Cond.constantLong M.1 i v ∈ zx_T) (k : zx_X E M Y q L (.long v :: st) h n cells slots) : zx_X E M Y pc L st h n cells slots := by
  subst hq
  exact fun p e s m args below meth c ls H locs C hl hR hS hb => lv_ldc2 C.1 C.2.1 C.2.2.2.1 (C.2.2.2.2.1 _ hw) hd (k p e s m args below meth c ls H locs C hl hR hS hb)
theorem zx_iload_n {z : Fin 4} {x : Int32} (hd : decode M.2.2.1 pc = .ok (.iload_n z, 1)) (hq : pc + 1 = q) (hg : zx_nth L z.val = some (.int x)) (k : zx_X E M Y q L (.int x :: st) h n cells slots) : zx_X E M Y pc L st h n cells slots := by
  subst hq
  exact fun p e s m args below meth c ls H locs C hl hR hS hb => lv_iload_n C.1 C.2.1 hd rfl (zx_lat hl hg) (k p e s m args below meth c ls H locs C hl hR hS hb)
theorem zx_iload {i : Nat} {x : Int32} (hd : decode M.2.2.1 pc = .ok (.iload i, 2)) (hq : pc + 2 = q) (hg : zx_nth L i = some (.int x)) (k : zx_X E M Y q L (.int x :: st) h n cells slots) : zx_X E M Y pc L st h n cells slots := by
  subst hq
  exact fun p e s m args below meth c ls H locs C hl hR hS hb => lv_iload C.1 C.2.1 hd (zx_lat hl hg) (k p e s m args below meth c ls H locs C hl hR hS hb)
theorem zx_lload_n {z : Fin 4} {x : Int64} (hd : decode M.2.2.1 pc = .ok (.lload_n z, 1)) (hq : pc + 1 = q) (hg : zx_nth L z.val = some (.long x)) (k : zx_X E M Y q L (.long x :: st) h n cells slots) : zx_X E M Y pc L st h n cells slots := by
  subst hq
  exact fun p e s m args below meth c ls H locs C hl hR hS hb => lv_lload_n C.1 C.2.1 hd rfl (zx_lat hl hg) (k p e s m args below meth c ls H locs C hl hR hS hb)
theorem zx_lload {i : Nat} {x : Int64} (hd : decode M.2.2.1 pc = .ok (.lload i, 2)) (hq : pc + 2 = q) (hg : zx_nth L i = some (.long x)) (k : zx_X E M Y q L (.long x :: st) h n cells slots) : zx_X E M Y pc L st h n cells slots := by
  subst hq
  exact fun p e s m args below meth c ls H locs C hl hR hS hb => lv_lload C.1 C.2.1 hd (zx_lat hl hg) (k p e s m args below meth c ls H locs C hl hR hS hb)
theorem zx_aload_n {z : Fin 4} {x : Nat} (hd : decode M.2.2.1 pc = .ok (.aload_n z, 1)) (hq : pc + 1 = q) (hg : zx_nth L z.val = some (.ref x)) (k : zx_X E M Y q L (.ref x :: st) h n cells slots) : zx_X E M Y pc L st h n cells slots := by
  subst hq
  exact fun p e s m args below meth c ls H locs C hl hR hS hb => lv_aload_n C.1 C.2.1 hd rfl (zx_lat hl hg) (k p e s m args below meth c ls H locs C hl hR hS hb)
theorem zx_aload {i : Nat} {x : Nat} (hd : decode M.2.2.1 pc = .ok (.aload i, 2)) (hq : pc + 2 = q) (hg : zx_nth L i = some (.ref x)) (k : zx_X E M Y q L (.ref x :: st) h n cells slots) : zx_X E M Y pc L st h n cells slots := by
  subst hq
  exact fun p e s m args below meth c ls H locs C hl hR hS hb => lv_aload C.1 C.2.1 hd (zx_lat hl hg) (k p e s m args below meth c ls H locs C hl hR hS hb)
theorem zx_istore_n' {z : Fin 4} {x : Int32} (L' : List (Option Value)) (hd : decode M.2.2.1 pc = .ok (.istore_n z, 1)) (hq : pc + 1 = q) (hn : z.val < M.2.2.2.1) (hL : zx_ok1 z.val (.int x) L L') (k : zx_X E M Y q L' st h n cells slots) : zx_X E M Y pc L (.int x :: st) h n cells slots := by
  subst hq
  exact fun p e s m args below meth c ls H locs C hl hR hS hb => lv_istore_n C.1 C.2.1 hd rfl hl hn rfl (fun ls' hl' => k p e s m args below meth c ls' H locs C (zx_ok1_has hL hl') hR hS hb)
theorem zx_istore' {i : Nat} {x : Int32} (L' : List (Option Value)) (hd : decode M.2.2.1 pc = .ok (.istore i, 2)) (hq : pc + 2 = q) (hn : i < M.2.2.2.1) (hL : zx_ok1 i (.int x) L L') (k : zx_X E M Y q L' st h n cells slots) : zx_X E M Y pc L (.int x :: st) h n cells slots := by
  subst hq
  exact fun p e s m args below meth c ls H locs C hl hR hS hb => lv_istore C.1 C.2.1 hd hl hn rfl (fun ls' hl' => k p e s m args below meth c ls' H locs C (zx_ok1_has hL hl') hR hS hb)
theorem zx_lstore_n' {z : Fin 4} {x : Int64} (L' : List (Option Value)) (hd : decode M.2.2.1 pc = .ok (.lstore_n z, 1)) (hq : pc + 1 = q) (hn : z.val + 1 < M.2.2.2.1) (hL : zx_ok2 z.val (.long x) L L') (k : zx_X E M Y q L' st h n cells slots) : zx_X E M Y pc L (.long x :: st) h n cells slots := by
  subst hq
  exact fun p e s m args below meth c ls H locs C hl hR hS hb => lv_lstore_n C.1 C.2.1 hd rfl hl hn rfl (fun ls' hl' => k p e s m args below meth c ls' H locs C (zx_ok2_has hL hl') hR hS hb)
theorem zx_lstore' {i : Nat} {x : Int64} (L' : List (Option Value)) (hd : decode M.2.2.1 pc = .ok (.lstore i, 2)) (hq : pc + 2 = q) (hn : i + 1 < M.2.2.2.1) (hL : zx_ok2 i (.long x) L L') (k : zx_X E M Y q L' st h n cells slots) : zx_X E M Y pc L (.long x :: st) h n cells slots := by
  subst hq
  exact fun p e s m args below meth c ls H locs C hl hR hS hb => lv_lstore C.1 C.2.1 hd hl hn rfl (fun ls' hl' => k p e s m args below meth c ls' H locs C (zx_ok2_has hL hl') hR hS hb)
theorem zx_astore_n' {z : Fin 4} {x : Nat} (L' : List (Option Value)) (hd : decode M.2.2.1 pc = .ok (.astore_n z, 1)) (hq : pc + 1 = q) (hn : z.val < M.2.2.2.1) (hL : zx_ok1 z.val (.ref x) L L') (k : zx_X E M Y q L' st h n cells slots) : zx_X E M Y pc L (.ref x :: st) h n cells slots := by
  subst hq
  exact fun p e s m args below meth c ls H locs C hl hR hS hb => lv_astore_n C.1 C.2.1 hd rfl hl hn rfl (fun ls' hl' => k p e s m args below meth c ls' H locs C (zx_ok1_has hL hl') hR hS hb)
theorem zx_astore' {i : Nat} {x : Nat} (L' : List (Option Value)) (hd : decode M.2.2.1 pc = .ok (.astore i, 2)) (hq : pc + 2 = q) (hn : i < M.2.2.2.1) (hL : zx_ok1 i (.ref x) L L') (k : zx_X E M Y q L' st h n cells slots) : zx_X E M Y pc L (.ref x :: st) h n cells slots := by
  subst hq
  exact fun p e s m args below meth c ls H locs C hl hR hS hb => lv_astore C.1 C.2.1 hd hl hn rfl (fun ls' hl' => k p e s m args below meth c ls' H locs C (zx_ok1_has hL hl') hR hS hb)
theorem zx_iinc' {i : Nat} {z : Int} {x : Int32} (d : Int32) (L' : List (Option Value)) (hd : decode M.2.2.1 pc = .ok (.iinc i z, 3)) (hq : pc + 3 = q) (hz : Int32.ofInt z = d) (hn : i < M.2.2.2.1) (hg : zx_nth L i = some (.int x)) (hL : zx_ok1 i (.int (x + d)) L L') (k : zx_X E M Y q L' st h n cells slots) : zx_X E M Y pc L st h n cells slots := by
  subst hq; subst hz
  intro p e s m args below meth c ls H locs C hl hR hS hb
  obtain ⟨j, hj⟩ := List.getElem?_of_mem (zx_as_mem L 0 i _ hg)
  rw [Nat.zero_add] at hj
  exact lv_iinc C.1 C.2.1 hd hl hj rfl hn rfl (fun ls' hl' => k p e s m args below meth c ls' H locs C (zx_ok1_has hL hl') hR hS hb)
theorem zx_istore_0 {y : Option Value} {rr : List (Option Value)} {x : Int32} (hd : decode M.2.2.1 pc = .ok (.istore_n 0, 1)) (hq : pc + 1 = q) (hn : 0 < M.2.2.2.1) (k : zx_X E M Y q (some (.int x) :: rr) st h n cells slots) : zx_X E M Y pc (y :: rr) (.int x :: st) h n cells slots :=
  zx_istore_n' (z := 0) _ hd hq hn (zx_ok1_gen [] _ _ _ (fun w z => by cases z)) k
theorem zx_astore_0 {y : Option Value} {rr : List (Option Value)} {x : Nat} (hd : decode M.2.2.1 pc = .ok (.astore_n 0, 1)) (hq : pc + 1 = q) (hn : 0 < M.2.2.2.1) (k : zx_X E M Y q (some (.ref x) :: rr) st h n cells slots) : zx_X E M Y pc (y :: rr) (.ref x :: st) h n cells slots :=
  zx_astore_n' (z := 0) _ hd hq hn (zx_ok1_gen [] _ _ _ (fun w z => by cases z)) k
theorem zx_lstore_0 {y y' : Option Value} {rr : List (Option Value)} {x : Int64} (hd : decode M.2.2.1 pc = .ok (.lstore_n 0, 1)) (hq : pc + 1 = q) (hn : 0 + 1 < M.2.2.2.1) (k : zx_X E M Y q (some (.long x) :: none :: rr) st h n cells slots) : zx_X E M Y pc (y :: y' :: rr) (.long x :: st) h n cells slots :=
  zx_lstore_n' (z := 0) _ hd hq hn (zx_ok2_gen [] _ _ _ _ (fun w z => by cases z)) k
theorem zx_iinc_0 {rr : List (Option Value)} {z : Int} {x : Int32} (d : Int32) (hd : decode M.2.2.1 pc = .ok (.iinc 0 z, 3)) (hq : pc + 3 = q) (hz : Int32.ofInt z = d) (hn : 0 < M.2.2.2.1) (k : zx_X E M Y q (some (.int (x + d)) :: rr) st h n cells slots) : zx_X E M Y pc (some (.int x) :: rr) st h n cells slots :=
  zx_iinc' d _ hd hq hz hn rfl (zx_ok1_gen [] _ _ _ (fun w z => by cases z)) k
theorem zx_istore_1 {a0 : Option Value} {y : Option Value} {rr : List (Option Value)} {x : Int32} (hd : decode M.2.2.1 pc = .ok (.istore_n 1, 1)) (hq : pc + 1 = q) (hn : 1 < M.2.2.2.1) (hc : zx_n2 a0 = true) (k : zx_X E M Y q (a0 :: some (.int x) :: rr) st h n cells slots) : zx_X E M Y pc (a0 :: y :: rr) (.int x :: st) h n cells slots :=
  zx_istore_n' (z := 1) _ hd hq hn (zx_ok1_gen [a0] _ _ _ (zx_n2_last rfl hc)) k
theorem zx_astore_1 {a0 : Option Value} {y : Option Value} {rr : List (Option Value)} {x : Nat} (hd : decode M.2.2.1 pc = .ok (.astore_n 1, 1)) (hq : pc + 1 = q) (hn : 1 < M.2.2.2.1) (hc : zx_n2 a0 = true) (k : zx_X E M Y q (a0 :: some (.ref x) :: rr) st h n cells slots) : zx_X E M Y pc (a0 :: y :: rr) (.ref x :: st) h n cells slots :=
  zx_astore_n' (z := 1) _ hd hq hn (zx_ok1_gen [a0] _ _ _ (zx_n2_last rfl hc)) k
theorem zx_lstore_1 {a0 : Option Value} {y y' : Option Value} {rr : List (Option Value)} {x : Int64} (hd : decode M.2.2.1 pc = .ok (.lstore_n 1, 1)) (hq : pc + 1 = q) (hn : 1 + 1 < M.2.2.2.1) (hc : zx_n2 a0 = true) (k : zx_X E M Y q (a0 :: some (.long x) :: none :: rr) st h n cells slots) : zx_X E M Y pc (a0 :: y :: y' :: rr) (.long x :: st) h n cells slots :=
  zx_lstore_n' (z := 1) _ hd hq hn (zx_ok2_gen [a0] _ _ _ _ (zx_n2_last rfl hc)) k
theorem zx_iinc_1 {a0 : Option Value} {rr : List (Option Value)} {z : Int} {x : Int32} (d : Int32) (hd : decode M.2.2.1 pc = .ok (.iinc 1 z, 3)) (hq : pc + 3 = q) (hz : Int32.ofInt z = d) (hn : 1 < M.2.2.2.1) (hc : zx_n2 a0 = true) (k : zx_X E M Y q (a0 :: some (.int (x + d)) :: rr) st h n cells slots) : zx_X E M Y pc (a0 :: some (.int x) :: rr) st h n cells slots :=
  zx_iinc' d _ hd hq hz hn rfl (zx_ok1_gen [a0] _ _ _ (zx_n2_last rfl hc)) k
theorem zx_istore_2 {a0 a1 : Option Value} {y : Option Value} {rr : List (Option Value)} {x : Int32} (hd : decode M.2.2.1 pc = .ok (.istore_n 2, 1)) (hq : pc + 1 = q) (hn : 2 < M.2.2.2.1) (hc : zx_n2 a1 = true) (k : zx_X E M Y q (a0 :: a1 :: some (.int x) :: rr) st h n cells slots) : zx_X E M Y pc (a0 :: a1 :: y :: rr) (.int x :: st) h n cells slots :=
  zx_istore_n' (z := 2) _ hd hq hn (zx_ok1_gen [a0, a1] _ _ _ (zx_n2_last rfl hc)) k
theorem zx_astore_2 {a0 a1 : Option Value} {y : Option Value} {rr : List (Option Value)} {x : Nat} (hd : decode M.2.2.1 pc = .ok (.astore_n 2, 1)) (hq : pc + 1 = q) (hn : 2 < M.2.2.2.1) (hc : zx_n2 a1 = true) (k : zx_X E M Y q (a0 :: a1 :: some (.ref x) :: rr) st h n cells slots) : zx_X E M Y pc (a0 :: a1 :: y :: rr) (.ref x :: st) h n cells slots :=
  zx_astore_n' (z := 2) _ hd hq hn (zx_ok1_gen [a0, a1] _ _ _ (zx_n2_last rfl hc)) k
theorem zx_lstore_2 {a0 a1 : Option Value} {y y' : Option Value} {rr : List (Option Value)} {x : Int64} (hd : decode M.2.2.1 pc = .ok (.lstore_n 2, 1)) (hq : pc + 1 = q) (hn : 2 + 1 < M.2.2.2.1) (hc : zx_n2 a1 = true) (k : zx_X E M Y q (a0 :: a1 :: some (.long x) :: none :: rr) st h n cells slots) : zx_X E M Y pc (a0 :: a1 :: y :: y' :: rr) (.long x :: st) h n cells slots :=
  zx_lstore_n' (z := 2) _ hd hq hn (zx_ok2_gen [a0, a1] _ _ _ _ (zx_n2_last rfl hc)) k
theorem zx_iinc_2 {a0 a1 : Option Value} {rr : List (Option Value)} {z : Int} {x : Int32} (d : Int32) (hd : decode M.2.2.1 pc = .ok (.iinc 2 z, 3)) (hq : pc + 3 = q) (hz : Int32.ofInt z = d) (hn : 2 < M.2.2.2.1) (hc : zx_n2 a1 = true) (k : zx_X E M Y q (a0 :: a1 :: some (.int (x + d)) :: rr) st h n cells slots) : zx_X E M Y pc (a0 :: a1 :: some (.int x) :: rr) st h n cells slots :=
  zx_iinc' d _ hd hq hz hn rfl (zx_ok1_gen [a0, a1] _ _ _ (zx_n2_last rfl hc)) k
theorem zx_istore_3 {a0 a1 a2 : Option Value} {y : Option Value} {rr : List (Option Value)} {x : Int32} (hd : decode M.2.2.1 pc = .ok (.istore_n 3, 1)) (hq : pc + 1 = q) (hn : 3 < M.2.2.2.1) (hc : zx_n2 a2 = true) (k : zx_X E M Y q (a0 :: a1 :: a2 :: some (.int x) :: rr) st h n cells slots) : zx_X E M Y pc (a0 :: a1 :: a2 :: y :: rr) (.int x :: st) h n cells slots :=
  zx_istore_n' (z := 3) _ hd hq hn (zx_ok1_gen [a0, a1, a2] _ _ _ (zx_n2_last rfl hc)) k
theorem zx_astore_3 {a0 a1 a2 : Option Value} {y : Option Value} {rr : List (Option Value)} {x : Nat} (hd : decode M.2.2.1 pc = .ok (.astore_n 3, 1)) (hq : pc + 1 = q) (hn : 3 < M.2.2.2.1) (hc : zx_n2 a2 = true) (k : zx_X E M Y q (a0 :: a1 :: a2 :: some (.ref x) :: rr) st h n cells slots) : zx_X E M Y pc (a0 :: a1 :: a2 :: y :: rr) (.ref x :: st) h n cells slots :=
  zx_astore_n' (z := 3) _ hd hq hn (zx_ok1_gen [a0, a1, a2] _ _ _ (zx_n2_last rfl hc)) k
theorem zx_lstore_3 {a0 a1 a2 : Option Value} {y y' : Option Value} {rr : List (Option Value)} {x : Int64} (hd : decode M.2.2.1 pc = .ok (.lstore_n 3, 1)) (hq : pc + 1 = q) (hn : 3 + 1 < M.2.2.2.1) (hc : zx_n2 a2 = true) (k : zx_X E M Y q (a0 :: a1 :: a2 :: some (.long x) :: none :: rr) st h n cells slots) : zx_X E M Y pc (a0 :: a1 :: a2 :: y :: y' :: rr) (.long x :: st) h n cells slots :=
  zx_lstore_n' (z := 3) _ hd hq hn (zx_ok2_gen [a0, a1, a2] _ _ _ _ (zx_n2_last rfl hc)) k
theorem zx_iinc_3 {a0 a1 a2 : Option Value} {rr : List (Option Value)} {z : Int} {x : Int32} (d : Int32) (hd : decode M.2.2.1 pc = .ok (.iinc 3 z, 3)) (hq : pc + 3 = q) (hz : Int32.ofInt z = d) (hn : 3 < M.2.2.2.1) (hc : zx_n2 a2 = true) (k : zx_X E M Y q (a0 :: a1 :: a2 :: some (.int (x + d)) :: rr) st h n cells slots) : zx_X E M Y pc (a0 :: a1 :: a2 :: some (.int x) :: rr) st h n cells slots :=
  zx_iinc' d _ hd hq hz hn rfl (zx_ok1_gen [a0, a1, a2] _ _ _ (zx_n2_last rfl hc)) k
theorem zx_istore_4 {a0 a1 a2 a3 : Option Value} {y : Option Value} {rr : List (Option Value)} {x : Int32} (hd : decode M.2.2.1 pc = .ok (.istore 4, 2)) (hq : pc + 2 = q) (hn : 4 < M.2.2.2.1) (hc : zx_n2 a3 = true) (k : zx_X E M Y q (a0 :: a1 :: a2 :: a3 :: some (.int x) :: rr) st h n cells slots) : zx_X E M Y pc (a0 :: a1 :: a2 :: a3 :: y :: rr) (.int x :: st) h n cells slots :=
  zx_istore' (i := 4) _ hd hq hn (zx_ok1_gen [a0, a1, a2, a3] _ _ _ (zx_n2_last rfl hc)) k
theorem zx_astore_4 {a0 a1 a2 a3 : Option Value} {y : Option Value} {rr : List (Option Value)} {x : Nat} (hd : decode M.2.2.1 pc = .ok (.astore 4, 2)) (hq : pc + 2 = q) (hn : 4 < M.2.2.2.1) (hc : zx_n2 a3 = true) (k : zx_X E M Y q (a0 :: a1 :: a2 :: a3 :: some (.ref x) :: rr) st h n cells slots) : zx_X E M Y pc (a0 :: a1 :: a2 :: a3 :: y :: rr) (.ref x :: st) h n cells slots :=
  zx_astore' (i := 4) _ hd hq hn (zx_ok1_gen [a0, a1, a2, a3] _ _ _ (zx_n2_last rfl hc)) k
theorem zx_lstore_4 {a0 a1 a2 a3 : Option Value} {y y' : Option Value} {rr : List (Option Value)} {x : Int64} (hd : decode M.2.2.1 pc = .ok (.lstore 4, 2)) (hq : pc + 2 = q) (hn : 4 + 1 < M.2.2.2.1) (hc : zx_n2 a3 = true) (k : zx_X E M Y q (a0 :: a1 :: a2 :: a3 :: some (.long x) :: none :: rr) st h n cells slots) : zx_X E M Y pc (a0 :: a1 :: a2 :: a3 :: y :: y' :: rr) (.long x :: st) h n cells slots :=
  zx_lstore' (i := 4) _ hd hq hn (zx_ok2_gen [a0, a1, a2, a3] _ _ _ _ (zx_n2_last rfl hc)) k
theorem zx_iinc_4 {a0 a1 a2 a3 : Option Value} {rr : List (Option Value)} {z : Int} {x : Int32} (d : Int32) (hd : decode M.2.2.1 pc = .ok (.iinc 4 z, 3)) (hq : pc + 3 = q) (hz : Int32.ofInt z = d) (hn : 4 < M.2.2.2.1) (hc : zx_n2 a3 = true) (k : zx_X E M Y q (a0 :: a1 :: a2 :: a3 :: some (.int (x + d)) :: rr) st h n cells slots) : zx_X E M Y pc (a0 :: a1 :: a2 :: a3 :: some (.int x) :: rr) st h n cells slots :=
  zx_iinc' d _ hd hq hz hn rfl (zx_ok1_gen [a0, a1, a2, a3] _ _ _ (zx_n2_last rfl hc)) k
theorem zx_istore_5 {a0 a1 a2 a3 a4 : Option Value} {y : Option Value} {rr : List (Option Value)} {x : Int32} (hd : decode M.2.2.1 pc = .ok (.istore 5, 2)) (hq : pc + 2 = q) (hn : 5 < M.2.2.2.1) (hc : zx_n2 a4 = true) (k : zx_X E M Y q (a0 :: a1 :: a2 :: a3 :: a4 :: some (.int x) :: rr) st h n cells slots) : zx_X E M Y pc (a0 :: a1 :: a2 :: a3 :: a4 :: y :: rr) (.int x :: st) h n cells slots :=
  zx_istore' (i := 5) _ hd hq hn (zx_ok1_gen [a0, a1, a2, a3, a4] _ _ _ (zx_n2_last rfl hc)) k
theorem zx_astore_5 {a0 a1 a2 a3 a4 : Option Value} {y : Option Value} {rr : List (Option Value)} {x : Nat} (hd : decode M.2.2.1 pc = .ok (.astore 5, 2)) (hq : pc + 2 = q) (hn : 5 < M.2.2.2.1) (hc : zx_n2 a4 = true) (k : zx_X E M Y q (a0 :: a1 :: a2 :: a3 :: a4 :: some (.ref x) :: rr) st h n cells slots) : zx_X E M Y pc (a0 :: a1 :: a2 :: a3 :: a4 :: y :: rr) (.ref x :: st) h n cells slots :=
  zx_astore' (i := 5) _ hd hq hn (zx_ok1_gen [a0, a1, a2, a3, a4] _ _ _ (zx_n2_last rfl hc)) k
theorem zx_lstore_5 {a0 a1 a2 a3 a4 : Option Value} {y y' : Option Value} {rr : List (Option Value)} {x : Int64} (hd : decode M.2.2.1 pc = .ok (.lstore 5, 2)) (hq : pc + 2 = q) (hn : 5 + 1 < M.2.2.2.1) (hc : zx_n2 a4 = true) (k : zx_X E M Y q (a0 :: a1 :: a2 :: a3 :: a4 :: some (.long x) :: none :: rr) st h n cells slots) : zx_X E M Y pc (a0 :: a1 :: a2 :: a3 :: a4 :: y :: y' :: rr) (.long x :: st) h n cells slots :=
  zx_lstore' (i := 5) _ hd hq hn (zx_ok2_gen [a0, a1, a2, a3, a4] _ _ _ _ (zx_n2_last rfl hc)) k
theorem zx_iinc_5 {a0 a1 a2 a3 a4 : Option Value} {rr : List (Option Value)} {z : Int} {x : Int32} (d : Int32) (hd : decode M.2.2.1 pc = .ok (.iinc 5 z, 3)) (hq : pc + 3 = q) (hz : Int32.ofInt z = d) (hn : 5 < M.2.2.2.1) (hc : zx_n2 a4 = true) (k : zx_X E M Y q (a0 :: a1 :: a2 :: a3 :: a4 :: some (.int (x + d)) :: rr) st h n cells slots) : zx_X E M Y pc (a0 :: a1 :: a2 :: a3 :: a4 :: some (.int x) :: rr) st h n cells slots :=
  zx_iinc' d _ hd hq hz hn rfl (zx_ok1_gen [a0, a1, a2, a3, a4] _ _ _ (zx_n2_last rfl hc)) k
theorem zx_istore_6 {a0 a1 a2 a3 a4 a5 : Option Value} {y : Option Value} {rr : List (Option Value)} {x : Int32} (hd : decode M.2.2.1 pc = .ok (.istore 6, 2)) (hq : pc + 2 = q) (hn : 6 < M.2.2.2.1) (hc : zx_n2 a5 = true) (k : zx_X E M Y q (a0 :: a1 :: a2 :: a3 :: a4 :: a5 :: some (.int x) :: rr) st h n cells slots) : zx_X E M Y pc (a0 :: a1 :: a2 :: a3 :: a4 :: a5 :: y :: rr) (.int x :: st) h n cells slots :=
  zx_istore' (i := 6) _ hd hq hn (zx_ok1_gen [a0, a1, a2, a3, a4, a5] _ _ _ (zx_n2_last rfl hc)) k
theorem zx_astore_6 {a0 a1 a2 a3 a4 a5 : Option Value} {y : Option Value} {rr : List (Option Value)} {x : Nat} (hd : decode M.2.2.1 pc = .ok (.astore 6, 2)) (hq : pc + 2 = q) (hn : 6 < M.2.2.2.1) (hc : zx_n2 a5 = true) (k : zx_X E M Y q (a0 :: a1 :: a2 :: a3 :: a4 :: a5 :: some (.ref x) :: rr) st h n cells slots) : zx_X E M Y pc (a0 :: a1 :: a2 :: a3 :: a4 :: a5 :: y :: rr) (.ref x :: st) h n cells slots :=
  zx_astore' (i := 6) _ hd hq hn (zx_ok1_gen [a0, a1, a2, a3, a4, a5] _ _ _ (zx_n2_last rfl hc)) k
theorem zx_lstore_6 {a0 a1 a2 a3 a4 a5 : Option Value} {y y' : Option Value} {rr : List (Option Value)} {x : Int64} (hd : decode M.2.2.1 pc = .ok (.lstore 6, 2)) (hq : pc + 2 = q) (hn : 6 + 1 < M.2.2.2.1) (hc : zx_n2 a5 = true) (k : zx_X E M Y q (a0 :: a1 :: a2 :: a3 :: a4 :: a5 :: some (.long x) :: none :: rr) st h n cells slots) : zx_X E M Y pc (a0 :: a1 :: a2 :: a3 :: a4 :: a5 :: y :: y' :: rr) (.long x :: st) h n cells slots :=
  zx_lstore' (i := 6) _ hd hq hn (zx_ok2_gen [a0, a1, a2, a3, a4, a5] _ _ _ _ (zx_n2_last rfl hc)) k
theorem zx_iinc_6 {a0 a1 a2 a3 a4 a5 : Option Value} {rr : List (Option Value)} {z : Int} {x : Int32} (d : Int32) (hd : decode M.2.2.1 pc = .ok (.iinc 6 z, 3)) (hq : pc + 3 = q) (hz : Int32.ofInt z = d) (hn : 6 < M.2.2.2.1) (hc : zx_n2 a5 = true) (k : zx_X E M Y q (a0 :: a1 :: a2 :: a3 :: a4 :: a5 :: some (.int (x + d)) :: rr) st h n cells slots) : zx_X E M Y pc (a0 :: a1 :: a2 :: a3 :: a4 :: a5 :: some (.int x) :: rr) st h n cells slots :=
  zx_iinc' d _ hd hq hz hn rfl (zx_ok1_gen [a0, a1, a2, a3, a4, a5] _ _ _ (zx_n2_last rfl hc)) k
theorem zx_istore_7 {a0 a1 a2 a3 a4 a5 a6 : Option Value} {y : Option Value} {rr : List (Option Value)} {x : Int32} (hd : decode M.2.2.1 pc = .ok (.istore 7, 2)) (hq : pc + 2 = q) (hn : 7 < M.2.2.2.1) (hc : zx_n2 a6 = true) (k : zx_X E M Y q (a0 :: a1 :: a2 :: a3 :: a4 :: a5 :: a6 :: some (.int x) :: rr) st h n cells slots) : zx_X E M Y pc (a0 :: a1 :: a2 :: a3 :: a4 :: a5 :: a6 :: y :: rr) (.int x :: st) h n cells slots :=
  zx_istore' (i := 7) _ hd hq hn (zx_ok1_gen [a0, a1, a2, a3, a4, a5, a6] _ _ _ (zx_n2_last rfl hc)) k
theorem zx_astore_7 {a0 a1 a2 a3 a4 a5 a6 : Option Value} {y : Option Value} {rr : List (Option Value)} {x : Nat} (hd : decode M.2.2.1 pc = .ok (.astore 7, 2)) (hq : pc + 2 = q) (hn : 7 < M.2.2.2.1) (hc : zx_n2 a6 = true) (k : zx_X E M Y q (a0 :: a1 :: a2 :: a3 :: a4 :: a5 :: a6 :: some (.ref x) :: rr) st h n cells slots) : zx_X E M Y pc (a0 :: a1 :: a2 :: a3 :: a4 :: a5 :: a6 :: y :: rr) (.ref x :: st) h n cells slots :=
  zx_astore' (i := 7) _ hd hq hn (zx_ok1_gen [a0, a1, a2, a3, a4, a5, a6] _ _ _ (zx_n2_last rfl hc)) k
theorem zx_lstore_7 {a0 a1 a2 a3 a4 a5 a6 : Option Value} {y y' : Option Value} {rr : List (Option Value)} {x : Int64} (hd : decode M.2.2.1 pc = .ok (.lstore 7, 2)) (hq : pc + 2 = q) (hn : 7 + 1 < M.2.2.2.1) (hc : zx_n2 a6 = true) (k : zx_X E M Y q (a0 :: a1 :: a2 :: a3 :: a4 :: a5 :: a6 :: some (.long x) :: none :: rr) st h n cells slots) : zx_X E M Y pc (a0 :: a1 :: a2 :: a3 :: a4 :: a5 :: a6 :: y :: y' :: rr) (.long x :: st) h n cells slots :=
  zx_lstore' (i := 7) _ hd hq hn (zx_ok2_gen [a0, a1, a2, a3, a4, a5, a6] _ _ _ _ (zx_n2_last rfl hc)) k
theorem zx_iinc_7 {a0 a1 a2 a3 a4 a5 a6 : Option Value} {rr : List (Option Value)} {z : Int} {x : Int32} (d : Int32) (hd : decode M.2.2.1 pc = .ok (.iinc 7 z, 3)) (hq : pc + 3 = q) (hz : Int32.ofInt z = d) (hn : 7 < M.2.2.2.1) (hc : zx_n2 a6 = true) (k : zx_X E M Y q (a0 :: a1 :: a2 :: a3 :: a4 :: a5 :: a6 :: some (.int (x + d)) :: rr) st h n cells slots) : zx_X E M Y pc (a0 :: a1 :: a2 :: a3 :: a4 :: a5 :: a6 :: some (.int x) :: rr) st h n cells slots :=
  zx_iinc' d _ hd hq hz hn rfl (zx_ok1_gen [a0, a1, a2, a3, a4, a5, a6] _ _ _ (zx_n2_last rfl hc)) k
theorem zx_istore_8 {a0 a1 a2 a3 a4 a5 a6 a7 : Option Value} {y : Option Value} {rr : List (Option Value)} {x : Int32} (hd : decode M.2.2.1 pc = .ok (.istore 8, 2)) (hq : pc + 2 = q) (hn : 8 < M.2.2.2.1) (hc : zx_n2 a7 = true) (k : zx_X E M Y q (a0 :: a1 :: a2 :: a3 :: a4 :: a5 :: a6 :: a7 :: some (.int x) :: rr) st h n cells slots) : zx_X E M Y pc (a0 :: a1 :: a2 :: a3 :: a4 :: a5 :: a6 :: a7 :: y :: rr) (.int x :: st) h n cells slots :=
  zx_istore' (i := 8) _ hd hq hn (zx_ok1_gen [a0, a1, a2, a3, a4, a5, a6, a7] _ _ _ (zx_n2_last rfl hc)) k
theorem zx_astore_8 {a0 a1 a2 a3 a4 a5 a6 a7 : Option Value} {y : Option Value} {rr : List (Option Value)} {x : Nat} (hd : decode M.2.2.1 pc = .ok (.astore 8, 2)) (hq : pc + 2 = q) (hn : 8 < M.2.2.2.1) (hc : zx_n2 a7 = true) (k : zx_X E M Y q (a0 :: a1 :: a2 :: a3 :: a4 :: a5 :: a6 :: a7 :: some (.ref x) :: rr) st h n cells slots) : zx_X E M Y pc (a0 :: a1 :: a2 :: a3 :: a4 :: a5 :: a6 :: a7 :: y :: rr) (.ref x :: st) h n cells slots :=
  zx_astore' (i := 8) _ hd hq hn (zx_ok1_gen [a0, a1, a2, a3, a4, a5, a6, a7] _ _ _ (zx_n2_last rfl hc)) k
theorem zx_lstore_8 {a0 a1 a2 a3 a4 a5 a6 a7 : Option Value} {y y' : Option Value} {rr : List (Option Value)} {x : Int64} (hd : decode M.2.2.1 pc = .ok (.lstore 8, 2)) (hq : pc + 2 = q) (hn : 8 + 1 < M.2.2.2.1) (hc : zx_n2 a7 = true) (k : zx_X E M Y q (a0 :: a1 :: a2 :: a3 :: a4 :: a5 :: a6 :: a7 :: some (.long x) :: none :: rr) st h n cells slots) : zx_X E M Y pc (a0 :: a1 :: a2 :: a3 :: a4 :: a5 :: a6 :: a7 :: y :: y' :: rr) (.long x :: st) h n cells slots :=
  zx_lstore' (i := 8) _ hd hq hn (zx_ok2_gen [a0, a1, a2, a3, a4, a5, a6, a7] _ _ _ _ (zx_n2_last rfl hc)) k
theorem zx_iinc_8 {a0 a1 a2 a3 a4 a5 a6 a7 : Option Value} {rr : List (Option Value)} {z : Int} {x : Int32} (d : Int32) (hd : decode M.2.2.1 pc = .ok (.iinc 8 z, 3)) (hq : pc + 3 = q) (hz : Int32.ofInt z = d) (hn : 8 < M.2.2.2.1) (hc : zx_n2 a7 = true) (k : zx_X E M Y q (a0 :: a1 :: a2 :: a3 :: a4 :: a5 :: a6 :: a7 :: some (.int (x + d)) :: rr) st h n cells slots) : zx_X E M Y pc (a0 :: a1 :: a2 :: a3 :: a4 :: a5 :: a6 :: a7 :: some (.int x) :: rr) st h n cells slots :=
  zx_iinc' d _ hd hq hz hn rfl (zx_ok1_gen [a0, a1, a2, a3, a4, a5, a6, a7] _ _ _ (zx_n2_last rfl hc)) k
theorem zx_istore_9 {a0 a1 a2 a3 a4 a5 a6 a7 a8 : Option Value} {y : Option Value} {rr : List (Option Value)} {x : Int32} (hd : decode M.2.2.1 pc = .ok (.istore 9, 2)) (hq : pc + 2 = q) (hn : 9 < M.2.2.2.1) (hc : zx_n2 a8 = true) (k : zx_X E M Y q (a0 :: a1 :: a2 :: a3 :: a4 :: a5 :: a6 :: a7 :: a8 :: some (.int x) :: rr) st h n cells slots) : zx_X E M Y pc (a0 :: a1 :: a2 :: a3 :: a4 :: a5 :: a6 :: a7 :: a8 :: y :: rr) (.int x :: st) h n cells slots :=
  zx_istore' (i := 9) _ hd hq hn (zx_ok1_gen [a0, a1, a2, a3, a4, a5, a6, a7, a8] _ _ _ (zx_n2_last rfl hc)) k
theorem zx_astore_9 {a0 a1 a2 a3 a4 a5 a6 a7 a8 : Option Value} {y : Option Value} {rr : List (Option Value)} {x : Nat} (hd : decode M.2.2.1 pc = .ok (.astore 9, 2)) (hq : pc + 2 = q) (hn : 9 < M.2.2.2.1) (hc : zx_n2 a8 = true) (k : zx_X E M Y q (a0 :: a1 :: a2 :: a3 :: a4 :: a5 :: a6 :: a7 :: a8 :: some (.ref x) :: rr) st h n cells slots) : zx_X E M Y pc (a0 :: a1 :: a2 :: a3 :: a4 :: a5 :: a6 :: a7 :: a8 :: y :: rr) (.ref x :: st) h n cells slots :=
  zx_astore' (i := 9) _ hd hq hn (zx_ok1_gen [a0, a1, a2, a3, a4, a5, a6, a7, a8] _ _ _ (zx_n2_last rfl hc)) k
theorem zx_lstore_9 {a0 a1 a2 a3 a4 a5 a6 a7 a8 : Option Value} {y y' : Option Value} {rr : List (Option Value)} {x : Int64} (hd : decode M.2.2.1 pc = .ok (.lstore 9, 2)) (hq : pc + 2 = q) (hn : 9 + 1 < M.2.2.2.1) (hc : zx_n2 a8 = true) (k : zx_X E M Y q (a0 :: a1 :: a2 :: a3 :: a4 :: a5 :: a6 :: a7 :: a8 :: some (.long x) :: none :: rr) st h n cells slots) : zx_X E M Y pc (a0 :: a1 :: a2 :: a3 :: a4 :: a5 :: a6 :: a7 :: a8 :: y :: y' :: rr) (.long x :: st) h n cells slots :=
  zx_lstore' (i := 9) _ hd hq hn (zx_ok2_gen [a0, a1, a2, a3, a4, a5, a6, a7, a8] _ _ _ _ (zx_n2_last rfl hc)) k
theorem zx_iinc_9 {a0 a1 a2 a3 a4 a5 a6 a7 a8 : Option Value} {rr : List (Option Value)} {z : Int} {x : Int32} (d : Int32) (hd : decode M.2.2.1 pc = .ok (.iinc 9 z, 3)) (hq : pc + 3 = q) (hz : Int32.ofInt z = d) (hn : 9 < M.2.2.2.1) (hc : zx_n2 a8 = true) (k : zx_X E M Y q (a0 :: a1 :: a2 :: a3 :: a4 :: a5 :: a6 :: a7 :: a8 :: some (.int (x + d)) :: rr) st h n cells slots) : zx_X E M Y pc (a0 :: a1 :: a2 :: a3 :: a4 :: a5 :: a6 :: a7 :: a8 :: some (.int x) :: rr) st h n cells slots :=
  zx_iinc' d _ hd hq hz hn rfl (zx_ok1_gen [a0, a1, a2, a3, a4, a5, a6, a7, a8] _ _ _ (zx_n2_last rfl hc)) k
theorem zx_istore_10 {a0 a1 a2 a3 a4 a5 a6 a7 a8 a9 : Option Value} {y : Option Value} {rr : List (Option Value)} {x : Int32} (hd : decode M.2.2.1 pc = .ok (.istore 10, 2)) (hq : pc + 2 = q) (hn : 10 < M.2.2.2.1) (hc : zx_n2 a9 = true) (k : zx_X E M Y q (a0 :: a1 :: a2 :: a3 :: a4 :: a5 :: a6 :: a7 :: a8 :: a9 :: some (.int x) :: rr) st h n cells slots) : zx_X E M Y pc (a0 :: a1 :: a2 :: a3 :: a4 :: a5 :: a6 :: a7 :: a8 :: a9 :: y :: rr) (.int x :: st) h n cells slots :=
  zx_istore' (i := 10) _ hd hq hn (zx_ok1_gen [a0, a1, a2, a3, a4, a5, a6, a7, a8, a9] _ _ _ (zx_n2_last rfl hc)) k
theorem zx_astore_10 {a0 a1 a2 a3 a4 a5 a6 a7 a8 a9 : Option Value} {y : Option Value} {rr : List (Option Value)} {x : Nat} (hd : decode M.2.2.1 pc = .ok (.astore 10, 2)) (hq : pc + 2 = q) (hn : 10 < M.2.2.2.1) (hc : zx_n2 a9 = true) (k : zx_X E M Y q (a0 :: a1 :: a2 :: a3 :: a4 :: a5 :: a6 :: a7 :: a8 :: a9 :: some (.ref x) :: rr) st h n cells slots) : zx_X E M Y pc (a0 :: a1 :: a2 :: a3 :: a4 :: a5 :: a6 :: a7 :: a8 :: a9 :: y :: rr) (.ref x :: st) h n cells slots :=
  zx_astore' (i := 10) _ hd hq hn (zx_ok1_gen [a0, a1, a2, a3, a4, a5, a6, a7, a8, a9] _ _ _ (zx_n2_last rfl hc)) k
theorem zx_lstore_10 {a0 a1 a2 a3 a4 a5 a6 a7 a8 a9 : Option Value} {y y' : Option Value} {rr : List (Option Value)} {x : Int64} (hd : decode M.2.2.1 pc = .ok (.lstore 10, 2)) (hq : pc + 2 = q) (hn : 10 + 1 < M.2.2.2.1) (hc : zx_n2 a9 = true) (k : zx_X E M Y q (a0 :: a1 :: a2 :: a3 :: a4 :: a5 :: a6 :: a7 :: a8 :: a9 :: some (.long x) :: none :: rr) st h n cells slots) : zx_X E M Y pc (a0 :: a1 :: a2 :: a3 :: a4 :: a5 :: a6 :: a7 :: a8 :: a9 :: y :: y' :: rr) (.long x :: st) h n cells slots :=
  zx_lstore' (i := 10) _ hd hq hn (zx_ok2_gen [a0, a1, a2, a3, a4, a5, a6, a7, a8, a9] _ _ _ _ (zx_n2_last rfl hc)) k
theorem zx_iinc_10 {a0 a1 a2 a3 a4 a5 a6 a7 a8 a9 : Option Value} {rr : List (Option Value)} {z : Int} {x : Int32} (d : Int32) (hd : decode M.2.2.1 pc = .ok (.iinc 10 z, 3)) (hq : pc + 3 = q) (hz : Int32.ofInt z = d) (hn : 10 < M.2.2.2.1) (hc : zx_n2 a9 = true) (k : zx_X E M Y q (a0 :: a1 :: a2 :: a3 :: a4 :: a5 :: a6 :: a7 :: a8 :: a9 :: some (.int (x + d)) :: rr) st h n cells slots) : zx_X E M Y pc (a0 :: a1 :: a2 :: a3 :: a4 :: a5 :: a6 :: a7 :: a8 :: a9 :: some (.int x) :: rr) st h n cells slots :=
  zx_iinc' d _ hd hq hz hn rfl (zx_ok1_gen [a0, a1, a2, a3, a4, a5, a6, a7, a8, a9] _ _ _ (zx_n2_last rfl hc)) k
theorem zx_istore_11 {a0 a1 a2 a3 a4 a5 a6 a7 a8 a9 a10 : Option Value} {y : Option Value} {rr : List (Option Value)} {x : Int32} (hd : decode M.2.2.1 pc = .ok (.istore 11, 2)) (hq : pc + 2 = q) (hn : 11 < M.2.2.2.1) (hc : zx_n2 a10 = true) (k : zx_X E M Y q (a0 :: a1 :: a2 :: a3 :: a4 :: a5 :: a6 :: a7 :: a8 :: a9 :: a10 :: some (.int x) :: rr) st h n cells slots) : zx_X E M Y pc (a0 :: a1 :: a2 :: a3 :: a4 :: a5 :: a6 :: a7 :: a8 :: a9 :: a10 :: y :: rr) (.int x :: st) h n cells slots :=
  zx_istore' (i := 11) _ hd hq hn (zx_ok1_gen [a0, a1, a2, a3, a4, a5, a6, a7, a8, a9, a10] _ _ _ (zx_n2_last rfl hc)) k
theorem zx_astore_11 {a0 a1 a2 a3 a4 a5 a6 a7 a8 a9 a10 : Option Value} {y : Option Value} {rr : List (Option Value)} {x : Nat} (hd : decode M.2.2.1 pc = .ok (.astore 11, 2)) (hq : pc + 2 = q) (hn : 11 < M.2.2.2.1) (hc : zx_n2 a10 = true) (k : zx_X E M Y q (a0 :: a1 :: a2 :: a3 :: a4 :: a5 :: a6 :: a7 :: a8 :: a9 :: a10 :: some (.ref x) :: rr) st h n cells slots) : zx_X E M Y pc (a0 :: a1 :: a2 :: a3 :: a4 :: a5 :: a6 :: a7 :: a8 :: a9 :: a10 :: y :: rr) (.ref x :: st) h n cells slots :=
  zx_astore' (i := 11) _ hd hq hn (zx_ok1_gen [a0, a1, a2, a3, a4, a5, a6, a7, a8, a9, a10] _ _ _ (zx_n2_last rfl hc)) k
theorem zx_lstore_11 {a0 a1 a2 a3 a4 a5 a6 a7 a8 a9 a10 : Option Value} {y y' : Option Value} {rr : List (Option Value)} {x : Int64} (hd : decode M.2.2.1 pc = .ok (.lstore 11, 2)) (hq : pc + 2 = q) (hn : 11 + 1 < M.2.2.2.1) (hc : zx_n2 a10 = true) (k : zx_X E M Y q (a0 :: a1 :: a2 :: a3 :: a4 :: a5 :: a6 :: a7 :: a8 :: a9 :: a10 :: some (.long x) :: none :: rr) st h n cells slots) : zx_X E M Y pc (a0 :: a1 :: a2 :: a3 :: a4 :: a5 :: a6 :: a7 :: a8 :: a9 :: a10 :: y :: y' :: rr) (.long x :: st) h n cells slots :=
  zx_lstore' (i := 11) _ hd hq hn (zx_ok2_gen [a0, a1, a2, a3, a4, a5, a6, a7, a8, a9, a10] _ _ _ _ (zx_n2_last rfl hc)) k
theorem zx_iinc_11 {a0 a1 a2 a3 a4 a5 a6 a7 a8 a9 a10 : Option Value} {rr : List (Option Value)} {z : Int} {x : Int32} (d : Int32) (hd : decode M.2.2.1 pc = .ok (.iinc 11 z, 3)) (hq : pc + 3 = q) (hz : Int32.ofInt z = d) (hn : 11 < M.2.2.2.1) (hc : zx_n2 a10 = true) (k : zx_X E M Y q (a0 :: a1 :: a2 :: a3 :: a4 :: a5 :: a6 :: a7 :: a8 :: a9 :: a10 :: some (.int (x + d)) :: rr) st h n cells slots) : zx_X E M Y pc (a0 :: a1 :: a2 :: a3 :: a4 :: a5 :: a6 :: a7 :: a8 :: a9 :: a10 :: some (.int x) :: rr) st h n cells slots :=
  zx_iinc' d _ hd hq hz hn rfl (zx_ok1_gen [a0, a1, a2, a3, a4, a5, a6, a7, a8, a9, a10] _ _ _ (zx_n2_last rfl hc)) k
theorem zx_istore_12 {a0 a1 a2 a3 a4 a5 a6 a7 a8 a9 a10 a11 : Option Value} {y : Option Value} {rr : List (Option Value)} {x : Int32} (hd : decode M.2.2.1 pc = .ok (.istore 12, 2)) (hq : pc + 2 = q) (hn : 12 < M.2.2.2.1) (hc : zx_n2 a11 = true) (k : zx_X E M Y q (a0 :: a1 :: a2 :: a3 :: a4 :: a5 :: a6 :: a7 :: a8 :: a9 :: a10 :: a11 :: some (.int x) :: rr) st h n cells slots) : zx_X E M Y pc (a0 :: a1 :: a2 :: a3 :: a4 :: a5 :: a6 :: a7 :: a8 :: a9 :: a10 :: a11 :: y :: rr) (.int x :: st) h n cells slots :=
  zx_istore' (i := 12) _ hd hq hn (zx_ok1_gen [a0, a1, a2, a3, a4, a5, a6, a7, a8, a9, a10, a11] _ _ _ (zx_n2_last rfl hc)) k
theorem zx_astore_12 {a0 a1 a2 a3 a4 a5 a6 a7 a8 a9 a10 a11 : Option Value} {y : Option Value} {rr : List (Option Value)} {x : Nat} (hd : decode M.2.2.1 pc = .ok (.astore 12, 2)) (hq : pc + 2 = q) (hn : 12 < M.2.2.2.1) (hc : zx_n2 a11 = true) (k : zx_X E M Y q (a0 :: a1 :: a2 :: a3 :: a4 :: a5 :: a6 :: a7 :: a8 :: a9 :: a10 :: a11 :: some (.ref x) :: rr) st h n cells slots) : zx_X E M Y pc (a0 :: a1 :: a2 :: a3 :: a4 :: a5 :: a6 :: a7 :: a8 :: a9 :: a10 :: a11 :: y :: rr) (.ref x :: st) h n cells slots :=
  zx_astore' (i := 12) _ hd hq hn (zx_ok1_gen [a0, a1, a2, a3, a4, a5, a6, a7, a8, a9, a10, a11] _ _ _ (zx_n2_last rfl hc)) k
theorem zx_lstore_12 {a0 a1 a2 a3 a4 a5 a6 a7 a8 a9 a10 a11 : Option Value} {y y' : Option Value} {rr : List (Option Value)} {x : Int64} (hd : decode M.2.2.1 pc = .ok (.lstore 12, 2)) (hq : pc + 2 = q) (hn : 12 + 1 < M.2.2.2.1) (hc : zx_n2 a11 = true) (k : zx_X E M Y q (a0 :: a1 :: a2 :: a3 :: a4 :: a5 :: a6 :: a7 :: a8 :: a9 :: a10 :: a11 :: some (.long x) :: none :: rr) st h n cells slots) : zx_X E M Y pc (a0 :: a1 :: a2 :: a3 :: a4 :: a5 :: a6 :: a7 :: a8 :: a9 :: a10 :: a11 :: y :: y' :: rr) (.long x :: st) h n cells slots :=
  zx_lstore' (i := 12) _ hd hq hn (zx_ok2_gen [a0, a1, a2, a3, a4, a5, a6, a7, a8, a9, a10, a11] _ _ _ _ (zx_n2_last rfl hc)) k
theorem zx_iinc_12 {a0 a1 a2 a3 a4 a5 a6 a7 a8 a9 a10 a11 : Option Value} {rr : List (Option Value)} {z : Int} {x : Int32} (d : Int32) (hd : decode M.2.2.1 pc = .ok (.iinc 12 z, 3)) (hq : pc + 3 = q) (hz : Int32.ofInt z = d) (hn : 12 < M.2.2.2.1) (hc : zx_n2 a11 = true) (k : zx_X E M Y q (a0 :: a1 :: a2 :: a3 :: a4 :: a5 :: a6 :: a7 :: a8 :: a9 :: a10 :: a11 :: some (.int (x + d)) :: rr) st h n cells slots) : zx_X E M Y pc (a0 :: a1 :: a2 :: a3 :: a4 :: a5 :: a6 :: a7 :: a8 :: a9 :: a10 :: a11 :: some (.int x) :: rr) st h n cells slots :=
  zx_iinc' d _ hd hq hz hn rfl (zx_ok1_gen [a0, a1, a2, a3, a4, a5, a6, a7, a8, a9, a10, a11] _ _ _ (zx_n2_last rfl hc)) k
theorem zx_istore_13 {a0 a1 a2 a3 a4 a5 a6 a7 a8 a9 a10 a11 a12 : Option Value} {y : Option Value} {rr : List (Option Value)} {x : Int32} (hd : decode M.2.2.1 pc = .ok (.istore 13, 2)) (hq : pc + 2 = q) (hn : 13 < M.2.2.2.1) (hc : zx_n2 a12 = true) (k : zx_X E M Y q (a0 :: a1 :: a2 :: a3 :: a4 :: a5 :: a6 :: a7 :: a8 :: a9 :: a10 :: a11 :: a12 :: some (.int x) :: rr) st h n cells slots) : zx_X E M Y pc (a0 :: a1 :: a2 :: a3 :: a4 :: a5 :: a6 :: a7 :: a8 :: a9 :: a10 :: a11 :: a12 :: y :: rr) (.int x :: st) h n cells slots :=
  zx_istore' (i := 13) _ hd hq hn (zx_ok1_gen [a0, a1, a2, a3, a4, a5, a6, a7, a8, a9, a10, a11, a12] _ _ _ (zx_n2_last rfl hc)) k
theorem zx_astore_13 {a0 a1 a2 a3 a4 a5 a6 a7 a8 a9 a10 a11 a12 : Option Value} {y : Option Value} {rr : List (Option Value)} {x : Nat} (hd : decode M.2.2.1 pc = .ok (.astore 13, 2)) (hq : pc + 2 = q) (hn : 13 < M.2.2.2.1) (hc : zx_n2 a12 = true) (k : zx_X E M Y q (a0 :: a1 :: a2 :: a3 :: a4 :: a5 :: a6 :: a7 :: a8 :: a9 :: a10 :: a11 :: a12 :: some (.ref x) :: rr) st h n cells slots) : zx_X E M Y pc (a0 :: a1 :: a2 :: a3 :: a4 :: a5 :: a6 :: a7 :: a8 :: a9 :: a10 :: a11 :: a12 :: y :: rr) (.ref x :: st) h n cells slots :=
  zx_astore' (i := 13) _ hd hq hn (zx_ok1_gen [a0, a1, a2, a3, a4, a5, a6, a7, a8, a9, a10, a11, a12] _ _ _ (zx_n2_last rfl hc)) k
theorem zx_lstore_13 {a0 a1 a2 a3 a4 a5 a6 a7 a8 a9 a10 a11 a12 : Option Value} {y y' : Option Value} {rr : List (Option Value)} {x : Int64} (hd : decode M.2.2.1 pc = .ok (.lstore 13, 2)) (hq : pc + 2 = q) (hn : 13 + 1 < M.2.2.2.1) (hc : zx_n2 a12 = true) (k : zx_X E M Y q (a0 :: a1 :: a2 :: a3 :: a4 :: a5 :: a6 :: a7 :: a8 :: a9 :: a10 :: a11 :: a12 :: some (.long x) :: none :: rr) st h n cells slots) : zx_X E M Y pc (a0 :: a1 :: a2 :: a3 :: a4 :: a5 :: a6 :: a7 :: a8 :: a9 :: a10 :: a11 :: a12 :: y :: y' :: rr) (.long x :: st) h n cells slots :=
  zx_lstore' (i := 13) _ hd hq hn (zx_ok2_gen [a0, a1, a2, a3, a4, a5, a6, a7, a8, a9, a10, a11, a12] _ _ _ _ (zx_n2_last rfl hc)) k
theorem zx_iinc_13 {a0 a1 a2 a3 a4 a5 a6 a7 a8 a9 a10 a11 a12 : Option Value} {rr : List (Option Value)} {z : Int} {x : Int32} (d : Int32) (hd : decode M.2.2.1 pc = .ok (.iinc 13 z, 3)) (hq : pc + 3 = q) (hz : Int32.ofInt z = d) (hn : 13 < M.2.2.2.1) (hc : zx_n2 a12 = true) (k : zx_X E M Y q (a0 :: a1 :: a2 :: a3 :: a4 :: a5 :: a6 :: a7 :: a8 :: a9 :: a10 :: a11 :: a12 :: some (.int (x + d)) :: rr) st h n cells slots) : zx_X E M Y pc (a0 :: a1 :: a2 :: a3 :: a4 :: a5 :: a6 :: a7 :: a8 :: a9 :: a10 :: a11 :: a12 :: some (.int x) :: rr) st h n cells slots :=
  zx_iinc' d _ hd hq hz hn rfl (zx_ok1_gen [a0, a1, a2, a3, a4, a5, a6, a7, a8, a9, a10, a11, a12] _ _ _ (zx_n2_last rfl hc)) k
theorem zx_if_eq {x : Int32} {off : Int} (t : Nat) (hd : decode M.2.2.1 pc = .ok (.ifCond .eq off, 3)) (hq : pc + 3 = q) (ht : (pc : Int) + off = (t : Int)) (kt : x = 0 → zx_X E M Y t L st h n cells slots) (kf : ¬ x = 0 → zx_X E M Y q L st h n cells slots) : zx_X E M Y pc L (.int x :: st) h n cells slots := by
  subst hq
  exact fun p e s m args below meth c ls H locs C hl hR hS hb => lv_if_eq C.1 C.2.1 hd ht (fun z => kt z p e s m args below meth c ls H locs C hl hR hS hb) (fun z => kf z p e s m args below meth c ls H locs C hl hR hS hb)
theorem zx_icmp_eq {x y : Int32} {off : Int} (t : Nat) (hd : decode M.2.2.1 pc = .ok (.if_icmp .eq off, 3)) (hq : pc + 3 = q) (ht : (pc : Int) + off = (t : Int)) (kt : x = y → zx_X E M Y t L st h n cells slots) (kf : ¬ x = y → zx_X E M Y q L st h n cells slots) : zx_X E M Y pc L (.int y :: .int x :: st) h n cells slots := by
  subst hq
  exact fun p e s m args below meth c ls H locs C hl hR hS hb => lv_icmp_eq C.1 C.2.1 hd ht (fun z => kt z p e s m args below meth c ls H locs C hl hR hS hb) (fun z => kf z p e s m args below meth c ls H locs C hl hR hS hb)
theorem zx_if_ne {x : Int32} {off : Int} (t : Nat) (hd : decode M.2.2.1 pc = .ok (.ifCond .ne off, 3)) (hq : pc + 3 = q) (ht : (pc : Int) + off = (t : Int)) (kt : ¬ x = 0 → zx_X E M Y t L st h n cells slots) (kf : x = 0 → zx_X E M Y q L st h n cells slots) : zx_X E M Y pc L (.int x :: st) h n cells slots := by
  subst hq
  exact fun p e s m args below meth c ls H locs C hl hR hS hb => lv_if_ne C.1 C.2.1 hd ht (fun z => kt z p e s m args below meth c ls H locs C hl hR hS hb) (fun z => kf z p e s m args below meth c ls H locs C hl hR hS hb)
theorem zx_icmp_ne {x y : Int32} {off : Int} (t : Nat) (hd : decode M.2.2.1 pc = .ok (.if_icmp .ne off, 3)) (hq : pc + 3 = q) (ht : (pc : Int) + off = (t : Int)) (kt : ¬ x = y → zx_X E M Y t L st h n cells slots) (kf : x = y → zx_X E M Y q L st h n cells slots) : zx_X E M Y pc L (.int y :: .int x :: st) h n cells slots := by
  subst hq
  exact fun p e s m args below meth c ls H locs C hl hR hS hb => lv_icmp_ne C.1 C.2.1 hd ht (fun z => kt z p e s m args below meth c ls H locs C hl hR hS hb) (fun z => kf z p e s m args below meth c ls H locs C hl hR hS hb)
theorem zx_if_lt {x : Int32} {off : Int} (t : Nat) (hd : decode M.2.2.1 pc = .ok (.ifCond .lt off, 3)) (hq : pc + 3 = q) (ht : (pc : Int) + off = (t : Int)) (kt : x < 0 → zx_X E M Y t L st h n cells slots) (kf : ¬ x < 0 → zx_X E M Y q L st h n cells slots) : zx_X E M Y pc L (.int x :: st) h n cells slots := by
  subst hq
  exact fun p e s m args below meth c ls H locs C hl hR hS hb => lv_if_lt C.1 C.2.1 hd ht (fun z => kt z p e s m args below meth c ls H locs C hl hR hS hb) (fun z => kf z p e s m args below meth c ls H locs C hl hR hS hb)
theorem zx_icmp_lt {x y : Int32} {off : Int} (t : Nat) (hd : decode M.2.2.1 pc = .ok (.if_icmp .lt off, 3)) (hq : pc + 3 = q) (ht : (pc : Int) + off = (t : Int)) (kt : x < y → zx_X E M Y t L st h n cells slots) (kf : ¬ x < y → zx_X E M Y q L st h n cells slots) : zx_X E M Y pc L (.int y :: .int x :: st) h n cells slots := by
  subst hq
  exact fun p e s m args below meth c ls H locs C hl hR hS hb => lv_icmp_lt C.1 C.2.1 hd ht (fun z => kt z p e s m args below meth c ls H locs C hl hR hS hb) (fun z => kf z p e s m args below meth c ls H locs C hl hR hS hb)
theorem zx_if_ge {x : Int32} {off : Int} (t : Nat) (hd : decode M.2.2.1 pc = .ok (.ifCond .ge off, 3)) (hq : pc + 3 = q) (ht : (pc : Int) + off = (t : Int)) (kt : 0 ≤ x → zx_X E M Y t L st h n cells slots) (kf : ¬ 0 ≤ x → zx_X E M Y q L st h n cells slots) : zx_X E M Y pc L (.int x :: st) h n cells slots := by
  subst hq
  exact fun p e s m args below meth c ls H locs C hl hR hS hb => lv_if_ge C.1 C.2.1 hd ht (fun z => kt z p e s m args below meth c ls H locs C hl hR hS hb) (fun z => kf z p e s m args below meth c ls H locs C hl hR hS hb)
theorem zx_icmp_ge {x y : Int32} {off : Int} (t : Nat) (hd : decode M.2.2.1 pc = .ok (.if_icmp .ge off, 3)) (hq : pc + 3 = q) (ht : (pc : Int) + off = (t : Int)) (kt : y ≤ x → zx_X E M Y t L st h n cells slots) (kf : ¬ y ≤ x → zx_X E M Y q L st h n cells slots) : zx_X E M Y pc L (.int y :: .int x :: st) h n cells slots := by
  subst hq
  exact fun p e s m args below meth c ls H locs C hl hR hS hb => lv_icmp_ge C.1 C.2.1 hd ht (fun z => kt z p e s m args below meth c ls H locs C hl hR hS hb) (fun z => kf z p e s m args below meth c ls H locs C hl hR hS hb)
theorem zx_if_gt {x : Int32} {off : Int} (t : Nat) (hd : decode M.2.2.1 pc = .ok (.ifCond .gt off, 3)) (hq : pc + 3 = q) (ht : (pc : Int) + off = (t : Int)) (kt : 0 < x → zx_X E M Y t L st h n cells slots) (kf : ¬ 0 < x → zx_X E M Y q L st h n cells slots) : zx_X E M Y pc L (.int x :: st) h n cells slots := by
  subst hq
  exact fun p e s m args below meth c ls H locs C hl hR hS hb => lv_if_gt C.1 C.2.1 hd ht (fun z => kt z p e s m args below meth c ls H locs C hl hR hS hb) (fun z => kf z p e s m args below meth c ls H locs C hl hR hS hb)
theorem zx_icmp_gt {x y : Int32} {off : Int} (t : Nat) (hd : decode M.2.2.1 pc = .ok (.if_icmp .gt off, 3)) (hq : pc + 3 = q) (ht : (pc : Int) + off = (t : Int)) (kt : y < x → zx_X E M Y t L st h n cells slots) (kf : ¬ y < x → zx_X E M Y q L st h n cells slots) : zx_X E M Y pc L (.int y :: .int x :: st) h n cells slots := by
  subst hq
  exact fun p e s m args below meth c ls H locs C hl hR hS hb => lv_icmp_gt C.1 C.2.1 hd ht (fun z => kt z p e s m args below meth c ls H locs C hl hR hS hb) (fun z => kf z p e s m args below meth c ls H locs C hl hR hS hb)
theorem zx_if_le {x : Int32} {off : Int} (t : Nat) (hd : decode M.2.2.1 pc = .ok (.ifCond .le off, 3)) (hq : pc + 3 = q) (ht : (pc : Int) + off = (t : Int)) (kt : x ≤ 0 → zx_X E M Y t L st h n cells slots) (kf : ¬ x ≤ 0 → zx_X E M Y q L st h n cells slots) : zx_X E M Y pc L (.int x :: st) h n cells slots := by
  subst hq
  exact fun p e s m args below meth c ls H locs C hl hR hS hb => lv_if_le C.1 C.2.1 hd ht (fun z => kt z p e s m args below meth c ls H locs C hl hR hS hb) (fun z => kf z p e s m args below meth c ls H locs C hl hR hS hb)
theorem zx_icmp_le {x y : Int32} {off : Int} (t : Nat) (hd : decode M.2.2.1 pc = .ok (.if_icmp .le off, 3)) (hq : pc + 3 = q) (ht : (pc : Int) + off = (t : Int)) (kt : x ≤ y → zx_X E M Y t L st h n cells slots) (kf : ¬ x ≤ y → zx_X E M Y q L st h n cells slots) : zx_X E M Y pc L (.int y :: .int x :: st) h n cells slots := by
  subst hq
  exact fun p e s m args below meth c ls H locs C hl hR hS hb => lv_icmp_le C.1 C.2.1 hd ht (fun z => kt z p e s m args below meth c ls H locs C hl hR hS hb) (fun z => kf z p e s m args below meth c ls H locs C hl hR hS hb)
theorem zx_goto {off : Int} (t : Nat) (hd : decode M.2.2.1 pc = .ok (.goto off, 3)) (ht : (pc : Int) + off = (t : Int)) (k : zx_X E M Y t L st h n cells slots) : zx_X E M Y pc L st h n cells slots :=
  fun p e s m args below meth c ls H locs C hl hR hS hb => lv_goto C.1 C.2.1 hd ht (k p e s m args below meth c ls H locs C hl hR hS hb)
theorem zx_topi {x x' : Int32} (e : x = x') (k : zx_X E M Y pc L (.int x' :: st) h n cells slots) : zx_X E M Y pc L (.int x :: st) h n cells slots := by rw [e]; exact k
theorem zx_topl {x x' : Int64} (e : x = x') (k : zx_X E M Y pc L (.long x' :: st) h n cells slots) : zx_X E M Y pc L (.long x :: st) h n cells slots := by rw [e]; exact k
theorem zx_heap {h' : zxH} (e : h = h') (k : zx_X E M Y pc L st h' n cells slots) : zx_X E M Y pc L st h n cells slots := by rw [e]; exact k
theorem zx_iret {v : Int32} (hd : decode M.2.2.1 pc = .ok (.ireturn, 1)) (hr : M.2.2.2.2.1 = some .int) (k : Q (some (.int v)) h n) : zx_X E M (zx_Y E M Q) pc L [.int v] h n M.2.2.2.2.2.2.1 M.2.2.2.2.2.2.2 :=
  fun p e s m args below meth c ls H locs C hl hR hS hb => W.iret C.1 C.2.1 (C.2.2.2.2.2.1.trans hr) (fun t ht hW => ⟨⟨_, h, n, rfl, k, by rw [ht]; exact hR⟩, hS.F ht⟩) hS.2.2 hd C.2.2.2.2.2.2.1
theorem zx_zret {v : Int32} (hd : decode M.2.2.1 pc = .ok (.ireturn, 1)) (hr : M.2.2.2.2.1 = some .boolean) (hv : narrow .boolean (.int v) = .int v) (k : Q (some (.int v)) h n) : zx_X E M (zx_Y E M Q) pc L [.int v] h n M.2.2.2.2.2.2.1 M.2.2.2.2.2.2.2 :=
  fun p e s m args below meth c ls H locs C hl hR hS hb => W.zret C.1 C.2.1 (C.2.2.2.2.2.1.trans hr) hv (fun t ht hW => ⟨⟨_, h, n, rfl, k, by rw [ht]; exact hR⟩, hS.F ht⟩) hS.2.2 hd C.2.2.2.2.2.2.1
theorem zx_lret {v : Int64} (hd : decode M.2.2.1 pc = .ok (.lreturn, 1)) (hr : M.2.2.2.2.1 = some .long) (k : Q (some (.long v)) h n) : zx_X E M (zx_Y E M Q) pc L [.long v] h n M.2.2.2.2.2.2.1 M.2.2.2.2.2.2.2 :=
  fun p e s m args below meth c ls H locs C hl hR hS hb => W.lret C.1 C.2.1 (C.2.2.2.2.2.1.trans hr) (fun t ht hW => ⟨⟨_, h, n, rfl, k, by rw [ht]; exact hR⟩, hS.F ht⟩) hS.2.2 hd C.2.2.2.2.2.2.1
theorem zx_aret {v : Nat} {cn : String} (hd : decode M.2.2.1 pc = .ok (.areturn, 1)) (hr : M.2.2.2.2.1 = some (.object cn)) (k : Q (some (.ref v)) h n) : zx_X E M (zx_Y E M Q) pc L [.ref v] h n M.2.2.2.2.2.2.1 M.2.2.2.2.2.2.2 :=
  fun p e s m args below meth c ls H locs C hl hR hS hb => W.aret C.1 C.2.1 (C.2.2.2.2.2.1.trans hr) (Or.inl ⟨_, rfl⟩) (Or.inr ⟨_, rfl⟩) (fun t ht hW => ⟨⟨_, h, n, rfl, k, by rw [ht]; exact hR⟩, hS.F ht⟩) hS.2.2 hd C.2.2.2.2.2.2.1
theorem zx_vret (hd : decode M.2.2.1 pc = .ok (.return_, 1)) (hr : M.2.2.2.2.1 = none) (k : Q none h n) : zx_X E M (zx_Y E M Q) pc L [] h n M.2.2.2.2.2.2.1 M.2.2.2.2.2.2.2 :=
  fun p e s m args below meth c ls H locs C hl hR hS hb => W.vret C.1 C.2.1 (C.2.2.2.2.2.1.trans hr) (fun t ht hW => ⟨⟨_, h, n, rfl, k, by rw [ht]; exact hR⟩, hS.F ht⟩) hS.2.2 hd C.2.2.2.2.2.2.1
theorem zx_widen {c1 s1 : Nat} (h1 : cells ≤ c1) (h2 : slots ≤ s1) (k : zx_X E M Y pc L st h n c1 s1) : zx_X E M Y pc L st h n cells slots := fun p e s m args below meth c ls H locs C hl hR hS hb => W.widen h1 h2 (k p e s m args below meth c ls H locs C hl hR hS hb)
theorem zx_get {idx ci k a : Nat} {fs : List Value} {v : Value} {t : FieldType} {fin : Bool} (hd : decode M.2.2.1 pc = .ok (.getfield idx, 3)) (hq : pc + 3 = q) (hf : zx_Fl M.1 idx ci k t fin) (hc : h a = some (.inr (ci, fs))) (hv : fs[k]? = some v) (kk : zx_X E M Y q L (v :: st) h n cells slots) : zx_X E M Y pc L (.ref a :: st) h n cells slots := by
  subst hq
  obtain ⟨C0, T, N, ty, ⟨h1, h2, h3, h4⟩, hk, hl', -, -, -⟩ := hf
  exact fun p e s m args below meth c ls H locs C hl hR hS hb => va_get C.1 C.2.1 C.2.2.2.2.1 h2 C.2.2.2.1 C.2.2.2.2.2.2.2.2.1.1 (hR.one hc) 0 rfl h1 k hk (C.2.2.2.2.1 _ hl') (fun _ z => z) hv hd (kk p e s m args below meth c ls H locs C hl hR hS hb)
theorem zx_put {idx ci k a : Nat} {fs : List Value} {v : Value} {t : FieldType} {h' : zxH} (hd : decode M.2.2.1 pc = .ok (.putfield idx, 3)) (hq : pc + 3 = q) (hf : zx_Fl M.1 idx ci k t false) (hc : h a = some (.inr (ci, fs))) (hn : narrow t v = v) (hfit : fits t v = true) (hlen : k < fs.length) (he : zx_up h a (.inr (ci, fs.set k v)) = h') (kk : zx_X E M Y q L st h' n cells slots) : zx_X E M Y pc L (v :: .ref a :: st) h n cells slots := by
  subst hq
  subst he
  obtain ⟨C0, T, N, ty, ⟨h1, h2, h3, h4⟩, hk, hl', hty, hfin, -⟩ := hf
  intro p e s m args below meth c ls H locs C hl hR hS hb
  have hK : va_K E.2.2.1 vwCl (zx_tys E.2.2.2) s := C.2.2.2.2.2.2.2.2.1.1
  have hts := C.2.2.2.2.1
  have hap := va_apart (own := M.1) hts h2 ty h3 h4 hK h1
  obtain ⟨r, g1, cell, q1, q2, q3, q4⟩ := (hR.2.2 _ _ hc).2
  have hr : r = (C0, T, N) := Option.some.inj (g1.symm.trans h1)
  subst hr
  obtain ⟨hS', hfc, kC, hkC, hkind⟩ := hK.1 ci _ h1
  obtain ⟨cf, kf, fi, f, hi, hsl⟩ := hS' k hk
  have hlay := hts _ (h2 _ (u_in_lay hk))
  unfold u_lay at hlay
  rw [if_neg (by rw [hfin]; decide)] at hlay
  have hst := (u_facts hfc hkC (u_lays hts h2 hk) hi).1
  have h6 := u_store hfc hkC hkind hlay hi (h3 k hk) (hty ▸ hn) (hty ▸ hfit)
  refine W.putK C.1 C.2.1 (f := f) ⟨C.2.2.2.1, hts _ hl', ⟨_, _, _, hi⟩, hst⟩ (by rw [q2]; exact h6) q1 q3 (by rw [hsl]; exact k2_hasslot (q4 k hk)) rfl rfl hd fun H' e1 e2 e3 => ?_
  rw [hsl] at e1 ⊢
  exact kk p e s m args below meth c ls H' _ C hl (hR.set hc ⟨_, h1, t_OB.to (V := updV (vp_V fs) k v) ⟨_, e1, q2, q3, t_set q4 hap hk v⟩ (fun j _ => vp_updV_set hlen v j)⟩ e2 e3) (hS.put e2 e3 (hR.2.2 _ _ hc).1) hb
theorem zx_putF {idx ci k a : Nat} {fs : List Value} {v : Value} {t : FieldType} {h' : zxH} (hd : decode M.2.2.1 pc = .ok (.putfield idx, 3)) (hq : pc + 3 = q) (hf : zx_Fl M.1 idx ci k t true) (hin : M.2.1 = "<init>") (hci : ∃ r, vwCl[ci]? = some r ∧ r.1 = M.1) (hc : h a = some (.inr (ci, fs))) (hn : narrow t v = v) (hfit : fits t v = true) (hlen : k < fs.length) (he : zx_up h a (.inr (ci, fs.set k v)) = h') (kk : zx_X E M Y q L st h' n cells slots) : zx_X E M Y pc L (v :: .ref a :: st) h n cells slots := by
  subst hq
  subst he
  obtain ⟨C0, T, N, ty, ⟨h1, h2, h3, h4⟩, hk, hl', hty, hfin, hdecl⟩ := hf
  obtain ⟨r0, hr0, hr1⟩ := hci
  have hr2 : r0 = (C0, T, N) := Option.some.inj (hr0.symm.trans h1)
  subst hr2
  have hr1 : C0 = M.1 := hr1
  intro p e s m args below meth c ls H locs C hl hR hS hb
  have hK : va_K E.2.2.1 vwCl (zx_tys E.2.2.2) s := C.2.2.2.2.2.2.2.2.1.1
  have hts := C.2.2.2.2.1
  have hap := va_apart (own := M.1) hts h2 ty h3 h4 hK h1
  obtain ⟨r, g1, cell, q1, q2, q3, q4⟩ := (hR.2.2 _ _ hc).2
  have hr : r = (C0, T, N) := Option.some.inj (g1.symm.trans h1)
  subst hr
  obtain ⟨hS', hfc, kC, hkC, hkind⟩ := hK.1 ci _ h1
  obtain ⟨cf, kf, fi, f, hi, hsl⟩ := hS' k hk
  have hlay := hts _ (h2 _ (u_in_lay hk))
  unfold u_lay at hlay
  rw [if_pos hfin] at hlay
  have hst := (u_facts hfc hkC (u_lays hts h2 hk) hi).1
  have hcf : m.cls = cf := by
    obtain ⟨_, _, c', _, _, _, -, -, hf', -, -, -, hown2, -⟩ := Cond.laysFinal_spec hlay
    have e1 : c' = cf := by have := hi.symm.trans hf'; simp at this; exact this.1.symm
    rw [hdecl, hr1] at hown2
    rw [← e1]; exact Option.some.inj (C.2.2.2.1.symm.trans hown2)
  have h6 := u_fits hfc hkC hkind (Or.inr hlay) hi (h3 k hk) (hty ▸ hn) (hty ▸ hfit)
  refine W.putFinK C.1 C.2.1 C.2.2.2.1 (hts _ hl') hi hst hcf (C.2.2.2.2.2.2.2.1.trans hin) (by rw [q2]; exact h6) q1 q3 (by rw [hsl]; exact k2_hasslot (q4 k hk)) rfl rfl hd fun H' e1 e2 e3 => ?_
  rw [hsl] at e1 ⊢
  exact kk p e s m args below meth c ls H' _ C hl (hR.set hc ⟨_, h1, t_OB.to (V := updV (vp_V fs) k v) ⟨_, e1, q2, q3, t_set q4 hap hk v⟩ (fun j _ => vp_updV_set hlen v j)⟩ e2 e3) (hS.put e2 e3 (hR.2.2 _ _ hc).1) hb
theorem zx_iald {a len j : Nat} {f : Nat → Int32} {i : Int32} (hd : decode M.2.2.1 pc = .ok (.iaload, 1)) (hq : pc + 1 = q) (hc : h a = some (.inl (0, len, .inl f))) (hi : i = nI j) (hj : j < len) (hlen : len < 2 ^ 31) (kk : zx_X E M Y q L (.int (f j) :: st) h n cells slots) : zx_X E M Y pc L (.int i :: .ref a :: st) h n cells slots := by
  subst hq
  subst hi
  have ej : (nI j).toNatClampNeg = j := nI_clamp (by omega)
  intro p e s m args below meth c ls H locs C hl hR hS hb
  have hK : va_K E.2.2.1 vwCl (zx_tys E.2.2.2) s := C.2.2.2.2.2.2.2.2.1.1
  exact va_iald C.1 C.2.1 hK (hR.one hc) 0 0 rfl rfl (vp_in_nI hj hlen) hd (by rw [ej]; exact kk p e s m args below meth c ls H locs C hl hR hS hb)
theorem zx_zald {a len j : Nat} {f : Nat → Int32} {i : Int32} (hd : decode M.2.2.1 pc = .ok (.baload, 1)) (hq : pc + 1 = q) (hc : h a = some (.inl (2, len, .inl f))) (hi : i = nI j) (hj : j < len) (hlen : len < 2 ^ 31) (kk : zx_X E M Y q L (.int (f j) :: st) h n cells slots) : zx_X E M Y pc L (.int i :: .ref a :: st) h n cells slots := by
  subst hq
  subst hi
  have ej : (nI j).toNatClampNeg = j := nI_clamp (by omega)
  intro p e s m args below meth c ls H locs C hl hR hS hb
  have hK : va_K E.2.2.1 vwCl (zx_tys E.2.2.2) s := C.2.2.2.2.2.2.2.2.1.1
  exact va_zald C.1 C.2.1 hK (hR.one hc) 0 2 rfl rfl (vp_in_nI hj hlen) hd (by rw [ej]; exact kk p e s m args below meth c ls H locs C hl hR hS hb)
theorem zx_lald {a len j : Nat} {f : Nat → Int64} {i : Int32} (hd : decode M.2.2.1 pc = .ok (.laload, 1)) (hq : pc + 1 = q) (hc : h a = some (.inl (1, len, .inr (.inl f)))) (hi : i = nI j) (hj : j < len) (hlen : len < 2 ^ 31) (kk : zx_X E M Y q L (.long (f j) :: st) h n cells slots) : zx_X E M Y pc L (.int i :: .ref a :: st) h n cells slots := by
  subst hq
  subst hi
  have ej : (nI j).toNatClampNeg = j := nI_clamp (by omega)
  intro p e s m args below meth c ls H locs C hl hR hS hb
  have hK : va_K E.2.2.1 vwCl (zx_tys E.2.2.2) s := C.2.2.2.2.2.2.2.2.1.1
  exact va_lald C.1 C.2.1 hK (hR.one hc) 0 1 rfl rfl (vp_in_nI hj hlen) hd (by rw [ej]; exact kk p e s m args below meth c ls H locs C hl hR hS hb)
theorem zx_aald {a len j x kd : Nat} {cn : String} {f : Nat → Option Nat} {i : Int32} (hd : decode M.2.2.1 pc = .ok (.aaload, 1)) (hq : pc + 1 = q) (hkd : ∀ dA : Nat → ClassId, (zx_tys dA)[kd]? = some (dA kd, .object cn)) (hc : h a = some (.inl (kd, len, .inr (.inr (.inr (.inr f)))))) (hi : i = nI j) (hj : j < len) (hlen : len < 2 ^ 31) (hv : f j = some x) (kk : zx_X E M Y q L (.ref x :: st) h n cells slots) : zx_X E M Y pc L (.int i :: .ref a :: st) h n cells slots := by
  subst hq
  subst hi
  have ej : (nI j).toNatClampNeg = j := nI_clamp (by omega)
  intro p e s m args below meth c ls H locs C hl hR hS hb
  have hK : va_K E.2.2.1 vwCl (zx_tys E.2.2.2) s := C.2.2.2.2.2.2.2.2.1.1
  exact va_aldq C.1 C.2.1 hK (hR.one hc) 0 kd rfl (hkd _) (vp_in_nI hj hlen) hd (by rw [ej, hv]; exact kk p e s m args below meth c ls H locs C hl hR hS hb)
theorem zx_iast {a len j : Nat} {f : Nat → Int32} {i x : Int32} {h' : zxH} (hd : decode M.2.2.1 pc = .ok (.iastore, 1)) (hq : pc + 1 = q) (hc : h a = some (.inl (0, len, .inl f))) (hi : i = nI j) (hj : j < len) (hlen : len < 2 ^ 31) (he : zx_up h a (.inl (0, len, .inl (upd f j x))) = h') (kk : zx_X E M Y q L st h' n cells slots) : zx_X E M Y pc L (.int x :: .int i :: .ref a :: st) h n cells slots := by
  subst hq
  subst hi
  subst he
  have ej : (nI j).toNatClampNeg = j := nI_clamp (by omega)
  intro p e s m args below meth c ls H locs C hl hR hS hb
  have hK : va_K E.2.2.1 vwCl (zx_tys E.2.2.2) s := C.2.2.2.2.2.2.2.2.1.1
  have hA := hR.2.2 _ _ hc
  refine W.iast C.1 C.2.1 (show H[a]? = some (vp_cell (E.2.2.2 0) (len, .inl f)) from hA.2) ((hK.2 0 _ rfl).1 len (fun j => .int (f j))) (fun q => by cases q) (by show ¬ (nI j < 0 ∨ (arrV _ _ _).slots.size ≤ _); rw [arrV_size]; exact vp_in_nI hj hlen) rfl rfl hd fun H1 e1 z oq => ?_
  refine kk p e s m args below meth c ls H1 _ C hl (hR.set hc ?_ z oq) (hS.put z oq hA.1) hb
  show H1[a]? = some (vp_cell _ _)
  rw [e1, vp_cell_i, vp_cell_i, arrV_store, ej]
  congr 2
  funext q
  by_cases hq : q = j
  · subst hq
    simp [updV, upd]
  · simp [updV, upd, hq]
theorem zx_zast {a len j : Nat} {f : Nat → Int32} {i x : Int32} {h' : zxH} (hd : decode M.2.2.1 pc = .ok (.bastore, 1)) (hq : pc + 1 = q) (hc : h a = some (.inl (2, len, .inl f))) (hi : i = nI j) (hj : j < len) (hlen : len < 2 ^ 31) (he : zx_up h a (.inl (2, len, .inl (upd f j (vp_nar .boolean x)))) = h') (kk : zx_X E M Y q L st h' n cells slots) : zx_X E M Y pc L (.int x :: .int i :: .ref a :: st) h n cells slots := by
  subst hq
  subst hi
  subst he
  have ej : (nI j).toNatClampNeg = j := nI_clamp (by omega)
  intro p e s m args below meth c ls H locs C hl hR hS hb
  have hK : va_K E.2.2.1 vwCl (zx_tys E.2.2.2) s := C.2.2.2.2.2.2.2.2.1.1
  have hA := hR.2.2 _ _ hc
  refine W.zast C.1 C.2.1 (show H[a]? = some (vp_cell (E.2.2.2 2) (len, .inl f)) from hA.2) ((hK.2 2 _ rfl).1 len (fun j => .int (f j))) (fun q => by cases q) (by show ¬ (nI j < 0 ∨ (arrV _ _ _).slots.size ≤ _); rw [arrV_size]; exact vp_in_nI hj hlen) rfl rfl hd fun H1 e1 z oq => ?_
  refine kk p e s m args below meth c ls H1 _ C hl (hR.set hc ?_ z oq) (hS.put z oq hA.1) hb
  show H1[a]? = some (vp_cell _ _)
  rw [e1, vp_cell_i, vp_cell_i, arrV_store, ej]
  congr 2
  funext q
  by_cases hq : q = j
  · subst hq
    simp [updV, upd, vp_nar]
    try rfl
  · simp [updV, upd, hq]
theorem zx_last {a len j : Nat} {f : Nat → Int64} {i : Int32} {x : Int64} {h' : zxH} (hd : decode M.2.2.1 pc = .ok (.lastore, 1)) (hq : pc + 1 = q) (hc : h a = some (.inl (1, len, .inr (.inl f)))) (hi : i = nI j) (hj : j < len) (hlen : len < 2 ^ 31) (he : zx_up h a (.inl (1, len, .inr (.inl (vp_updL f j x)))) = h') (kk : zx_X E M Y q L st h' n cells slots) : zx_X E M Y pc L (.long x :: .int i :: .ref a :: st) h n cells slots := by
  subst hq
  subst hi
  subst he
  have ej : (nI j).toNatClampNeg = j := nI_clamp (by omega)
  intro p e s m args below meth c ls H locs C hl hR hS hb
  have hK : va_K E.2.2.1 vwCl (zx_tys E.2.2.2) s := C.2.2.2.2.2.2.2.2.1.1
  have hA := hR.2.2 _ _ hc
  refine W.last C.1 C.2.1 (show H[a]? = some (vp_cell (E.2.2.2 1) (len, .inr (.inl f))) from hA.2) ((hK.2 1 _ rfl).1 len (fun j => .long (f j))) (fun q => by cases q) (by show ¬ (nI j < 0 ∨ (arrV _ _ _).slots.size ≤ _); rw [arrV_size]; exact vp_in_nI hj hlen) rfl rfl hd fun H1 e1 z oq => ?_
  refine kk p e s m args below meth c ls H1 _ C hl (hR.set hc ?_ z oq) (hS.put z oq hA.1) hb
  show H1[a]? = some (vp_cell _ _)
  rw [e1, vp_cell_l, vp_cell_l, arrV_store, ej]
  congr 2
  funext q
  by_cases hq : q = j
  · subst hq
    simp [updV, vp_updL]
  · simp [updV, vp_updL, hq]
theorem zx_aast {a v len j kd ci : Nat} {cn : String} {r : vw_C} {vs : List Value} {f : Nat → Option Nat} {i : Int32} {h' : zxH} (hd : decode M.2.2.1 pc = .ok (.aastore, 1)) (hq : pc + 1 = q) (hkd : ∀ dA : Nat → ClassId, (zx_tys dA)[kd]? = some (dA kd, .object cn)) (hc : h a = some (.inl (kd, len, .inr (.inr (.inr (.inr f)))))) (hv : h v = some (.inr (ci, vs))) (hci : vwCl[ci]? = some r) (hcn : r.1 = cn) (hi : i = nI j) (hj : j < len) (hlen : len < 2 ^ 31) (he : zx_up h a (.inl (kd, len, .inr (.inr (.inr (.inr (va_up f j (some v))))))) = h') (kk : zx_X E M Y q L st h' n cells slots) : zx_X E M Y pc L (.ref v :: .int i :: .ref a :: st) h n cells slots := by
  subst hq
  subst hi
  subst he
  subst hcn
  have ej : (nI j).toNatClampNeg = j := nI_clamp (by omega)
  intro p e s m args below meth c ls H locs C hl hR hS hb
  have hK : va_K E.2.2.1 vwCl (zx_tys E.2.2.2) s := C.2.2.2.2.2.2.2.2.1.1
  have hA := hR.2.2 _ _ hc
  have hin := vp_in_nI hj hlen
  have hlt : (nI j).toNatClampNeg < len := Nat.not_le.mp fun q => hin (Or.inr q)
  have h0 : ¬ nI j < 0 := fun q => hin (Or.inl q)
  obtain ⟨r', hr', cellV, g1, g2, g3, -⟩ := (hR.2.2 _ _ hv).2
  have hcls := (hK.1 ci r hci).2
  obtain ⟨kA, comp, k1, k2, k3, -⟩ := (hK.2 kd _ (hkd _)).2
  have hcomp : comp = E.2.2.1.1 ci := Option.some.inj (k3.symm.trans hcls.1)
  subst hcomp
  obtain ⟨kC, hkC, -⟩ := hcls.2
  refine W.aast C.1 C.2.1 (show H[a]? = some (vp_cell (E.2.2.2 kd) (len, .inr (.inr (.inr (.inr f))))) from hA.2) (fun q h => by cases h) (fun h => by cases h) k1 k2 rfl hkC ⟨h0, by show _ < (arrV _ _ _).slots.size; rw [arrV_size]; exact hlt⟩ g1 (fun q h => by rw [g3] at h; cases h) (by rw [g2]; exact hkC) (by rw [g2]; exact va_assign hcls) rfl rfl hd fun H1 e1 z oq => ?_
  refine kk p e s m args below meth c ls H1 _ C hl (hR.set hc ?_ z oq) (hS.put z oq hA.1) hb
  show H1[a]? = some (vp_cell _ _)
  rw [e1, vp_cell_q, vp_cell_q, arrV_store, ej]
  congr 2
  funext q
  by_cases hq : q = j
  · subst hq
    simp [updV, va_up, va_rf]
  · simp [updV, va_up, hq]
theorem zx_new {idx ci N : Nat} {C0 : String} {T : u_T} {ty : Nat → FieldType} {fs : List Value} (hd : decode M.2.2.1 pc = .ok (.new idx, 3)) (hq : pc + 3 = q) (hcl : zx_Cl ci C0 T N ty) (hw : Cond.classLink M.1 idx C0 ∈ zx_T ∧ Cond.instantiable C0 N ∈ zx_T ∧ Cond.initialized C0 ∈ zx_T) (hfs : ∀ j, j < N → defaultValue (ty j) = vp_V fs j) (hcells : cells + 1 ≤ M.2.2.2.2.2.1.cells) (hslots : slots + N ≤ M.2.2.2.2.2.1.slots) (kk : zx_X E M Y q L (.ref n :: st) (zx_up h n (.inr (ci, fs))) (n + 1) (cells + 1) (slots + N)) : zx_X E M Y pc L st h n cells slots := by
  subst hq
  obtain ⟨h1, h2, h3, h4⟩ := hcl
  intro p e s m args below meth c ls H locs C hl hR hS hb
  have hK : va_K E.2.2.1 vwCl (zx_tys E.2.2.2) s := C.2.2.2.2.2.2.2.2.1.1
  have hts := C.2.2.2.2.1
  have hKn := hK.1 ci _ h1
  refine W.newcK C.1 C.2.1 C.2.2.2.1 (hts _ hw.1) (hts _ hw.2.1) (hts _ hw.2.2) rfl hd hcells hslots hKn.2.1 hR.1 fun H1 kC hkC e1 z1 o1 => ?_
  exact kk p e s m args below meth c ls H1 locs C hl (hR.new ⟨_, h1, (u_born ty hts h2 hKn hkC e1 h3).to hfs⟩ z1 (fun q hq => o1 q hq)) ⟨Nat.le_trans hS.1 (by rw [z1, hR.1]; exact Nat.le_succ _), fun x g1 g2 => (o1 x (by rw [← hR.1]; exact Nat.lt_of_lt_of_le g1 hS.1)).trans (hS.2.1 x g1 g2), hS.2.2⟩ hb
theorem zx_newI {i : Int32} {N : Nat} (hd : decode M.2.2.1 pc = .ok (.newarray .int, 2)) (hq : pc + 2 = q) (hw : Cond.arrayClass .int ∈ zx_T) (hi : i = nI N) (hN : N < 1000000) (hcells : cells + 1 ≤ M.2.2.2.2.2.1.cells) (hslots : slots + N ≤ M.2.2.2.2.2.1.slots) (kk : zx_X E M Y q L (.ref n :: st) (zx_up h n (.inl (0, N, .inl (fun _ => 0)))) (n + 1) (cells + 1) (slots + N)) : zx_X E M Y pc L (.int i :: st) h n cells slots := by
  subst hq
  subst hi
  intro p e s m args below meth c ls H locs C hl hR hS hb
  have hK : va_K E.2.2.1 vwCl (zx_tys E.2.2.2) s := C.2.2.2.2.2.2.2.2.1.1
  have hts := C.2.2.2.2.1
  refine va_newaK C.1 C.2.1 (atype := .int) (hts _ hw) rfl hd rfl (nI_pos (by omega)) (nI_clamp (by omega)) (by show N * 4 ≤ _; omega) hcells hslots hR.1 fun H1 cA e1 z1 o1 hAr hNm => ?_
  have hcA : E.2.2.2 0 = cA := Option.some.inj ((show s.vm.findClass _ = some (E.2.2.2 0) from (hK.2 0 _ rfl).2).symm.trans hNm)
  refine kk p e s m args below meth c ls H1 locs C hl (hR.new ?_ z1 (fun q hq => o1 q hq)) ⟨Nat.le_trans hS.1 (by rw [z1, hR.1]; exact Nat.le_succ _), fun x g1 g2 => (o1 x (by rw [← hR.1]; exact Nat.lt_of_lt_of_le g1 hS.1)).trans (hS.2.1 x g1 g2), hS.2.2⟩ hb
  show H1[n]? = some (vp_cell (E.2.2.2 0) _)
  rw [hcA]
  exact e1
theorem zx_newL {i : Int32} {N : Nat} (hd : decode M.2.2.1 pc = .ok (.newarray .long, 2)) (hq : pc + 2 = q) (hw : Cond.arrayClass .long ∈ zx_T) (hi : i = nI N) (hN : N < 1000000) (hcells : cells + 1 ≤ M.2.2.2.2.2.1.cells) (hslots : slots + N ≤ M.2.2.2.2.2.1.slots) (kk : zx_X E M Y q L (.ref n :: st) (zx_up h n (.inl (1, N, .inr (.inl (fun _ => 0))))) (n + 1) (cells + 1) (slots + N)) : zx_X E M Y pc L (.int i :: st) h n cells slots := by
  subst hq
  subst hi
  intro p e s m args below meth c ls H locs C hl hR hS hb
  have hK : va_K E.2.2.1 vwCl (zx_tys E.2.2.2) s := C.2.2.2.2.2.2.2.2.1.1
  have hts := C.2.2.2.2.1
  refine va_newaK C.1 C.2.1 (atype := .long) (hts _ hw) rfl hd rfl (nI_pos (by omega)) (nI_clamp (by omega)) (by show N * 8 ≤ _; omega) hcells hslots hR.1 fun H1 cA e1 z1 o1 hAr hNm => ?_
  have hcA : E.2.2.2 1 = cA := Option.some.inj ((show s.vm.findClass _ = some (E.2.2.2 1) from (hK.2 1 _ rfl).2).symm.trans hNm)
  refine kk p e s m args below meth c ls H1 locs C hl (hR.new ?_ z1 (fun q hq => o1 q hq)) ⟨Nat.le_trans hS.1 (by rw [z1, hR.1]; exact Nat.le_succ _), fun x g1 g2 => (o1 x (by rw [← hR.1]; exact Nat.lt_of_lt_of_le g1 hS.1)).trans (hS.2.1 x g1 g2), hS.2.2⟩ hb
  show H1[n]? = some (vp_cell (E.2.2.2 1) _)
  rw [hcA]
  exact e1
theorem zx_newZ {i : Int32} {N : Nat} (hd : decode M.2.2.1 pc = .ok (.newarray .boolean, 2)) (hq : pc + 2 = q) (hw : Cond.arrayClass .boolean ∈ zx_T) (hi : i = nI N) (hN : N < 1000000) (hcells : cells + 1 ≤ M.2.2.2.2.2.1.cells) (hslots : slots + N ≤ M.2.2.2.2.2.1.slots) (kk : zx_X E M Y q L (.ref n :: st) (zx_up h n (.inl (2, N, .inl (fun _ => 0)))) (n + 1) (cells + 1) (slots + N)) : zx_X E M Y pc L (.int i :: st) h n cells slots := by
  subst hq
  subst hi
  intro p e s m args below meth c ls H locs C hl hR hS hb
  have hK : va_K E.2.2.1 vwCl (zx_tys E.2.2.2) s := C.2.2.2.2.2.2.2.2.1.1
  have hts := C.2.2.2.2.1
  refine va_newaK C.1 C.2.1 (atype := .boolean) (hts _ hw) rfl hd rfl (nI_pos (by omega)) (nI_clamp (by omega)) (by show N * 1 ≤ _; omega) hcells hslots hR.1 fun H1 cA e1 z1 o1 hAr hNm => ?_
  have hcA : E.2.2.2 2 = cA := Option.some.inj ((show s.vm.findClass _ = some (E.2.2.2 2) from (hK.2 2 _ rfl).2).symm.trans hNm)
  refine kk p e s m args below meth c ls H1 locs C hl (hR.new ?_ z1 (fun q hq => o1 q hq)) ⟨Nat.le_trans hS.1 (by rw [z1, hR.1]; exact Nat.le_succ _), fun x g1 g2 => (o1 x (by rw [← hR.1]; exact Nat.lt_of_lt_of_le g1 hS.1)).trans (hS.2.1 x g1 g2), hS.2.2⟩ hb
  show H1[n]? = some (vp_cell (E.2.2.2 2) _)
  rw [hcA]
  exact e1
theorem zx_newQ {idx kd : Nat} {cn : String} {i : Int32} {N : Nat} (hd : decode M.2.2.1 pc = .ok (.anewarray idx, 3)) (hq : pc + 3 = q) (hkd : ∀ dA : Nat → ClassId, (zx_tys dA)[kd]? = some (dA kd, .object cn)) (hw : Cond.classLink M.1 idx cn ∈ zx_T ∧ cn ∈ zx_AO) (hi : i = nI N) (hN : N < 1000000) (hcells : cells + 1 ≤ M.2.2.2.2.2.1.cells) (hslots : slots + N ≤ M.2.2.2.2.2.1.slots) (kk : zx_X E M Y q L (.ref n :: st) (zx_up h n (.inl (kd, N, .inr (.inr (.inr (.inr (fun _ => none))))))) (n + 1) (cells + 1) (slots + N)) : zx_X E M Y pc L (.int i :: st) h n cells slots := by
  subst hq
  subst hi
  intro p e s m args below meth c ls H locs C hl hR hS hb
  have hK : va_K E.2.2.1 vwCl (zx_tys E.2.2.2) s := C.2.2.2.2.2.2.2.2.1.1
  have hts := C.2.2.2.2.1
  have ej : (nI N).toNatClampNeg = N := nI_clamp (by omega)
  refine W.anew C.1 C.2.1 C.2.2.2.1 (hts _ hw.1) (va_AO.use (C.2.2.2.2.2.2.2.2.1.2.2 _ hw.2)) rfl hd rfl (nI_pos (by omega)) (by rw [ej]; omega) hcells (by rw [ej]; exact hslots) fun cA kA comp f1 f2 f3 f4 => ?_
  rw [ej]
  generalize hH1 : H.push ({ cls := cA, slots := Array.replicate N .null, vm := .none } : Cell) = H1
  have z1 : H1.size = n + 1 := by rw [← hH1, Array.size_push, hR.1]
  have e1 : H1[n]? = some (arrV cA N (fun _ => .null)) := by rw [← hH1, ← hR.1, Array.getElem?_push_size, ← arrV_new]
  have o1 : ∀ q : Nat, q < n → H1[q]? = H[q]? := fun q hq => by rw [← hH1, Array.getElem?_push, if_neg (by rw [hR.1]; exact Nat.ne_of_lt hq)]
  have hcA : E.2.2.2 kd = cA := by
    obtain ⟨kA2, comp2, k1, k2, k3, k4⟩ := (hK.2 kd _ (hkd _)).2
    exact Option.some.inj (k4.symm.trans f1)
  have hsz : H.size = n := hR.1
  rw [hsz]
  refine kk p e s m args below meth c ls H1 locs C hl (hR.new ?_ z1 o1) ⟨Nat.le_trans hS.1 (by rw [z1, hsz]; exact Nat.le_succ _), fun x g1 g2 => (o1 x (by rw [← hsz]; exact Nat.lt_of_lt_of_le g1 hS.1)).trans (hS.2.1 x g1 g2), hS.2.2⟩ hb
  show H1[n]? = some (vp_cell (E.2.2.2 kd) _)
  rw [hcA, vp_cell_q]
  exact e1
theorem zx_objInit {idx a : Nat} (hd : decode M.2.2.1 pc = .ok (.invokespecial idx, 3)) (hq : pc + 3 = q) (hw : Cond.methodLink M.1 idx objectInit ∈ zx_T ∧ Cond.instanceMethod objectInit ∈ zx_T ∧ Cond.code objectInit ⟨#[0xb1]⟩ 1 none ∈ zx_T) (hfr : 1 ≤ M.2.2.2.2.2.1.frames) (hlo : (st.map fun v => v.category).sum + 12 ≤ M.2.2.2.2.2.1.locals) (kk : zx_X E M Y q L st h n cells slots) : zx_X E M Y pc L (.ref a :: st) h n cells slots := by
  subst hq
  intro p e s m args below meth c ls H locs C hl hR hS hb
  have hts := C.2.2.2.2.1
  exact W.objInit C.1 C.2.1 C.2.2.2.1 (hts _ hw.1) (hts _ hw.2.1) (hts _ hw.2.2) rfl (by show ls.size = _; rw [hl.1]; exact C.2.2.1.symm) rfl hd hfr (by show 2 * 0 + _ + 12 ≤ _; omega) (kk p e s m args below meth c ls H locs C hl hR hS hb)
theorem zx_mmin {idx : Nat} {x y : Int32} (hd : decode M.2.2.1 pc = .ok (.invokestatic idx, 3)) (hq : pc + 3 = q) (hw : Cond.methodLink M.1 idx Lib.Math.min.name ∈ zx_T ∧ Cond.static Lib.Math.min.name ∈ zx_T ∧ Cond.initialized "java/lang/Math" ∈ zx_T ∧ Cond.code Lib.Math.min.name Lib.Math.min.code 2 (some .int) ∈ zx_T) (hfr : 1 ≤ M.2.2.2.2.2.1.frames) (hlo : (st.map fun v => v.category).sum + 13 ≤ M.2.2.2.2.2.1.locals) (hcs : cells ≤ M.2.2.2.2.2.1.cells ∧ slots ≤ M.2.2.2.2.2.1.slots) (kk : zx_X E M Y q L (.int (if y < x then y else x) :: st) h n cells slots) : zx_X E M Y pc L (.int y :: .int x :: st) h n cells slots := by
  subst hq
  intro p e s m args below meth c ls H locs C hl hR hS hb
  have hts := C.2.2.2.2.1
  exact va_mmin C.1 C.2.1 (by rw [hl.1]; exact C.2.2.1) C.2.2.2.1 (hts _ hw.1) (hts _ hw.2.1) (hts _ hw.2.2.1) (hts _ hw.2.2.2) hfr hlo hcs.1 hcs.2 hd (kk p e s m args below meth c ls H locs C hl hR hS hb)
theorem zx_mminl {idx : Nat} {x y : Int64} (hd : decode M.2.2.1 pc = .ok (.invokestatic idx, 3)) (hq : pc + 3 = q) (hw : Cond.methodLink M.1 idx Lib.MathLoose.min_long.x ∈ zx_T ∧ Cond.static Lib.MathLoose.min_long.x ∈ zx_T ∧ Cond.initialized "java/lang/Math" ∈ zx_T ∧ Cond.code Lib.MathLoose.min_long.x Lib.MathLoose.min_long.code 4 (some .long) ∈ zx_T) (hfr : 1 ≤ M.2.2.2.2.2.1.frames) (hlo : (st.map fun v => v.category).sum + 15 ≤ M.2.2.2.2.2.1.locals) (hcs : cells ≤ M.2.2.2.2.2.1.cells ∧ slots ≤ M.2.2.2.2.2.1.slots) (kk : zx_X E M Y q L (.long (if y < x then y else x) :: st) h n cells slots) : zx_X E M Y pc L (.long y :: .long x :: st) h n cells slots := by
  subst hq
  intro p e s m args below meth c ls H locs C hl hR hS hb
  have hts := C.2.2.2.2.1
  exact va_mmin_long C.1 C.2.1 (by rw [hl.1]; exact C.2.2.1) C.2.2.2.1 (hts _ hw.1) (hts _ hw.2.1) (hts _ hw.2.2.1) (hts _ hw.2.2.2) hfr hlo hcs.1 hcs.2 hd (kk p e s m args below meth c ls H locs C hl hR hS hb)
/-- a contract from a walk of the body -/
theorem zx_start {y : MethodName} {av : List Value} {Q : Option Value → zxH → Nat → Prop} (L : List (Option Value)) (hy : plainName y.cls = true) (hyc : y.cls = M.1) (hyn : y.name = M.2.1) (hs : (lg_sl av).length ≤ M.2.2.2.1) (hL : zx_as 0 L = lv_args 0 av) (hx : zx_X E M (zx_Y E M Q) 0 L [] h n 0 0) : zx_Ok E y M av h n Q := by
  refine Met.ofW (cc := M.2.2.1) (maxL := M.2.2.2.1) (ret := M.2.2.2.2.1) hy rfl ?_
  intro p e s m args below meth c s₁ B hml hv
  obtain ⟨rfl, hR, hK⟩ := hv
  have hts := atoms_spec (ws := Cond.code y M.2.2.1 M.2.2.2.1 M.2.2.2.2.1 :: zx_T) B.pre
  have hl := lv_entry av hs
  rw [lg_entry_eq]
  rw [← hL] at hl
  exact hx p e s m _ below meth c _ s.heap [] ⟨B.exec, B.bytes, hml, hyc ▸ findClass_of_methodNamed B.named, fun w hw => hts w (List.mem_cons_of_mem _ hw), B.returns, B.notSynchronized, (name_of_methodNamed B.named B.method).1.trans hyn, hK, trivial⟩ hl hR va_S.rf (by rw [hR.1]; exact hR.2.1)
/-- behind a call -/
theorem zx_cont {p : Program} {e : Env} {s : State} {m : MethodId} {args : Array Value} {below : List Frame} {meth : Method} {c : Code} {H : Heap} {locs : List Loc} {ls : Array Slot} {st0 rest : List Value} {a : Array Value} {mc ms : Nat} {Q' : Option Value → zxH → Nat → Prop} (C : zx_C E M Y p s m args meth c)
    (hr : va_Run p E.1 e M.2.2.2.2.2.1 s m args below meth c H locs cells slots mc ms (F0 m pc ls st0) rest (zx_Q E Q' a) (zx_A E)) (hl : lv_has ls M.2.2.2.1 (zx_as 0 L)) (hS : va_S (zx_A E) s.heap H locs) (hb : E.2.1 ≤ s.heap.size)
    (kk : ∀ (r : Option Value) (h1 : zxH) (n1 : Nat), Q' r h1 n1 → zx_X E M Y (pc + 3) L (r.toList ++ rest) h1 n1 (cells + mc) (slots + ms)) : W p E.1 e M.2.2.2.2.2.1 s m args below meth c H locs cells slots (Y.2 below args s) (F0 m pc ls st0) := by
  intro T hT X
  obtain ⟨v, st₀, t, T', L', h0, X', hL, e1, e2, ⟨⟨r, h1, n1, hv, hq, hR1⟩, hz, hk⟩, st⟩ := hr T hT X
  cases hv
  rw [h0] at hz hk
  obtain ⟨t2, a1, b1⟩ := kk v h1 n1 hq p e s m args below meth c ls T'.heap (locs ++ L') C hl (by rw [e1]; exact hR1)
    ⟨Nat.le_trans hS.1 (by rw [e1]; exact hz), fun q g1 g2 => by rw [e1, hk q (Nat.lt_of_lt_of_le g1 hS.1) g2]; exact hS.2.1 q g1 g2, fun q hq => by
      rcases List.mem_append.mp hq with g | g
      · exact hS.2.2 q g
      · exact hL q g⟩ hb T' rfl X'
  exact ⟨t2, st t2 a1, b1⟩
end ZX
theorem zx_blind (E : zxE) (av : List Value) (h : zxH) (n : Nat) : FrameBlind (va_Pc av (fun U => zx_R E h n U.heap ∧ zx_K E U)) := by
  intro a U g mk hq
  obtain ⟨q0, q1, q2⟩ := hq
  exact ⟨q0, q1, va_K.moved (u := U) (U := U.calling g mk a) (Vm.Alike.refl U.vm) q2.1, fun q hq => va_Nw.same (u := U) (U := U.calling g mk a) rfl rfl (q2.2.1 q hq), fun C hC => va_AO.moved (u := U) (U := U.calling g mk a) (Vm.Alike.refl U.vm) (q2.2.2 C hC)⟩
def zx_room (M M' : zxM) : Prop := M'.2.2.2.2.2.1.cells = M'.2.2.2.2.2.2.1 ∧ M'.2.2.2.2.2.1.slots = M'.2.2.2.2.2.2.2 ∧ M'.2.2.2.2.2.1.frames + 1 ≤ M.2.2.2.2.2.1.frames ∧ 8 + (M'.2.2.2.1 + 11) + M'.2.2.2.2.2.1.locals ≤ M.2.2.2.2.2.1.locals
def zx_nm (y : MethodName) (na : Nat) : Prop := y.cls ≠ "java/lang/invoke/MethodHandle" ∧ y.cls ≠ "java/lang/invoke/VarHandle" ∧ (parseMethodDescriptor y.desc).map (fun d => d.parameters.length) = some na
/-- a call of a method of an object -/
def zx_CV (M M' : zxM) (idx : Nat) (y : MethodName) (na : Nat) : Prop :=
  (Cond.methodLink M.1 idx y ∈ zx_T ∧ Cond.instanceMethod y ∈ zx_T ∧ Cond.selects M'.1 y y ∈ zx_T ∧ Cond.initialized M'.1 ∈ zx_T ∧ Cond.code y M'.2.2.1 M'.2.2.2.1 M'.2.2.2.2.1 ∈ zx_T) ∧ y.cls = M'.1 ∧ zx_nm y na ∧ zx_room M M'
/-- a constructor's call -/
def zx_CI (M M' : zxM) (idx : Nat) (y : MethodName) (na : Nat) : Prop :=
  (Cond.methodLink M.1 idx y ∈ zx_T ∧ Cond.instanceMethod y ∈ zx_T ∧ Cond.initialized y.cls ∈ zx_T ∧ Cond.code y M'.2.2.1 M'.2.2.2.1 none ∈ zx_T) ∧ y.name = "<init>" ∧ M'.2.2.2.2.1 = none ∧ zx_nm y na ∧ zx_room M M'
/-- a call of a static method of the own text -/
def zx_CS (M M' : zxM) (idx : Nat) (y : MethodName) (na : Nat) : Prop :=
  (Cond.methodLink M.1 idx y ∈ zx_T ∧ Cond.static y ∈ zx_T ∧ Cond.initialized M.1 ∈ zx_T ∧ Cond.code y M'.2.2.1 M'.2.2.2.1 M'.2.2.2.2.1 ∈ zx_T) ∧ y.cls = M.1 ∧ zx_nm y na ∧ zx_room M M'
/-- a static method's call, of a nest mate -/
def zx_CN (M M' : zxM) (idx : Nat) (y : MethodName) (na : Nat) : Prop :=
  ((M.1, idx, y) ∈ zx_N ∧ Cond.static y ∈ zx_T ∧ Cond.initialized y.cls ∈ zx_T ∧ Cond.code y M'.2.2.1 M'.2.2.2.1 M'.2.2.2.2.1 ∈ zx_T) ∧ zx_nm y na ∧ zx_room M M'
/-- a call of a constructor that only nest mates may call -/
def zx_CJ (M M' : zxM) (idx : Nat) (y : MethodName) (na : Nat) : Prop :=
  ((M.1, idx, y) ∈ zx_N ∧ Cond.instanceMethod y ∈ zx_T ∧ Cond.initialized y.cls ∈ zx_T ∧ Cond.code y M'.2.2.1 M'.2.2.2.1 none ∈ zx_T) ∧ y.name = "<init>" ∧ M'.2.2.2.2.1 = none ∧ zx_nm y na ∧ zx_room M M'
theorem zx_goods {y : MethodName} {cc : ByteArray} {nL : Nat} {ret : Option FieldType} (h : Cond.code y cc nL ret ∈ zx_T) : GoodIn zx_T (.code y cc nL ret :: zx_T) := by
  intro w hw
  rcases List.mem_cons.mp hw with rfl | hw
  · exact ⟨h, zx_good _ h⟩
  · exact ⟨hw, zx_good _ hw⟩
section ZC
variable {E : zxE} {M M' : zxM} {Y : zxY} {pc q cells slots n idx na : Nat} {L : List (Option Value)} {rest As : List Value} {h : zxH} {y : MethodName} {Q' : Option Value → zxH → Nat → Prop}
theorem zx_callV {a ci : Nat} {fs : List Value} {r : vw_C} (hd : decode M.2.2.1 pc = .ok (.invokevirtual idx, 3)) (hq : pc + 3 = q) (hw : zx_CV M M' idx y na) (hc : h a = some (.inr (ci, fs))) (hci : vwCl[ci]? = some r) (hr : r.1 = M'.1) (hna : As.length = na) (hst : (rest.map fun v => v.category).sum ≤ 8) (hf : cells + M'.2.2.2.2.2.2.1 ≤ M.2.2.2.2.2.1.cells ∧ slots + M'.2.2.2.2.2.2.2 ≤ M.2.2.2.2.2.1.slots)
    (ok : zx_Ok E y M' (.ref a :: As) h n Q') (kk : ∀ (r : Option Value) (h1 : zxH) (n1 : Nat), Q' r h1 n1 → zx_X E M Y q L (r.toList ++ rest) h1 n1 (cells + M'.2.2.2.2.2.2.1) (slots + M'.2.2.2.2.2.2.2)) : zx_X E M Y pc L (As.reverse ++ .ref a :: rest) h n cells slots := by
  subst hq
  obtain ⟨⟨w1, w2, w3, w4, w5⟩, hyc, hnm, r1, r2, r3, r4⟩ := hw
  intro p e s m args below meth c ls H locs C hl hR hS hb
  have hK : va_K E.2.2.1 vwCl (zx_tys E.2.2.2) s := C.2.2.2.2.2.2.2.2.1.1
  have hts := C.2.2.2.2.1
  have hg := zx_goods w5
  have hT : GoodIn zx_T (wsV M.1 idx M'.1 y (.code y M'.2.2.1 M'.2.2.2.1 M'.2.2.2.2.1 :: zx_T)) := by
    intro w hw
    unfold wsV at hw
    rcases List.mem_append.mp hw with g | g
    · have : w ∈ zx_T := by
        simp only [List.mem_cons, List.not_mem_nil, or_false] at g
        rcases g with rfl | rfl | rfl | rfl <;> assumption
      exact ⟨this, zx_good _ this⟩
    · exact hg w g
  have hcw := cwV (R := M.2.2.2.2.2.1) (rm := M'.2.2.2.2.2.1) na hts hT rfl r1 r2 ⟨hyc, hnm⟩ ⟨r3, r4⟩
  obtain ⟨cellB, c1, c2, c3⟩ := va_recv (q0 := 0) hK (hR.one hc) hci rfl
  exact zx_cont C (va_runV (As := As) (rest := rest) ⟨C.1, C.2.1, C.2.2.1, C.2.2.2.1, hts⟩ ok hcw ⟨zx_blind _ _ _ _, ⟨cellB, c1, c2, by rw [← hr]; exact c3⟩, fun U hU hW => ⟨rfl, by rw [hU]; exact hR, zx_K.warm hW C.2.2.2.2.2.2.2.2.1⟩⟩ rfl hna hl.1 rfl (lv_room hst) hd hf) hl hS hb kk
theorem zx_callI {a : Nat} (hd : decode M.2.2.1 pc = .ok (.invokespecial idx, 3)) (hq : pc + 3 = q) (hw : zx_CI M M' idx y na) (hna : As.length = na) (hst : (rest.map fun v => v.category).sum ≤ 8) (hf : cells + M'.2.2.2.2.2.2.1 ≤ M.2.2.2.2.2.1.cells ∧ slots + M'.2.2.2.2.2.2.2 ≤ M.2.2.2.2.2.1.slots)
    (ok : zx_Ok E y M' (.ref a :: As) h n Q') (kk : ∀ (r : Option Value) (h1 : zxH) (n1 : Nat), Q' r h1 n1 → zx_X E M Y q L (r.toList ++ rest) h1 n1 (cells + M'.2.2.2.2.2.2.1) (slots + M'.2.2.2.2.2.2.2)) : zx_X E M Y pc L (As.reverse ++ .ref a :: rest) h n cells slots := by
  subst hq
  obtain ⟨⟨w1, w2, w4, w5⟩, hyi, hret, hnm, r1, r2, r3, r4⟩ := hw
  intro p e s m args below meth c ls H locs C hl hR hS hb
  have hK : va_K E.2.2.1 vwCl (zx_tys E.2.2.2) s := C.2.2.2.2.2.2.2.2.1.1
  have hts := C.2.2.2.2.1
  have hg := zx_goods w5
  rw [← hret] at hg
  have hcw := cwI (R := M.2.2.2.2.2.1) (rm := M'.2.2.2.2.2.1) na hts hg (by rw [hret]) r1 r2 (hts _ w4) (hts _ w1) (hts _ w2) hyi hnm ⟨r3, r4⟩
  exact zx_cont C (va_runI (As := As) (rest := rest) ⟨C.1, C.2.1, C.2.2.1, C.2.2.2.1, hts⟩ ok hcw ⟨zx_blind _ _ _ _, fun U hU hW => ⟨rfl, by rw [hU]; exact hR, zx_K.warm hW C.2.2.2.2.2.2.2.2.1⟩⟩ rfl hna hl.1 rfl (lv_room hst) hd hf) hl hS hb kk
theorem zx_callS (hd : decode M.2.2.1 pc = .ok (.invokestatic idx, 3)) (hq : pc + 3 = q) (hw : zx_CS M M' idx y na) (hna : As.length = na) (hst : (rest.map fun v => v.category).sum ≤ 8) (hf : cells + M'.2.2.2.2.2.2.1 ≤ M.2.2.2.2.2.1.cells ∧ slots + M'.2.2.2.2.2.2.2 ≤ M.2.2.2.2.2.1.slots)
    (ok : zx_Ok E y M' As h n Q') (kk : ∀ (r : Option Value) (h1 : zxH) (n1 : Nat), Q' r h1 n1 → zx_X E M Y q L (r.toList ++ rest) h1 n1 (cells + M'.2.2.2.2.2.2.1) (slots + M'.2.2.2.2.2.2.2)) : zx_X E M Y pc L (As.reverse ++ rest) h n cells slots := by
  subst hq
  obtain ⟨⟨w1, w2, w4, w5⟩, hyc, hnm, r1, r2, r3, r4⟩ := hw
  intro p e s m args below meth c ls H locs C hl hR hS hb
  have hK : va_K E.2.2.1 vwCl (zx_tys E.2.2.2) s := C.2.2.2.2.2.2.2.2.1.1
  have hts := C.2.2.2.2.1
  have hg := zx_goods w5
  have hT : GoodIn zx_T (wsS M.1 idx y (.code y M'.2.2.1 M'.2.2.2.1 M'.2.2.2.2.1 :: zx_T)) := by
    intro w hw
    unfold wsS at hw
    rcases List.mem_append.mp hw with g | g
    · have : w ∈ zx_T := by
        simp only [List.mem_cons, List.not_mem_nil, or_false] at g
        rcases g with rfl | rfl | rfl <;> assumption
      exact ⟨this, zx_good _ this⟩
    · exact hg w g
  have hcw := cwS (R := M.2.2.2.2.2.1) (rm := M'.2.2.2.2.2.1) na hts hT rfl r1 r2 ⟨hyc, hnm⟩ ⟨r3, r4⟩
  exact zx_cont C (va_runS (As := As) (rest := rest) ⟨C.1, C.2.1, C.2.2.1, C.2.2.2.1, hts⟩ ok hcw ⟨zx_blind _ _ _ _, fun U hU hW => ⟨rfl, by rw [hU]; exact hR, zx_K.warm hW C.2.2.2.2.2.2.2.2.1⟩⟩ rfl hna hl.1 rfl (lv_room hst) hd hf) hl hS hb kk
theorem zx_callN (hd : decode M.2.2.1 pc = .ok (.invokestatic idx, 3)) (hq : pc + 3 = q) (hw : zx_CN M M' idx y na) (hna : As.length = na) (hst : (rest.map fun v => v.category).sum ≤ 8) (hf : cells + M'.2.2.2.2.2.2.1 ≤ M.2.2.2.2.2.1.cells ∧ slots + M'.2.2.2.2.2.2.2 ≤ M.2.2.2.2.2.1.slots)
    (ok : zx_Ok E y M' As h n Q') (kk : ∀ (r : Option Value) (h1 : zxH) (n1 : Nat), Q' r h1 n1 → zx_X E M Y q L (r.toList ++ rest) h1 n1 (cells + M'.2.2.2.2.2.2.1) (slots + M'.2.2.2.2.2.2.2)) : zx_X E M Y pc L (As.reverse ++ rest) h n cells slots := by
  subst hq
  obtain ⟨⟨w1, w2, w4, w5⟩, hnm, r1, r2, r3, r4⟩ := hw
  intro p e s m args below meth c ls H locs C hl hR hS hb
  have hK : va_K E.2.2.1 vwCl (zx_tys E.2.2.2) s := C.2.2.2.2.2.2.2.2.1.1
  have hts := C.2.2.2.2.1
  have hg := zx_goods w5
  have hcw := va_cnB (R := M.2.2.2.2.2.1) (rm := M'.2.2.2.2.2.1) (args := args) na hts hg rfl r1 r2 (C.2.2.2.2.2.2.2.2.1.2.1 _ w1) (hts _ w4) hnm ⟨r3, r4⟩
  exact zx_cont C (va_runSN (As := As) (rest := rest) ⟨C.1, C.2.1, C.2.2.1, C.2.2.2.1, hts⟩ ok ⟨hcw, hts _ w2, trivial⟩ ⟨zx_blind _ _ _ _, fun U hU hW => ⟨rfl, by rw [hU]; exact hR, zx_K.warm hW C.2.2.2.2.2.2.2.2.1⟩⟩ rfl hna hl.1 rfl (lv_room hst) hd hf) hl hS hb kk
theorem zx_callJ {a : Nat} (hd : decode M.2.2.1 pc = .ok (.invokespecial idx, 3)) (hq : pc + 3 = q) (hw : zx_CJ M M' idx y na) (hna : As.length = na) (hst : (rest.map fun v => v.category).sum ≤ 8) (hf : cells + M'.2.2.2.2.2.2.1 ≤ M.2.2.2.2.2.1.cells ∧ slots + M'.2.2.2.2.2.2.2 ≤ M.2.2.2.2.2.1.slots)
    (ok : zx_Ok E y M' (.ref a :: As) h n Q') (kk : ∀ (r : Option Value) (h1 : zxH) (n1 : Nat), Q' r h1 n1 → zx_X E M Y q L (r.toList ++ rest) h1 n1 (cells + M'.2.2.2.2.2.2.1) (slots + M'.2.2.2.2.2.2.2)) : zx_X E M Y pc L (As.reverse ++ .ref a :: rest) h n cells slots := by
  subst hq
  obtain ⟨⟨w1, w2, w4, w5⟩, hyi, hret, hnm, r1, r2, r3, r4⟩ := hw
  intro p e s m args below meth c ls H locs C hl hR hS hb
  have hK : va_K E.2.2.1 vwCl (zx_tys E.2.2.2) s := C.2.2.2.2.2.2.2.2.1.1
  have hts := C.2.2.2.2.1
  have hg := zx_goods w5
  rw [← hret] at hg
  have hcw := va_cnB (R := M.2.2.2.2.2.1) (rm := M'.2.2.2.2.2.1) (args := args) na hts hg (by rw [hret]) r1 r2 (C.2.2.2.2.2.2.2.2.1.2.1 _ w1) (hts _ w4) hnm ⟨r3, r4⟩
  exact zx_cont C (va_runIN (As := As) (rest := rest) ⟨C.1, C.2.1, C.2.2.1, C.2.2.2.1, hts⟩ ok ⟨hcw, hyi, hts _ w2⟩ ⟨zx_blind _ _ _ _, fun U hU hW => ⟨rfl, by rw [hU]; exact hR, zx_K.warm hW C.2.2.2.2.2.2.2.2.1⟩⟩ rfl hna hl.1 rfl (lv_room hst) hd hf) hl hS hb kk
end ZC
section ZD
variable {E : zxE} {M M' : zxM} {Y : zxY} {pc q cells slots n idx : Nat} {L : List (Option Value)} {rest : List Value} {h : zxH} {y : MethodName}
theorem zx_cV0v {a ci : Nat} {fs : List Value} {r : vw_C} (hd : decode M.2.2.1 pc = .ok (.invokevirtual idx, 3)) (hq : pc + 3 = q) (hw : zx_CV M M' idx y 0) (h0 : M'.2.2.2.2.2.2.1 = 0 ∧ M'.2.2.2.2.2.2.2 = 0) (hc : h a = some (.inr (ci, fs))) (hci : vwCl[ci]? = some r) (hr : r.1 = M'.1) (hst : (rest.map fun v => v.category).sum ≤ 8) (hf : cells ≤ M.2.2.2.2.2.1.cells ∧ slots ≤ M.2.2.2.2.2.1.slots)
    (ok : zx_Ok E y M' [.ref a] h n (fun r h1 n1 => r = none ∧ zx_X E M Y q L (rest) h1 n1 cells slots)) : zx_X E M Y pc L (.ref a :: rest) h n cells slots := by
  refine zx_callV (As := []) (rest := rest) hd hq hw hc hci hr rfl hst (by rw [h0.1, h0.2]; exact hf) ok (fun r h1 n1 z => ?_)
  obtain ⟨e, k⟩ := z
  subst e
  rw [h0.1, h0.2]
  exact k
theorem zx_cV0i {a ci : Nat} {fs : List Value} {r : vw_C} (hd : decode M.2.2.1 pc = .ok (.invokevirtual idx, 3)) (hq : pc + 3 = q) (hw : zx_CV M M' idx y 0) (h0 : M'.2.2.2.2.2.2.1 = 0 ∧ M'.2.2.2.2.2.2.2 = 0) (hc : h a = some (.inr (ci, fs))) (hci : vwCl[ci]? = some r) (hr : r.1 = M'.1) (hst : (rest.map fun v => v.category).sum ≤ 8) (hf : cells ≤ M.2.2.2.2.2.1.cells ∧ slots ≤ M.2.2.2.2.2.1.slots)
    (ok : zx_Ok E y M' [.ref a] h n (fun r h1 n1 => ∃ v : Int32, r = some (.int v) ∧ zx_X E M Y q L (.int v :: rest) h1 n1 cells slots)) : zx_X E M Y pc L (.ref a :: rest) h n cells slots := by
  refine zx_callV (As := []) (rest := rest) hd hq hw hc hci hr rfl hst (by rw [h0.1, h0.2]; exact hf) ok (fun r h1 n1 z => ?_)
  obtain ⟨v, e, k⟩ := z
  subst e
  rw [h0.1, h0.2]
  exact k
theorem zx_cV0l {a ci : Nat} {fs : List Value} {r : vw_C} (hd : decode M.2.2.1 pc = .ok (.invokevirtual idx, 3)) (hq : pc + 3 = q) (hw : zx_CV M M' idx y 0) (h0 : M'.2.2.2.2.2.2.1 = 0 ∧ M'.2.2.2.2.2.2.2 = 0) (hc : h a = some (.inr (ci, fs))) (hci : vwCl[ci]? = some r) (hr : r.1 = M'.1) (hst : (rest.map fun v => v.category).sum ≤ 8) (hf : cells ≤ M.2.2.2.2.2.1.cells ∧ slots ≤ M.2.2.2.2.2.1.slots)
    (ok : zx_Ok E y M' [.ref a] h n (fun r h1 n1 => ∃ v : Int64, r = some (.long v) ∧ zx_X E M Y q L (.long v :: rest) h1 n1 cells slots)) : zx_X E M Y pc L (.ref a :: rest) h n cells slots := by
  refine zx_callV (As := []) (rest := rest) hd hq hw hc hci hr rfl hst (by rw [h0.1, h0.2]; exact hf) ok (fun r h1 n1 z => ?_)
  obtain ⟨v, e, k⟩ := z
  subst e
  rw [h0.1, h0.2]
  exact k
theorem zx_cV0a {a ci : Nat} {fs : List Value} {r : vw_C} (hd : decode M.2.2.1 pc = .ok (.invokevirtual idx, 3)) (hq : pc + 3 = q) (hw : zx_CV M M' idx y 0) (h0 : M'.2.2.2.2.2.2.1 = 0 ∧ M'.2.2.2.2.2.2.2 = 0) (hc : h a = some (.inr (ci, fs))) (hci : vwCl[ci]? = some r) (hr : r.1 = M'.1) (hst : (rest.map fun v => v.category).sum ≤ 8) (hf : cells ≤ M.2.2.2.2.2.1.cells ∧ slots ≤ M.2.2.2.2.2.1.slots)
    (ok : zx_Ok E y M' [.ref a] h n (fun r h1 n1 => ∃ v : Nat, r = some (.ref v) ∧ zx_X E M Y q L (.ref v :: rest) h1 n1 cells slots)) : zx_X E M Y pc L (.ref a :: rest) h n cells slots := by
  refine zx_callV (As := []) (rest := rest) hd hq hw hc hci hr rfl hst (by rw [h0.1, h0.2]; exact hf) ok (fun r h1 n1 z => ?_)
  obtain ⟨v, e, k⟩ := z
  subst e
  rw [h0.1, h0.2]
  exact k
theorem zx_cV1v {a ci : Nat} {fs : List Value} {r : vw_C} {x1 : Value} (hd : decode M.2.2.1 pc = .ok (.invokevirtual idx, 3)) (hq : pc + 3 = q) (hw : zx_CV M M' idx y 1) (h0 : M'.2.2.2.2.2.2.1 = 0 ∧ M'.2.2.2.2.2.2.2 = 0) (hc : h a = some (.inr (ci, fs))) (hci : vwCl[ci]? = some r) (hr : r.1 = M'.1) (hst : (rest.map fun v => v.category).sum ≤ 8) (hf : cells ≤ M.2.2.2.2.2.1.cells ∧ slots ≤ M.2.2.2.2.2.1.slots)
    (ok : zx_Ok E y M' [.ref a, x1] h n (fun r h1 n1 => r = none ∧ zx_X E M Y q L (rest) h1 n1 cells slots)) : zx_X E M Y pc L (x1 :: .ref a :: rest) h n cells slots := by
  refine zx_callV (As := [x1]) (rest := rest) hd hq hw hc hci hr rfl hst (by rw [h0.1, h0.2]; exact hf) ok (fun r h1 n1 z => ?_)
  obtain ⟨e, k⟩ := z
  subst e
  rw [h0.1, h0.2]
  exact k
theorem zx_cV1i {a ci : Nat} {fs : List Value} {r : vw_C} {x1 : Value} (hd : decode M.2.2.1 pc = .ok (.invokevirtual idx, 3)) (hq : pc + 3 = q) (hw : zx_CV M M' idx y 1) (h0 : M'.2.2.2.2.2.2.1 = 0 ∧ M'.2.2.2.2.2.2.2 = 0) (hc : h a = some (.inr (ci, fs))) (hci : vwCl[ci]? = some r) (hr : r.1 = M'.1) (hst : (rest.map fun v => v.category).sum ≤ 8) (hf : cells ≤ M.2.2.2.2.2.1.cells ∧ slots ≤ M.2.2.2.2.2.1.slots)
    (ok : zx_Ok E y M' [.ref a, x1] h n (fun r h1 n1 => ∃ v : Int32, r = some (.int v) ∧ zx_X E M Y q L (.int v :: rest) h1 n1 cells slots)) : zx_X E M Y pc L (x1 :: .ref a :: rest) h n cells slots := by
  refine zx_callV (As := [x1]) (rest := rest) hd hq hw hc hci hr rfl hst (by rw [h0.1, h0.2]; exact hf) ok (fun r h1 n1 z => ?_)
  obtain ⟨v, e, k⟩ := z
  subst e
  rw [h0.1, h0.2]
  exact k
theorem zx_cV1l {a ci : Nat} {fs : List Value} {r : vw_C} {x1 : Value} (hd : decode M.2.2.1 pc = .ok (.invokevirtual idx, 3)) (hq : pc + 3 = q) (hw : zx_CV M M' idx y 1) (h0 : M'.2.2.2.2.2.2.1 = 0 ∧ M'.2.2.2.2.2.2.2 = 0) (hc : h a = some (.inr (ci, fs))) (hci : vwCl[ci]? = some r) (hr : r.1 = M'.1) (hst : (rest.map fun v => v.category).sum ≤ 8) (hf : cells ≤ M.2.2.2.2.2.1.cells ∧ slots ≤ M.2.2.2.2.2.1.slots)
    (ok : zx_Ok E y M' [.ref a, x1] h n (fun r h1 n1 => ∃ v : Int64, r = some (.long v) ∧ zx_X E M Y q L (.long v :: rest) h1 n1 cells slots)) : zx_X E M Y pc L (x1 :: .ref a :: rest) h n cells slots := by
  refine zx_callV (As := [x1]) (rest := rest) hd hq hw hc hci hr rfl hst (by rw [h0.1, h0.2]; exact hf) ok (fun r h1 n1 z => ?_)
  obtain ⟨v, e, k⟩ := z
  subst e
  rw [h0.1, h0.2]
  exact k
theorem zx_cV1a {a ci : Nat} {fs : List Value} {r : vw_C} {x1 : Value} (hd : decode M.2.2.1 pc = .ok (.invokevirtual idx, 3)) (hq : pc + 3 = q) (hw : zx_CV M M' idx y 1) (h0 : M'.2.2.2.2.2.2.1 = 0 ∧ M'.2.2.2.2.2.2.2 = 0) (hc : h a = some (.inr (ci, fs))) (hci : vwCl[ci]? = some r) (hr : r.1 = M'.1) (hst : (rest.map fun v => v.category).sum ≤ 8) (hf : cells ≤ M.2.2.2.2.2.1.cells ∧ slots ≤ M.2.2.2.2.2.1.slots)
    (ok : zx_Ok E y M' [.ref a, x1] h n (fun r h1 n1 => ∃ v : Nat, r = some (.ref v) ∧ zx_X E M Y q L (.ref v :: rest) h1 n1 cells slots)) : zx_X E M Y pc L (x1 :: .ref a :: rest) h n cells slots := by
  refine zx_callV (As := [x1]) (rest := rest) hd hq hw hc hci hr rfl hst (by rw [h0.1, h0.2]; exact hf) ok (fun r h1 n1 z => ?_)
  obtain ⟨v, e, k⟩ := z
  subst e
  rw [h0.1, h0.2]
  exact k
theorem zx_cV2v {a ci : Nat} {fs : List Value} {r : vw_C} {x1 x2 : Value} (hd : decode M.2.2.1 pc = .ok (.invokevirtual idx, 3)) (hq : pc + 3 = q) (hw : zx_CV M M' idx y 2) (h0 : M'.2.2.2.2.2.2.1 = 0 ∧ M'.2.2.2.2.2.2.2 = 0) (hc : h a = some (.inr (ci, fs))) (hci : vwCl[ci]? = some r) (hr : r.1 = M'.1) (hst : (rest.map fun v => v.category).sum ≤ 8) (hf : cells ≤ M.2.2.2.2.2.1.cells ∧ slots ≤ M.2.2.2.2.2.1.slots)
    (ok : zx_Ok E y M' [.ref a, x1, x2] h n (fun r h1 n1 => r = none ∧ zx_X E M Y q L (rest) h1 n1 cells slots)) : zx_X E M Y pc L (x2 :: x1 :: .ref a :: rest) h n cells slots := by
  refine zx_callV (As := [x1, x2]) (rest := rest) hd hq hw hc hci hr rfl hst (by rw [h0.1, h0.2]; exact hf) ok (fun r h1 n1 z => ?_)
  obtain ⟨e, k⟩ := z
  subst e
  rw [h0.1, h0.2]
  exact k
theorem zx_cV2i {a ci : Nat} {fs : List Value} {r : vw_C} {x1 x2 : Value} (hd : decode M.2.2.1 pc = .ok (.invokevirtual idx, 3)) (hq : pc + 3 = q) (hw : zx_CV M M' idx y 2) (h0 : M'.2.2.2.2.2.2.1 = 0 ∧ M'.2.2.2.2.2.2.2 = 0) (hc : h a = some (.inr (ci, fs))) (hci : vwCl[ci]? = some r) (hr : r.1 = M'.1) (hst : (rest.map fun v => v.category).sum ≤ 8) (hf : cells ≤ M.2.2.2.2.2.1.cells ∧ slots ≤ M.2.2.2.2.2.1.slots)
    (ok : zx_Ok E y M' [.ref a, x1, x2] h n (fun r h1 n1 => ∃ v : Int32, r = some (.int v) ∧ zx_X E M Y q L (.int v :: rest) h1 n1 cells slots)) : zx_X E M Y pc L (x2 :: x1 :: .ref a :: rest) h n cells slots := by
  refine zx_callV (As := [x1, x2]) (rest := rest) hd hq hw hc hci hr rfl hst (by rw [h0.1, h0.2]; exact hf) ok (fun r h1 n1 z => ?_)
  obtain ⟨v, e, k⟩ := z
  subst e
  rw [h0.1, h0.2]
  exact k
theorem zx_cV2l {a ci : Nat} {fs : List Value} {r : vw_C} {x1 x2 : Value} (hd : decode M.2.2.1 pc = .ok (.invokevirtual idx, 3)) (hq : pc + 3 = q) (hw : zx_CV M M' idx y 2) (h0 : M'.2.2.2.2.2.2.1 = 0 ∧ M'.2.2.2.2.2.2.2 = 0) (hc : h a = some (.inr (ci, fs))) (hci : vwCl[ci]? = some r) (hr : r.1 = M'.1) (hst : (rest.map fun v => v.category).sum ≤ 8) (hf : cells ≤ M.2.2.2.2.2.1.cells ∧ slots ≤ M.2.2.2.2.2.1.slots)
    (ok : zx_Ok E y M' [.ref a, x1, x2] h n (fun r h1 n1 => ∃ v : Int64, r = some (.long v) ∧ zx_X E M Y q L (.long v :: rest) h1 n1 cells slots)) : zx_X E M Y pc L (x2 :: x1 :: .ref a :: rest) h n cells slots := by
  refine zx_callV (As := [x1, x2]) (rest := rest) hd hq hw hc hci hr rfl hst (by rw [h0.1, h0.2]; exact hf) ok (fun r h1 n1 z => ?_)
  obtain ⟨v, e, k⟩ := z
  subst e
  rw [h0.1, h0.2]
  exact k
theorem zx_cV2a {a ci : Nat} {fs : List Value} {r : vw_C} {x1 x2 : Value} (hd : decode M.2.2.1 pc = .ok (.invokevirtual idx, 3)) (hq : pc + 3 = q) (hw : zx_CV M M' idx y 2) (h0 : M'.2.2.2.2.2.2.1 = 0 ∧ M'.2.2.2.2.2.2.2 = 0) (hc : h a = some (.inr (ci, fs))) (hci : vwCl[ci]? = some r) (hr : r.1 = M'.1) (hst : (rest.map fun v => v.category).sum ≤ 8) (hf : cells ≤ M.2.2.2.2.2.1.cells ∧ slots ≤ M.2.2.2.2.2.1.slots)
    (ok : zx_Ok E y M' [.ref a, x1, x2] h n (fun r h1 n1 => ∃ v : Nat, r = some (.ref v) ∧ zx_X E M Y q L (.ref v :: rest) h1 n1 cells slots)) : zx_X E M Y pc L (x2 :: x1 :: .ref a :: rest) h n cells slots := by
  refine zx_callV (As := [x1, x2]) (rest := rest) hd hq hw hc hci hr rfl hst (by rw [h0.1, h0.2]; exact hf) ok (fun r h1 n1 z => ?_)
  obtain ⟨v, e, k⟩ := z
  subst e
  rw [h0.1, h0.2]
  exact k
theorem zx_cV3v {a ci : Nat} {fs : List Value} {r : vw_C} {x1 x2 x3 : Value} (hd : decode M.2.2.1 pc = .ok (.invokevirtual idx, 3)) (hq : pc + 3 = q) (hw : zx_CV M M' idx y 3) (h0 : M'.2.2.2.2.2.2.1 = 0 ∧ M'.2.2.2.2.2.2.2 = 0) (hc : h a = some (.inr (ci, fs))) (hci : vwCl[ci]? = some r) (hr : r.1 = M'.1) (hst : (rest.map fun v => v.category).sum ≤ 8) (hf : cells ≤ M.2.2.2.2.2.1.cells ∧ slots ≤ M.2.2.2.2.2.1.slots)
    (ok : zx_Ok E y M' [.ref a, x1, x2, x3] h n (fun r h1 n1 => r = none ∧ zx_X E M Y q L (rest) h1 n1 cells slots)) : zx_X E M Y pc L (x3 :: x2 :: x1 :: .ref a :: rest) h n cells slots := by
  refine zx_callV (As := [x1, x2, x3]) (rest := rest) hd hq hw hc hci hr rfl hst (by rw [h0.1, h0.2]; exact hf) ok (fun r h1 n1 z => ?_)
  obtain ⟨e, k⟩ := z
  subst e
  rw [h0.1, h0.2]
  exact k
theorem zx_cV3i {a ci : Nat} {fs : List Value} {r : vw_C} {x1 x2 x3 : Value} (hd : decode M.2.2.1 pc = .ok (.invokevirtual idx, 3)) (hq : pc + 3 = q) (hw : zx_CV M M' idx y 3) (h0 : M'.2.2.2.2.2.2.1 = 0 ∧ M'.2.2.2.2.2.2.2 = 0) (hc : h a = some (.inr (ci, fs))) (hci : vwCl[ci]? = some r) (hr : r.1 = M'.1) (hst : (rest.map fun v => v.category).sum ≤ 8) (hf : cells ≤ M.2.2.2.2.2.1.cells ∧ slots ≤ M.2.2.2.2.2.1.slots)
    (ok : zx_Ok E y M' [.ref a, x1, x2, x3] h n (fun r h1 n1 => ∃ v : Int32, r = some (.int v) ∧ zx_X E M Y q L (.int v :: rest) h1 n1 cells slots)) : zx_X E M Y pc L (x3 :: x2 :: x1 :: .ref a :: rest) h n cells slots := by
  refine zx_callV (As := [x1, x2, x3]) (rest := rest) hd hq hw hc hci hr rfl hst (by rw [h0.1, h0.2]; exact hf) ok (fun r h1 n1 z => ?_)
  obtain ⟨v, e, k⟩ := z
  subst e
  rw [h0.1, h0.2]
  exact k
theorem zx_cV3l {a ci : Nat} {fs : List Value} {r : vw_C} {x1 x2 x3 : Value} (hd : decode M.2.2.1 pc = .ok (.invokevirtual idx, 3)) (hq : pc + 3 = q) (hw : zx_CV M M' idx y 3) (h0 : M'.2.2.2.2.2.2.1 = 0 ∧ M'.2.2.2.2.2.2.2 = 0) (hc : h a = some (.inr (ci, fs))) (hci : vwCl[ci]? = some r) (hr : r.1 = M'.1) (hst : (rest.map fun v => v.category).sum ≤ 8) (hf : cells ≤ M.2.2.2.2.2.1.cells ∧ slots ≤ M.2.2.2.2.2.1.slots)
    (ok : zx_Ok E y M' [.ref a, x1, x2, x3] h n (fun r h1 n1 => ∃ v : Int64, r = some (.long v) ∧ zx_X E M Y q L (.long v :: rest) h1 n1 cells slots)) : zx_X E M Y pc L (x3 :: x2 :: x1 :: .ref a :: rest) h n cells slots := by
  refine zx_callV (As := [x1, x2, x3]) (rest := rest) hd hq hw hc hci hr rfl hst (by rw [h0.1, h0.2]; exact hf) ok (fun r h1 n1 z => ?_)
  obtain ⟨v, e, k⟩ := z
  subst e
  rw [h0.1, h0.2]
  exact k
theorem zx_cV3a {a ci : Nat} {fs : List Value} {r : vw_C} {x1 x2 x3 : Value} (hd : decode M.2.2.1 pc = .ok (.invokevirtual idx, 3)) (hq : pc + 3 = q) (hw : zx_CV M M' idx y 3) (h0 : M'.2.2.2.2.2.2.1 = 0 ∧ M'.2.2.2.2.2.2.2 = 0) (hc : h a = some (.inr (ci, fs))) (hci : vwCl[ci]? = some r) (hr : r.1 = M'.1) (hst : (rest.map fun v => v.category).sum ≤ 8) (hf : cells ≤ M.2.2.2.2.2.1.cells ∧ slots ≤ M.2.2.2.2.2.1.slots)
    (ok : zx_Ok E y M' [.ref a, x1, x2, x3] h n (fun r h1 n1 => ∃ v : Nat, r = some (.ref v) ∧ zx_X E M Y q L (.ref v :: rest) h1 n1 cells slots)) : zx_X E M Y pc L (x3 :: x2 :: x1 :: .ref a :: rest) h n cells slots := by
  refine zx_callV (As := [x1, x2, x3]) (rest := rest) hd hq hw hc hci hr rfl hst (by rw [h0.1, h0.2]; exact hf) ok (fun r h1 n1 z => ?_)
  obtain ⟨v, e, k⟩ := z
  subst e
  rw [h0.1, h0.2]
  exact k
theorem zx_cV4v {a ci : Nat} {fs : List Value} {r : vw_C} {x1 x2 x3 x4 : Value} (hd : decode M.2.2.1 pc = .ok (.invokevirtual idx, 3)) (hq : pc + 3 = q) (hw : zx_CV M M' idx y 4) (h0 : M'.2.2.2.2.2.2.1 = 0 ∧ M'.2.2.2.2.2.2.2 = 0) (hc : h a = some (.inr (ci, fs))) (hci : vwCl[ci]? = some r) (hr : r.1 = M'.1) (hst : (rest.map fun v => v.category).sum ≤ 8) (hf : cells ≤ M.2.2.2.2.2.1.cells ∧ slots ≤ M.2.2.2.2.2.1.slots)
    (ok : zx_Ok E y M' [.ref a, x1, x2, x3, x4] h n (fun r h1 n1 => r = none ∧ zx_X E M Y q L (rest) h1 n1 cells slots)) : zx_X E M Y pc L (x4 :: x3 :: x2 :: x1 :: .ref a :: rest) h n cells slots := by
  refine zx_callV (As := [x1, x2, x3, x4]) (rest := rest) hd hq hw hc hci hr rfl hst (by rw [h0.1, h0.2]; exact hf) ok (fun r h1 n1 z => ?_)
  obtain ⟨e, k⟩ := z
  subst e
  rw [h0.1, h0.2]
  exact k
theorem zx_cV4i {a ci : Nat} {fs : List Value} {r : vw_C} {x1 x2 x3 x4 : Value} (hd : decode M.2.2.1 pc = .ok (.invokevirtual idx, 3)) (hq : pc + 3 = q) (hw : zx_CV M M' idx y 4) (h0 : M'.2.2.2.2.2.2.1 = 0 ∧ M'.2.2.2.2.2.2.2 = 0) (hc : h a = some (.inr (ci, fs))) (hci : vwCl[ci]? = some r) (hr : r.1 = M'.1) (hst : (rest.map fun v => v.category).sum ≤ 8) (hf : cells ≤ M.2.2.2.2.2.1.cells ∧ slots ≤ M.2.2.2.2.2.1.slots)
    (ok : zx_Ok E y M' [.ref a, x1, x2, x3, x4] h n (fun r h1 n1 => ∃ v : Int32, r = some (.int v) ∧ zx_X E M Y q L (.int v :: rest) h1 n1 cells slots)) : zx_X E M Y pc L (x4 :: x3 :: x2 :: x1 :: .ref a :: rest) h n cells slots := by
  refine zx_callV (As := [x1, x2, x3, x4]) (rest := rest) hd hq hw hc hci hr rfl hst (by rw [h0.1, h0.2]; exact hf) ok (fun r h1 n1 z => ?_)
  obtain ⟨v, e, k⟩ := z
  subst e
  rw [h0.1, h0.2]
  exact k
theorem zx_cV4l {a ci : Nat} {fs : List Value} {r : vw_C} {x1 x2 x3 x4 : Value} (hd : decode M.2.2.1 pc = .ok (.invokevirtual idx, 3)) (hq : pc + 3 = q) (hw : zx_CV M M' idx y 4) (h0 : M'.2.2.2.2.2.2.1 = 0 ∧ M'.2.2.2.2.2.2.2 = 0) (hc : h a = some (.inr (ci, fs))) (hci : vwCl[ci]? = some r) (hr : r.1 = M'.1) (hst : (rest.map fun v => v.category).sum ≤ 8) (hf : cells ≤ M.2.2.2.2.2.1.cells ∧ slots ≤ M.2.2.2.2.2.1.slots)
    (ok : zx_Ok E y M' [.ref a, x1, x2, x3, x4] h n (fun r h1 n1 => ∃ v : Int64, r = some (.long v) ∧ zx_X E M Y q L (.long v :: rest) h1 n1 cells slots)) : zx_X E M Y pc L (x4 :: x3 :: x2 :: x1 :: .ref a :: rest) h n cells slots := by
  refine zx_callV (As := [x1, x2, x3, x4]) (rest := rest) hd hq hw hc hci hr rfl hst (by rw [h0.1, h0.2]; exact hf) ok (fun r h1 n1 z => ?_)
  obtain ⟨v, e, k⟩ := z
  subst e
  rw [h0.1, h0.2]
  exact k
theorem zx_cV4a {a ci : Nat} {fs : List Value} {r : vw_C} {x1 x2 x3 x4 : Value} (hd : decode M.2.2.1 pc = .ok (.invokevirtual idx, 3)) (hq : pc + 3 = q) (hw : zx_CV M M' idx y 4) (h0 : M'.2.2.2.2.2.2.1 = 0 ∧ M'.2.2.2.2.2.2.2 = 0) (hc : h a = some (.inr (ci, fs))) (hci : vwCl[ci]? = some r) (hr : r.1 = M'.1) (hst : (rest.map fun v => v.category).sum ≤ 8) (hf : cells ≤ M.2.2.2.2.2.1.cells ∧ slots ≤ M.2.2.2.2.2.1.slots)
    (ok : zx_Ok E y M' [.ref a, x1, x2, x3, x4] h n (fun r h1 n1 => ∃ v : Nat, r = some (.ref v) ∧ zx_X E M Y q L (.ref v :: rest) h1 n1 cells slots)) : zx_X E M Y pc L (x4 :: x3 :: x2 :: x1 :: .ref a :: rest) h n cells slots := by
  refine zx_callV (As := [x1, x2, x3, x4]) (rest := rest) hd hq hw hc hci hr rfl hst (by rw [h0.1, h0.2]; exact hf) ok (fun r h1 n1 z => ?_)
  obtain ⟨v, e, k⟩ := z
  subst e
  rw [h0.1, h0.2]
  exact k
theorem zx_cV5v {a ci : Nat} {fs : List Value} {r : vw_C} {x1 x2 x3 x4 x5 : Value} (hd : decode M.2.2.1 pc = .ok (.invokevirtual idx, 3)) (hq : pc + 3 = q) (hw : zx_CV M M' idx y 5) (h0 : M'.2.2.2.2.2.2.1 = 0 ∧ M'.2.2.2.2.2.2.2 = 0) (hc : h a = some (.inr (ci, fs))) (hci : vwCl[ci]? = some r) (hr : r.1 = M'.1) (hst : (rest.map fun v => v.category).sum ≤ 8) (hf : cells ≤ M.2.2.2.2.2.1.cells ∧ slots ≤ M.2.2.2.2.2.1.slots)
    (ok : zx_Ok E y M' [.ref a, x1, x2, x3, x4, x5] h n (fun r h1 n1 => r = none ∧ zx_X E M Y q L (rest) h1 n1 cells slots)) : zx_X E M Y pc L (x5 :: x4 :: x3 :: x2 :: x1 :: .ref a :: rest) h n cells slots := by
  refine zx_callV (As := [x1, x2, x3, x4, x5]) (rest := rest) hd hq hw hc hci hr rfl hst (by rw [h0.1, h0.2]; exact hf) ok (fun r h1 n1 z => ?_)
  obtain ⟨e, k⟩ := z
  subst e
  rw [h0.1, h0.2]
  exact k
theorem zx_cV5i {a ci : Nat} {fs : List Value} {r : vw_C} {x1 x2 x3 x4 x5 : Value} (hd : decode M.2.2.1 pc = .ok (.invokevirtual idx, 3)) (hq : pc + 3 = q) (hw : zx_CV M M' idx y 5) (h0 : M'.2.2.2.2.2.2.1 = 0 ∧ M'.2.2.2.2.2.2.2 = 0) (hc : h a = some (.inr (ci, fs))) (hci : vwCl[ci]? = some r) (hr : r.1 = M'.1) (hst : (rest.map fun v => v.category).sum ≤ 8) (hf : cells ≤ M.2.2.2.2.2.1.cells ∧ slots ≤ M.2.2.2.2.2.1.slots)
    (ok : zx_Ok E y M' [.ref a, x1, x2, x3, x4, x5] h n (fun r h1 n1 => ∃ v : Int32, r = some (.int v) ∧ zx_X E M Y q L (.int v :: rest) h1 n1 cells slots)) : zx_X E M Y pc L (x5 :: x4 :: x3 :: x2 :: x1 :: .ref a :: rest) h n cells slots := by
  refine zx_callV (As := [x1, x2, x3, x4, x5]) (rest := rest) hd hq hw hc hci hr rfl hst (by rw [h0.1, h0.2]; exact hf) ok (fun r h1 n1 z => ?_)
  obtain ⟨v, e, k⟩ := z
  subst e
  rw [h0.1, h0.2]
  exact k
theorem zx_cV5l {a ci : Nat} {fs : List Value} {r : vw_C} {x1 x2 x3 x4 x5 : Value} (hd : decode M.2.2.1 pc = .ok (.invokevirtual idx, 3)) (hq : pc + 3 = q) (hw : zx_CV M M' idx y 5) (h0 : M'.2.2.2.2.2.2.1 = 0 ∧ M'.2.2.2.2.2.2.2 = 0) (hc : h a = some (.inr (ci, fs))) (hci : vwCl[ci]? = some r) (hr : r.1 = M'.1) (hst : (rest.map fun v => v.category).sum ≤ 8) (hf : cells ≤ M.2.2.2.2.2.1.cells ∧ slots ≤ M.2.2.2.2.2.1.slots)
    (ok : zx_Ok E y M' [.ref a, x1, x2, x3, x4, x5] h n (fun r h1 n1 => ∃ v : Int64, r = some (.long v) ∧ zx_X E M Y q L (.long v :: rest) h1 n1 cells slots)) : zx_X E M Y pc L (x5 :: x4 :: x3 :: x2 :: x1 :: .ref a :: rest) h n cells slots := by
  refine zx_callV (As := [x1, x2, x3, x4, x5]) (rest := rest) hd hq hw hc hci hr rfl hst (by rw [h0.1, h0.2]; exact hf) ok (fun r h1 n1 z => ?_)
  obtain ⟨v, e, k⟩ := z
  subst e
  rw [h0.1, h0.2]
  exact k
theorem zx_cV5a {a ci : Nat} {fs : List Value} {r : vw_C} {x1 x2 x3 x4 x5 : Value} (hd : decode M.2.2.1 pc = .ok (.invokevirtual idx, 3)) (hq : pc + 3 = q) (hw : zx_CV M M' idx y 5) (h0 : M'.2.2.2.2.2.2.1 = 0 ∧ M'.2.2.2.2.2.2.2 = 0) (hc : h a = some (.inr (ci, fs))) (hci : vwCl[ci]? = some r) (hr : r.1 = M'.1) (hst : (rest.map fun v => v.category).sum ≤ 8) (hf : cells ≤ M.2.2.2.2.2.1.cells ∧ slots ≤ M.2.2.2.2.2.1.slots)
    (ok : zx_Ok E y M' [.ref a, x1, x2, x3, x4, x5] h n (fun r h1 n1 => ∃ v : Nat, r = some (.ref v) ∧ zx_X E M Y q L (.ref v :: rest) h1 n1 cells slots)) : zx_X E M Y pc L (x5 :: x4 :: x3 :: x2 :: x1 :: .ref a :: rest) h n cells slots := by
  refine zx_callV (As := [x1, x2, x3, x4, x5]) (rest := rest) hd hq hw hc hci hr rfl hst (by rw [h0.1, h0.2]; exact hf) ok (fun r h1 n1 z => ?_)
  obtain ⟨v, e, k⟩ := z
  subst e
  rw [h0.1, h0.2]
  exact k
theorem zx_cV6v {a ci : Nat} {fs : List Value} {r : vw_C} {x1 x2 x3 x4 x5 x6 : Value} (hd : decode M.2.2.1 pc = .ok (.invokevirtual idx, 3)) (hq : pc + 3 = q) (hw : zx_CV M M' idx y 6) (h0 : M'.2.2.2.2.2.2.1 = 0 ∧ M'.2.2.2.2.2.2.2 = 0) (hc : h a = some (.inr (ci, fs))) (hci : vwCl[ci]? = some r) (hr : r.1 = M'.1) (hst : (rest.map fun v => v.category).sum ≤ 8) (hf : cells ≤ M.2.2.2.2.2.1.cells ∧ slots ≤ M.2.2.2.2.2.1.slots)
    (ok : zx_Ok E y M' [.ref a, x1, x2, x3, x4, x5, x6] h n (fun r h1 n1 => r = none ∧ zx_X E M Y q L (rest) h1 n1 cells slots)) : zx_X E M Y pc L (x6 :: x5 :: x4 :: x3 :: x2 :: x1 :: .ref a :: rest) h n cells slots := by
  refine zx_callV (As := [x1, x2, x3, x4, x5, x6]) (rest := rest) hd hq hw hc hci hr rfl hst (by rw [h0.1, h0.2]; exact hf) ok (fun r h1 n1 z => ?_)
  obtain ⟨e, k⟩ := z
  subst e
  rw [h0.1, h0.2]
  exact k
theorem zx_cV6i {a ci : Nat} {fs : List Value} {r : vw_C} {x1 x2 x3 x4 x5 x6 : Value} (hd : decode M.2.2.1 pc = .ok (.invokevirtual idx, 3)) (hq : pc + 3 = q) (hw : zx_CV M M' idx y 6) (h0 : M'.2.2.2.2.2.2.1 = 0 ∧ M'.2.2.2.2.2.2.2 = 0) (hc : h a = some (.inr (ci, fs))) (hci : vwCl[ci]? = some r) (hr : r.1 = M'.1) (hst : (rest.map fun v => v.category).sum ≤ 8) (hf : cells ≤ M.2.2.2.2.2.1.cells ∧ slots ≤ M.2.2.2.2.2.1.slots)
    (ok : zx_Ok E y M' [.ref a, x1, x2, x3, x4, x5, x6] h n (fun r h1 n1 => ∃ v : Int32, r = some (.int v) ∧ zx_X E M Y q L (.int v :: rest) h1 n1 cells slots)) : zx_X E M Y pc L (x6 :: x5 :: x4 :: x3 :: x2 :: x1 :: .ref a :: rest) h n cells slots := by
  refine zx_callV (As := [x1, x2, x3, x4, x5, x6]) (rest := rest) hd hq hw hc hci hr rfl hst (by rw [h0.1, h0.2]; exact hf) ok (fun r h1 n1 z => ?_)
  obtain ⟨v, e, k⟩ := z
  subst e
  rw [h0.1, h0.2]
  exact k
theorem zx_cV6l {a ci : Nat} {fs : List Value} {r : vw_C} {x1 x2 x3 x4 x5 x6 : Value} (hd : decode M.2.2.1 pc = .ok (.invokevirtual idx, 3)) (hq : pc + 3 = q) (hw : zx_CV M M' idx y 6) (h0 : M'.2.2.2.2.2.2.1 = 0 ∧ M'.2.2.2.2.2.2.2 = 0) (hc : h a = some (.inr (ci, fs))) (hci : vwCl[ci]? = some r) (hr : r.1 = M'.1) (hst : (rest.map fun v => v.category).sum ≤ 8) (hf : cells ≤ M.2.2.2.2.2.1.cells ∧ slots ≤ M.2.2.2.2.2.1.slots)
    (ok : zx_Ok E y M' [.ref a, x1, x2, x3, x4, x5, x6] h n (fun r h1 n1 => ∃ v : Int64, r = some (.long v) ∧ zx_X E M Y q L (.long v :: rest) h1 n1 cells slots)) : zx_X E M Y pc L (x6 :: x5 :: x4 :: x3 :: x2 :: x1 :: .ref a :: rest) h n cells slots := by
  refine zx_callV (As := [x1, x2, x3, x4, x5, x6]) (rest := rest) hd hq hw hc hci hr rfl hst (by rw [h0.1, h0.2]; exact hf) ok (fun r h1 n1 z => ?_)
  obtain ⟨v, e, k⟩ := z
  subst e
  rw [h0.1, h0.2]
  exact k
theorem zx_cV6a {a ci : Nat} {fs : List Value} {r : vw_C} {x1 x2 x3 x4 x5 x6 : Value} (hd : decode M.2.2.1 pc = .ok (.invokevirtual idx, 3)) (hq : pc + 3 = q) (hw : zx_CV M M' idx y 6) (h0 : M'.2.2.2.2.2.2.1 = 0 ∧ M'.2.2.2.2.2.2.2 = 0) (hc : h a = some (.inr (ci, fs))) (hci : vwCl[ci]? = some r) (hr : r.1 = M'.1) (hst : (rest.map fun v => v.category).sum ≤ 8) (hf : cells ≤ M.2.2.2.2.2.1.cells ∧ slots ≤ M.2.2.2.2.2.1.slots)
    (ok : zx_Ok E y M' [.ref a, x1, x2, x3, x4, x5, x6] h n (fun r h1 n1 => ∃ v : Nat, r = some (.ref v) ∧ zx_X E M Y q L (.ref v :: rest) h1 n1 cells slots)) : zx_X E M Y pc L (x6 :: x5 :: x4 :: x3 :: x2 :: x1 :: .ref a :: rest) h n cells slots := by
  refine zx_callV (As := [x1, x2, x3, x4, x5, x6]) (rest := rest) hd hq hw hc hci hr rfl hst (by rw [h0.1, h0.2]; exact hf) ok (fun r h1 n1 z => ?_)
  obtain ⟨v, e, k⟩ := z
  subst e
  rw [h0.1, h0.2]
  exact k
theorem zx_cV7v {a ci : Nat} {fs : List Value} {r : vw_C} {x1 x2 x3 x4 x5 x6 x7 : Value} (hd : decode M.2.2.1 pc = .ok (.invokevirtual idx, 3)) (hq : pc + 3 = q) (hw : zx_CV M M' idx y 7) (h0 : M'.2.2.2.2.2.2.1 = 0 ∧ M'.2.2.2.2.2.2.2 = 0) (hc : h a = some (.inr (ci, fs))) (hci : vwCl[ci]? = some r) (hr : r.1 = M'.1) (hst : (rest.map fun v => v.category).sum ≤ 8) (hf : cells ≤ M.2.2.2.2.2.1.cells ∧ slots ≤ M.2.2.2.2.2.1.slots)
    (ok : zx_Ok E y M' [.ref a, x1, x2, x3, x4, x5, x6, x7] h n (fun r h1 n1 => r = none ∧ zx_X E M Y q L (rest) h1 n1 cells slots)) : zx_X E M Y pc L (x7 :: x6 :: x5 :: x4 :: x3 :: x2 :: x1 :: .ref a :: rest) h n cells slots := by
  refine zx_callV (As := [x1, x2, x3, x4, x5, x6, x7]) (rest := rest) hd hq hw hc hci hr rfl hst (by rw [h0.1, h0.2]; exact hf) ok (fun r h1 n1 z => ?_)
  obtain ⟨e, k⟩ := z
  subst e
  rw [h0.1, h0.2]
  exact k
theorem zx_cV7i {a ci : Nat} {fs : List Value} {r : vw_C} {x1 x2 x3 x4 x5 x6 x7 : Value} (hd : decode M.2.2.1 pc = .ok (.invokevirtual idx, 3)) (hq : pc + 3 = q) (hw : zx_CV M M' idx y 7) (h0 : M'.2.2.2.2.2.2.1 = 0 ∧ M'.2.2.2.2.2.2.2 = 0) (hc : h a = some (.inr (ci, fs))) (hci : vwCl[ci]? = some r) (hr : r.1 = M'.1) (hst : (rest.map fun v => v.category).sum ≤ 8) (hf : cells ≤ M.2.2.2.2.2.1.cells ∧ slots ≤ M.2.2.2.2.2.1.slots)
    (ok : zx_Ok E y M' [.ref a, x1, x2, x3, x4, x5, x6, x7] h n (fun r h1 n1 => ∃ v : Int32, r = some (.int v) ∧ zx_X E M Y q L (.int v :: rest) h1 n1 cells slots)) : zx_X E M Y pc L (x7 :: x6 :: x5 :: x4 :: x3 :: x2 :: x1 :: .ref a :: rest) h n cells slots := by
  refine zx_callV (As := [x1, x2, x3, x4, x5, x6, x7]) (rest := rest) hd hq hw hc hci hr rfl hst (by rw [h0.1, h0.2]; exact hf) ok (fun r h1 n1 z => ?_)
  obtain ⟨v, e, k⟩ := z
  subst e
  rw [h0.1, h0.2]
  exact k
theorem zx_cV7l {a ci : Nat} {fs : List Value} {r : vw_C} {x1 x2 x3 x4 x5 x6 x7 : Value} (hd : decode M.2.2.1 pc = .ok (.invokevirtual idx, 3)) (hq : pc + 3 = q) (hw : zx_CV M M' idx y 7) (h0 : M'.2.2.2.2.2.2.1 = 0 ∧ M'.2.2.2.2.2.2.2 = 0) (hc : h a = some (.inr (ci, fs))) (hci : vwCl[ci]? = some r) (hr : r.1 = M'.1) (hst : (rest.map fun v => v.category).sum ≤ 8) (hf : cells ≤ M.2.2.2.2.2.1.cells ∧ slots ≤ M.2.2.2.2.2.1.slots)
    (ok : zx_Ok E y M' [.ref a, x1, x2, x3, x4, x5, x6, x7] h n (fun r h1 n1 => ∃ v : Int64, r = some (.long v) ∧ zx_X E M Y q L (.long v :: rest) h1 n1 cells slots)) : zx_X E M Y pc L (x7 :: x6 :: x5 :: x4 :: x3 :: x2 :: x1 :: .ref a :: rest) h n cells slots := by
  refine zx_callV (As := [x1, x2, x3, x4, x5, x6, x7]) (rest := rest) hd hq hw hc hci hr rfl hst (by rw [h0.1, h0.2]; exact hf) ok (fun r h1 n1 z => ?_)
  obtain ⟨v, e, k⟩ := z
  subst e
  rw [h0.1, h0.2]
  exact k
theorem zx_cV7a {a ci : Nat} {fs : List Value} {r : vw_C} {x1 x2 x3 x4 x5 x6 x7 : Value} (hd : decode M.2.2.1 pc = .ok (.invokevirtual idx, 3)) (hq : pc + 3 = q) (hw : zx_CV M M' idx y 7) (h0 : M'.2.2.2.2.2.2.1 = 0 ∧ M'.2.2.2.2.2.2.2 = 0) (hc : h a = some (.inr (ci, fs))) (hci : vwCl[ci]? = some r) (hr : r.1 = M'.1) (hst : (rest.map fun v => v.category).sum ≤ 8) (hf : cells ≤ M.2.2.2.2.2.1.cells ∧ slots ≤ M.2.2.2.2.2.1.slots)
    (ok : zx_Ok E y M' [.ref a, x1, x2, x3, x4, x5, x6, x7] h n (fun r h1 n1 => ∃ v : Nat, r = some (.ref v) ∧ zx_X E M Y q L (.ref v :: rest) h1 n1 cells slots)) : zx_X E M Y pc L (x7 :: x6 :: x5 :: x4 :: x3 :: x2 :: x1 :: .ref a :: rest) h n cells slots := by
  refine zx_callV (As := [x1, x2, x3, x4, x5, x6, x7]) (rest := rest) hd hq hw hc hci hr rfl hst (by rw [h0.1, h0.2]; exact hf) ok (fun r h1 n1 z => ?_)
  obtain ⟨v, e, k⟩ := z
  subst e
  rw [h0.1, h0.2]
  exact k
theorem zx_cI0v {a : Nat} (hd : decode M.2.2.1 pc = .ok (.invokespecial idx, 3)) (hq : pc + 3 = q) (hw : zx_CI M M' idx y 0) (h0 : M'.2.2.2.2.2.2.1 = 0 ∧ M'.2.2.2.2.2.2.2 = 0) (hst : (rest.map fun v => v.category).sum ≤ 8) (hf : cells ≤ M.2.2.2.2.2.1.cells ∧ slots ≤ M.2.2.2.2.2.1.slots)
    (ok : zx_Ok E y M' [.ref a] h n (fun r h1 n1 => r = none ∧ zx_X E M Y q L (rest) h1 n1 cells slots)) : zx_X E M Y pc L (.ref a :: rest) h n cells slots := by
  refine zx_callI (As := []) (rest := rest) hd hq hw rfl hst (by rw [h0.1, h0.2]; exact hf) ok (fun r h1 n1 z => ?_)
  obtain ⟨e, k⟩ := z
  subst e
  rw [h0.1, h0.2]
  exact k
theorem zx_cI1v {a : Nat} {x1 : Value} (hd : decode M.2.2.1 pc = .ok (.invokespecial idx, 3)) (hq : pc + 3 = q) (hw : zx_CI M M' idx y 1) (h0 : M'.2.2.2.2.2.2.1 = 0 ∧ M'.2.2.2.2.2.2.2 = 0) (hst : (rest.map fun v => v.category).sum ≤ 8) (hf : cells ≤ M.2.2.2.2.2.1.cells ∧ slots ≤ M.2.2.2.2.2.1.slots)
    (ok : zx_Ok E y M' [.ref a, x1] h n (fun r h1 n1 => r = none ∧ zx_X E M Y q L (rest) h1 n1 cells slots)) : zx_X E M Y pc L (x1 :: .ref a :: rest) h n cells slots := by
  refine zx_callI (As := [x1]) (rest := rest) hd hq hw rfl hst (by rw [h0.1, h0.2]; exact hf) ok (fun r h1 n1 z => ?_)
  obtain ⟨e, k⟩ := z
  subst e
  rw [h0.1, h0.2]
  exact k
theorem zx_cI2v {a : Nat} {x1 x2 : Value} (hd : decode M.2.2.1 pc = .ok (.invokespecial idx, 3)) (hq : pc + 3 = q) (hw : zx_CI M M' idx y 2) (h0 : M'.2.2.2.2.2.2.1 = 0 ∧ M'.2.2.2.2.2.2.2 = 0) (hst : (rest.map fun v => v.category).sum ≤ 8) (hf : cells ≤ M.2.2.2.2.2.1.cells ∧ slots ≤ M.2.2.2.2.2.1.slots)
    (ok : zx_Ok E y M' [.ref a, x1, x2] h n (fun r h1 n1 => r = none ∧ zx_X E M Y q L (rest) h1 n1 cells slots)) : zx_X E M Y pc L (x2 :: x1 :: .ref a :: rest) h n cells slots := by
  refine zx_callI (As := [x1, x2]) (rest := rest) hd hq hw rfl hst (by rw [h0.1, h0.2]; exact hf) ok (fun r h1 n1 z => ?_)
  obtain ⟨e, k⟩ := z
  subst e
  rw [h0.1, h0.2]
  exact k
theorem zx_cI3v {a : Nat} {x1 x2 x3 : Value} (hd : decode M.2.2.1 pc = .ok (.invokespecial idx, 3)) (hq : pc + 3 = q) (hw : zx_CI M M' idx y 3) (h0 : M'.2.2.2.2.2.2.1 = 0 ∧ M'.2.2.2.2.2.2.2 = 0) (hst : (rest.map fun v => v.category).sum ≤ 8) (hf : cells ≤ M.2.2.2.2.2.1.cells ∧ slots ≤ M.2.2.2.2.2.1.slots)
    (ok : zx_Ok E y M' [.ref a, x1, x2, x3] h n (fun r h1 n1 => r = none ∧ zx_X E M Y q L (rest) h1 n1 cells slots)) : zx_X E M Y pc L (x3 :: x2 :: x1 :: .ref a :: rest) h n cells slots := by
  refine zx_callI (As := [x1, x2, x3]) (rest := rest) hd hq hw rfl hst (by rw [h0.1, h0.2]; exact hf) ok (fun r h1 n1 z => ?_)
  obtain ⟨e, k⟩ := z
  subst e
  rw [h0.1, h0.2]
  exact k
theorem zx_cI4v {a : Nat} {x1 x2 x3 x4 : Value} (hd : decode M.2.2.1 pc = .ok (.invokespecial idx, 3)) (hq : pc + 3 = q) (hw : zx_CI M M' idx y 4) (h0 : M'.2.2.2.2.2.2.1 = 0 ∧ M'.2.2.2.2.2.2.2 = 0) (hst : (rest.map fun v => v.category).sum ≤ 8) (hf : cells ≤ M.2.2.2.2.2.1.cells ∧ slots ≤ M.2.2.2.2.2.1.slots)
    (ok : zx_Ok E y M' [.ref a, x1, x2, x3, x4] h n (fun r h1 n1 => r = none ∧ zx_X E M Y q L (rest) h1 n1 cells slots)) : zx_X E M Y pc L (x4 :: x3 :: x2 :: x1 :: .ref a :: rest) h n cells slots := by
  refine zx_callI (As := [x1, x2, x3, x4]) (rest := rest) hd hq hw rfl hst (by rw [h0.1, h0.2]; exact hf) ok (fun r h1 n1 z => ?_)
  obtain ⟨e, k⟩ := z
  subst e
  rw [h0.1, h0.2]
  exact k
theorem zx_cI5v {a : Nat} {x1 x2 x3 x4 x5 : Value} (hd : decode M.2.2.1 pc = .ok (.invokespecial idx, 3)) (hq : pc + 3 = q) (hw : zx_CI M M' idx y 5) (h0 : M'.2.2.2.2.2.2.1 = 0 ∧ M'.2.2.2.2.2.2.2 = 0) (hst : (rest.map fun v => v.category).sum ≤ 8) (hf : cells ≤ M.2.2.2.2.2.1.cells ∧ slots ≤ M.2.2.2.2.2.1.slots)
    (ok : zx_Ok E y M' [.ref a, x1, x2, x3, x4, x5] h n (fun r h1 n1 => r = none ∧ zx_X E M Y q L (rest) h1 n1 cells slots)) : zx_X E M Y pc L (x5 :: x4 :: x3 :: x2 :: x1 :: .ref a :: rest) h n cells slots := by
  refine zx_callI (As := [x1, x2, x3, x4, x5]) (rest := rest) hd hq hw rfl hst (by rw [h0.1, h0.2]; exact hf) ok (fun r h1 n1 z => ?_)
  obtain ⟨e, k⟩ := z
  subst e
  rw [h0.1, h0.2]
  exact k
theorem zx_cI6v {a : Nat} {x1 x2 x3 x4 x5 x6 : Value} (hd : decode M.2.2.1 pc = .ok (.invokespecial idx, 3)) (hq : pc + 3 = q) (hw : zx_CI M M' idx y 6) (h0 : M'.2.2.2.2.2.2.1 = 0 ∧ M'.2.2.2.2.2.2.2 = 0) (hst : (rest.map fun v => v.category).sum ≤ 8) (hf : cells ≤ M.2.2.2.2.2.1.cells ∧ slots ≤ M.2.2.2.2.2.1.slots)
    (ok : zx_Ok E y M' [.ref a, x1, x2, x3, x4, x5, x6] h n (fun r h1 n1 => r = none ∧ zx_X E M Y q L (rest) h1 n1 cells slots)) : zx_X E M Y pc L (x6 :: x5 :: x4 :: x3 :: x2 :: x1 :: .ref a :: rest) h n cells slots := by
  refine zx_callI (As := [x1, x2, x3, x4, x5, x6]) (rest := rest) hd hq hw rfl hst (by rw [h0.1, h0.2]; exact hf) ok (fun r h1 n1 z => ?_)
  obtain ⟨e, k⟩ := z
  subst e
  rw [h0.1, h0.2]
  exact k
theorem zx_cI7v {a : Nat} {x1 x2 x3 x4 x5 x6 x7 : Value} (hd : decode M.2.2.1 pc = .ok (.invokespecial idx, 3)) (hq : pc + 3 = q) (hw : zx_CI M M' idx y 7) (h0 : M'.2.2.2.2.2.2.1 = 0 ∧ M'.2.2.2.2.2.2.2 = 0) (hst : (rest.map fun v => v.category).sum ≤ 8) (hf : cells ≤ M.2.2.2.2.2.1.cells ∧ slots ≤ M.2.2.2.2.2.1.slots)
    (ok : zx_Ok E y M' [.ref a, x1, x2, x3, x4, x5, x6, x7] h n (fun r h1 n1 => r = none ∧ zx_X E M Y q L (rest) h1 n1 cells slots)) : zx_X E M Y pc L (x7 :: x6 :: x5 :: x4 :: x3 :: x2 :: x1 :: .ref a :: rest) h n cells slots := by
  refine zx_callI (As := [x1, x2, x3, x4, x5, x6, x7]) (rest := rest) hd hq hw rfl hst (by rw [h0.1, h0.2]; exact hf) ok (fun r h1 n1 z => ?_)
  obtain ⟨e, k⟩ := z
  subst e
  rw [h0.1, h0.2]
  exact k
theorem zx_cS0v (hd : decode M.2.2.1 pc = .ok (.invokestatic idx, 3)) (hq : pc + 3 = q) (hw : zx_CS M M' idx y 0) (h0 : M'.2.2.2.2.2.2.1 = 0 ∧ M'.2.2.2.2.2.2.2 = 0) (hst : (rest.map fun v => v.category).sum ≤ 8) (hf : cells ≤ M.2.2.2.2.2.1.cells ∧ slots ≤ M.2.2.2.2.2.1.slots)
    (ok : zx_Ok E y M' [] h n (fun r h1 n1 => r = none ∧ zx_X E M Y q L (rest) h1 n1 cells slots)) : zx_X E M Y pc L (rest) h n cells slots := by
  refine zx_callS (As := []) (rest := rest) hd hq hw rfl hst (by rw [h0.1, h0.2]; exact hf) ok (fun r h1 n1 z => ?_)
  obtain ⟨e, k⟩ := z
  subst e
  rw [h0.1, h0.2]
  exact k
theorem zx_cS0i (hd : decode M.2.2.1 pc = .ok (.invokestatic idx, 3)) (hq : pc + 3 = q) (hw : zx_CS M M' idx y 0) (h0 : M'.2.2.2.2.2.2.1 = 0 ∧ M'.2.2.2.2.2.2.2 = 0) (hst : (rest.map fun v => v.category).sum ≤ 8) (hf : cells ≤ M.2.2.2.2.2.1.cells ∧ slots ≤ M.2.2.2.2.2.1.slots)
    (ok : zx_Ok E y M' [] h n (fun r h1 n1 => ∃ v : Int32, r = some (.int v) ∧ zx_X E M Y q L (.int v :: rest) h1 n1 cells slots)) : zx_X E M Y pc L (rest) h n cells slots := by
  refine zx_callS (As := []) (rest := rest) hd hq hw rfl hst (by rw [h0.1, h0.2]; exact hf) ok (fun r h1 n1 z => ?_)
  obtain ⟨v, e, k⟩ := z
  subst e
  rw [h0.1, h0.2]
  exact k
theorem zx_cS0l (hd : decode M.2.2.1 pc = .ok (.invokestatic idx, 3)) (hq : pc + 3 = q) (hw : zx_CS M M' idx y 0) (h0 : M'.2.2.2.2.2.2.1 = 0 ∧ M'.2.2.2.2.2.2.2 = 0) (hst : (rest.map fun v => v.category).sum ≤ 8) (hf : cells ≤ M.2.2.2.2.2.1.cells ∧ slots ≤ M.2.2.2.2.2.1.slots)
    (ok : zx_Ok E y M' [] h n (fun r h1 n1 => ∃ v : Int64, r = some (.long v) ∧ zx_X E M Y q L (.long v :: rest) h1 n1 cells slots)) : zx_X E M Y pc L (rest) h n cells slots := by
  refine zx_callS (As := []) (rest := rest) hd hq hw rfl hst (by rw [h0.1, h0.2]; exact hf) ok (fun r h1 n1 z => ?_)
  obtain ⟨v, e, k⟩ := z
  subst e
  rw [h0.1, h0.2]
  exact k
theorem zx_cS0a (hd : decode M.2.2.1 pc = .ok (.invokestatic idx, 3)) (hq : pc + 3 = q) (hw : zx_CS M M' idx y 0) (h0 : M'.2.2.2.2.2.2.1 = 0 ∧ M'.2.2.2.2.2.2.2 = 0) (hst : (rest.map fun v => v.category).sum ≤ 8) (hf : cells ≤ M.2.2.2.2.2.1.cells ∧ slots ≤ M.2.2.2.2.2.1.slots)
    (ok : zx_Ok E y M' [] h n (fun r h1 n1 => ∃ v : Nat, r = some (.ref v) ∧ zx_X E M Y q L (.ref v :: rest) h1 n1 cells slots)) : zx_X E M Y pc L (rest) h n cells slots := by
  refine zx_callS (As := []) (rest := rest) hd hq hw rfl hst (by rw [h0.1, h0.2]; exact hf) ok (fun r h1 n1 z => ?_)
  obtain ⟨v, e, k⟩ := z
  subst e
  rw [h0.1, h0.2]
  exact k
theorem zx_cS1v {x1 : Value} (hd : decode M.2.2.1 pc = .ok (.invokestatic idx, 3)) (hq : pc + 3 = q) (hw : zx_CS M M' idx y 1) (h0 : M'.2.2.2.2.2.2.1 = 0 ∧ M'.2.2.2.2.2.2.2 = 0) (hst : (rest.map fun v => v.category).sum ≤ 8) (hf : cells ≤ M.2.2.2.2.2.1.cells ∧ slots ≤ M.2.2.2.2.2.1.slots)
    (ok : zx_Ok E y M' [x1] h n (fun r h1 n1 => r = none ∧ zx_X E M Y q L (rest) h1 n1 cells slots)) : zx_X E M Y pc L (x1 :: rest) h n cells slots := by
  refine zx_callS (As := [x1]) (rest := rest) hd hq hw rfl hst (by rw [h0.1, h0.2]; exact hf) ok (fun r h1 n1 z => ?_)
  obtain ⟨e, k⟩ := z
  subst e
  rw [h0.1, h0.2]
  exact k
theorem zx_cS1i {x1 : Value} (hd : decode M.2.2.1 pc = .ok (.invokestatic idx, 3)) (hq : pc + 3 = q) (hw : zx_CS M M' idx y 1) (h0 : M'.2.2.2.2.2.2.1 = 0 ∧ M'.2.2.2.2.2.2.2 = 0) (hst : (rest.map fun v => v.category).sum ≤ 8) (hf : cells ≤ M.2.2.2.2.2.1.cells ∧ slots ≤ M.2.2.2.2.2.1.slots)
    (ok : zx_Ok E y M' [x1] h n (fun r h1 n1 => ∃ v : Int32, r = some (.int v) ∧ zx_X E M Y q L (.int v :: rest) h1 n1 cells slots)) : zx_X E M Y pc L (x1 :: rest) h n cells slots := by
  refine zx_callS (As := [x1]) (rest := rest) hd hq hw rfl hst (by rw [h0.1, h0.2]; exact hf) ok (fun r h1 n1 z => ?_)
  obtain ⟨v, e, k⟩ := z
  subst e
  rw [h0.1, h0.2]
  exact k
theorem zx_cS1l {x1 : Value} (hd : decode M.2.2.1 pc = .ok (.invokestatic idx, 3)) (hq : pc + 3 = q) (hw : zx_CS M M' idx y 1) (h0 : M'.2.2.2.2.2.2.1 = 0 ∧ M'.2.2.2.2.2.2.2 = 0) (hst : (rest.map fun v => v.category).sum ≤ 8) (hf : cells ≤ M.2.2.2.2.2.1.cells ∧ slots ≤ M.2.2.2.2.2.1.slots)
    (ok : zx_Ok E y M' [x1] h n (fun r h1 n1 => ∃ v : Int64, r = some (.long v) ∧ zx_X E M Y q L (.long v :: rest) h1 n1 cells slots)) : zx_X E M Y pc L (x1 :: rest) h n cells slots := by
  refine zx_callS (As := [x1]) (rest := rest) hd hq hw rfl hst (by rw [h0.1, h0.2]; exact hf) ok (fun r h1 n1 z => ?_)
  obtain ⟨v, e, k⟩ := z
  subst e
  rw [h0.1, h0.2]
  exact k
theorem zx_cS1a {x1 : Value} (hd : decode M.2.2.1 pc = .ok (.invokestatic idx, 3)) (hq : pc + 3 = q) (hw : zx_CS M M' idx y 1) (h0 : M'.2.2.2.2.2.2.1 = 0 ∧ M'.2.2.2.2.2.2.2 = 0) (hst : (rest.map fun v => v.category).sum ≤ 8) (hf : cells ≤ M.2.2.2.2.2.1.cells ∧ slots ≤ M.2.2.2.2.2.1.slots)
    (ok : zx_Ok E y M' [x1] h n (fun r h1 n1 => ∃ v : Nat, r = some (.ref v) ∧ zx_X E M Y q L (.ref v :: rest) h1 n1 cells slots)) : zx_X E M Y pc L (x1 :: rest) h n cells slots := by
  refine zx_callS (As := [x1]) (rest := rest) hd hq hw rfl hst (by rw [h0.1, h0.2]; exact hf) ok (fun r h1 n1 z => ?_)
  obtain ⟨v, e, k⟩ := z
  subst e
  rw [h0.1, h0.2]
  exact k
theorem zx_cS2v {x1 x2 : Value} (hd : decode M.2.2.1 pc = .ok (.invokestatic idx, 3)) (hq : pc + 3 = q) (hw : zx_CS M M' idx y 2) (h0 : M'.2.2.2.2.2.2.1 = 0 ∧ M'.2.2.2.2.2.2.2 = 0) (hst : (rest.map fun v => v.category).sum ≤ 8) (hf : cells ≤ M.2.2.2.2.2.1.cells ∧ slots ≤ M.2.2.2.2.2.1.slots)
    (ok : zx_Ok E y M' [x1, x2] h n (fun r h1 n1 => r = none ∧ zx_X E M Y q L (rest) h1 n1 cells slots)) : zx_X E M Y pc L (x2 :: x1 :: rest) h n cells slots := by
  refine zx_callS (As := [x1, x2]) (rest := rest) hd hq hw rfl hst (by rw [h0.1, h0.2]; exact hf) ok (fun r h1 n1 z => ?_)
  obtain ⟨e, k⟩ := z
  subst e
  rw [h0.1, h0.2]
  exact k
theorem zx_cS2i {x1 x2 : Value} (hd : decode M.2.2.1 pc = .ok (.invokestatic idx, 3)) (hq : pc + 3 = q) (hw : zx_CS M M' idx y 2) (h0 : M'.2.2.2.2.2.2.1 = 0 ∧ M'.2.2.2.2.2.2.2 = 0) (hst : (rest.map fun v => v.category).sum ≤ 8) (hf : cells ≤ M.2.2.2.2.2.1.cells ∧ slots ≤ M.2.2.2.2.2.1.slots)
    (ok : zx_Ok E y M' [x1, x2] h n (fun r h1 n1 => ∃ v : Int32, r = some (.int v) ∧ zx_X E M Y q L (.int v :: rest) h1 n1 cells slots)) : zx_X E M Y pc L (x2 :: x1 :: rest) h n cells slots := by
  refine zx_callS (As := [x1, x2]) (rest := rest) hd hq hw rfl hst (by rw [h0.1, h0.2]; exact hf) ok (fun r h1 n1 z => ?_)
  obtain ⟨v, e, k⟩ := z
  subst e
  rw [h0.1, h0.2]
  exact k
theorem zx_cS2l {x1 x2 : Value} (hd : decode M.2.2.1 pc = .ok (.invokestatic idx, 3)) (hq : pc + 3 = q) (hw : zx_CS M M' idx y 2) (h0 : M'.2.2.2.2.2.2.1 = 0 ∧ M'.2.2.2.2.2.2.2 = 0) (hst : (rest.map fun v => v.category).sum ≤ 8) (hf : cells ≤ M.2.2.2.2.2.1.cells ∧ slots ≤ M.2.2.2.2.2.1.slots)
    (ok : zx_Ok E y M' [x1, x2] h n (fun r h1 n1 => ∃ v : Int64, r = some (.long v) ∧ zx_X E M Y q L (.long v :: rest) h1 n1 cells slots)) : zx_X E M Y pc L (x2 :: x1 :: rest) h n cells slots := by
  refine zx_callS (As := [x1, x2]) (rest := rest) hd hq hw rfl hst (by rw [h0.1, h0.2]; exact hf) ok (fun r h1 n1 z => ?_)
  obtain ⟨v, e, k⟩ := z
  subst e
  rw [h0.1, h0.2]
  exact k
theorem zx_cS2a {x1 x2 : Value} (hd : decode M.2.2.1 pc = .ok (.invokestatic idx, 3)) (hq : pc + 3 = q) (hw : zx_CS M M' idx y 2) (h0 : M'.2.2.2.2.2.2.1 = 0 ∧ M'.2.2.2.2.2.2.2 = 0) (hst : (rest.map fun v => v.category).sum ≤ 8) (hf : cells ≤ M.2.2.2.2.2.1.cells ∧ slots ≤ M.2.2.2.2.2.1.slots)
    (ok : zx_Ok E y M' [x1, x2] h n (fun r h1 n1 => ∃ v : Nat, r = some (.ref v) ∧ zx_X E M Y q L (.ref v :: rest) h1 n1 cells slots)) : zx_X E M Y pc L (x2 :: x1 :: rest) h n cells slots := by
  refine zx_callS (As := [x1, x2]) (rest := rest) hd hq hw rfl hst (by rw [h0.1, h0.2]; exact hf) ok (fun r h1 n1 z => ?_)
  obtain ⟨v, e, k⟩ := z
  subst e
  rw [h0.1, h0.2]
  exact k
theorem zx_cS3v {x1 x2 x3 : Value} (hd : decode M.2.2.1 pc = .ok (.invokestatic idx, 3)) (hq : pc + 3 = q) (hw : zx_CS M M' idx y 3) (h0 : M'.2.2.2.2.2.2.1 = 0 ∧ M'.2.2.2.2.2.2.2 = 0) (hst : (rest.map fun v => v.category).sum ≤ 8) (hf : cells ≤ M.2.2.2.2.2.1.cells ∧ slots ≤ M.2.2.2.2.2.1.slots)
    (ok : zx_Ok E y M' [x1, x2, x3] h n (fun r h1 n1 => r = none ∧ zx_X E M Y q L (rest) h1 n1 cells slots)) : zx_X E M Y pc L (x3 :: x2 :: x1 :: rest) h n cells slots := by
  refine zx_callS (As := [x1, x2, x3]) (rest := rest) hd hq hw rfl hst (by rw [h0.1, h0.2]; exact hf) ok (fun r h1 n1 z => ?_)
  obtain ⟨e, k⟩ := z
  subst e
  rw [h0.1, h0.2]
  exact k
theorem zx_cS3i {x1 x2 x3 : Value} (hd : decode M.2.2.1 pc = .ok (.invokestatic idx, 3)) (hq : pc + 3 = q) (hw : zx_CS M M' idx y 3) (h0 : M'.2.2.2.2.2.2.1 = 0 ∧ M'.2.2.2.2.2.2.2 = 0) (hst : (rest.map fun v => v.category).sum ≤ 8) (hf : cells ≤ M.2.2.2.2.2.1.cells ∧ slots ≤ M.2.2.2.2.2.1.slots)
    (ok : zx_Ok E y M' [x1, x2, x3] h n (fun r h1 n1 => ∃ v : Int32, r = some (.int v) ∧ zx_X E M Y q L (.int v :: rest) h1 n1 cells slots)) : zx_X E M Y pc L (x3 :: x2 :: x1 :: rest) h n cells slots := by
  refine zx_callS (As := [x1, x2, x3]) (rest := rest) hd hq hw rfl hst (by rw [h0.1, h0.2]; exact hf) ok (fun r h1 n1 z => ?_)
  obtain ⟨v, e, k⟩ := z
  subst e
  rw [h0.1, h0.2]
  exact k
theorem zx_cS3l {x1 x2 x3 : Value} (hd : decode M.2.2.1 pc = .ok (.invokestatic idx, 3)) (hq : pc + 3 = q) (hw : zx_CS M M' idx y 3) (h0 : M'.2.2.2.2.2.2.1 = 0 ∧ M'.2.2.2.2.2.2.2 = 0) (hst : (rest.map fun v => v.category).sum ≤ 8) (hf : cells ≤ M.2.2.2.2.2.1.cells ∧ slots ≤ M.2.2.2.2.2.1.slots)
    (ok : zx_Ok E y M' [x1, x2, x3] h n (fun r h1 n1 => ∃ v : Int64, r = some (.long v) ∧ zx_X E M Y q L (.long v :: rest) h1 n1 cells slots)) : zx_X E M Y pc L (x3 :: x2 :: x1 :: rest) h n cells slots := by
  refine zx_callS (As := [x1, x2, x3]) (rest := rest) hd hq hw rfl hst (by rw [h0.1, h0.2]; exact hf) ok (fun r h1 n1 z => ?_)
  obtain ⟨v, e, k⟩ := z
  subst e
  rw [h0.1, h0.2]
  exact k
theorem zx_cS3a {x1 x2 x3 : Value} (hd : decode M.2.2.1 pc = .ok (.invokestatic idx, 3)) (hq : pc + 3 = q) (hw : zx_CS M M' idx y 3) (h0 : M'.2.2.2.2.2.2.1 = 0 ∧ M'.2.2.2.2.2.2.2 = 0) (hst : (rest.map fun v => v.category).sum ≤ 8) (hf : cells ≤ M.2.2.2.2.2.1.cells ∧ slots ≤ M.2.2.2.2.2.1.slots)
    (ok : zx_Ok E y M' [x1, x2, x3] h n (fun r h1 n1 => ∃ v : Nat, r = some (.ref v) ∧ zx_X E M Y q L (.ref v :: rest) h1 n1 cells slots)) : zx_X E M Y pc L (x3 :: x2 :: x1 :: rest) h n cells slots := by
  refine zx_callS (As := [x1, x2, x3]) (rest := rest) hd hq hw rfl hst (by rw [h0.1, h0.2]; exact hf) ok (fun r h1 n1 z => ?_)
  obtain ⟨v, e, k⟩ := z
  subst e
  rw [h0.1, h0.2]
  exact k
theorem zx_cS4v {x1 x2 x3 x4 : Value} (hd : decode M.2.2.1 pc = .ok (.invokestatic idx, 3)) (hq : pc + 3 = q) (hw : zx_CS M M' idx y 4) (h0 : M'.2.2.2.2.2.2.1 = 0 ∧ M'.2.2.2.2.2.2.2 = 0) (hst : (rest.map fun v => v.category).sum ≤ 8) (hf : cells ≤ M.2.2.2.2.2.1.cells ∧ slots ≤ M.2.2.2.2.2.1.slots)
    (ok : zx_Ok E y M' [x1, x2, x3, x4] h n (fun r h1 n1 => r = none ∧ zx_X E M Y q L (rest) h1 n1 cells slots)) : zx_X E M Y pc L (x4 :: x3 :: x2 :: x1 :: rest) h n cells slots := by
  refine zx_callS (As := [x1, x2, x3, x4]) (rest := rest) hd hq hw rfl hst (by rw [h0.1, h0.2]; exact hf) ok (fun r h1 n1 z => ?_)
  obtain ⟨e, k⟩ := z
  subst e
  rw [h0.1, h0.2]
  exact k
theorem zx_cS4i {x1 x2 x3 x4 : Value} (hd : decode M.2.2.1 pc = .ok (.invokestatic idx, 3)) (hq : pc + 3 = q) (hw : zx_CS M M' idx y 4) (h0 : M'.2.2.2.2.2.2.1 = 0 ∧ M'.2.2.2.2.2.2.2 = 0) (hst : (rest.map fun v => v.category).sum ≤ 8) (hf : cells ≤ M.2.2.2.2.2.1.cells ∧ slots ≤ M.2.2.2.2.2.1.slots)
    (ok : zx_Ok E y M' [x1, x2, x3, x4] h n (fun r h1 n1 => ∃ v : Int32, r = some (.int v) ∧ zx_X E M Y q L (.int v :: rest) h1 n1 cells slots)) : zx_X E M Y pc L (x4 :: x3 :: x2 :: x1 :: rest) h n cells slots := by
  refine zx_callS (As := [x1, x2, x3, x4]) (rest := rest) hd hq hw rfl hst (by rw [h0.1, h0.2]; exact hf) ok (fun r h1 n1 z => ?_)
  obtain ⟨v, e, k⟩ := z
  subst e
  rw [h0.1, h0.2]
  exact k
theorem zx_cS4l {x1 x2 x3 x4 : Value} (hd : decode M.2.2.1 pc = .ok (.invokestatic idx, 3)) (hq : pc + 3 = q) (hw : zx_CS M M' idx y 4) (h0 : M'.2.2.2.2.2.2.1 = 0 ∧ M'.2.2.2.2.2.2.2 = 0) (hst : (rest.map fun v => v.category).sum ≤ 8) (hf : cells ≤ M.2.2.2.2.2.1.cells ∧ slots ≤ M.2.2.2.2.2.1.slots)
    (ok : zx_Ok E y M' [x1, x2, x3, x4] h n (fun r h1 n1 => ∃ v : Int64, r = some (.long v) ∧ zx_X E M Y q L (.long v :: rest) h1 n1 cells slots)) : zx_X E M Y pc L (x4 :: x3 :: x2 :: x1 :: rest) h n cells slots := by
  refine zx_callS (As := [x1, x2, x3, x4]) (rest := rest) hd hq hw rfl hst (by rw [h0.1, h0.2]; exact hf) ok (fun r h1 n1 z => ?_)
  obtain ⟨v, e, k⟩ := z
  subst e
  rw [h0.1, h0.2]
  exact k
theorem zx_cS4a {x1 x2 x3 x4 : Value} (hd : decode M.2.2.1 pc = .ok (.invokestatic idx, 3)) (hq : pc + 3 = q) (hw : zx_CS M M' idx y 4) (h0 : M'.2.2.2.2.2.2.1 = 0 ∧ M'.2.2.2.2.2.2.2 = 0) (hst : (rest.map fun v => v.category).sum ≤ 8) (hf : cells ≤ M.2.2.2.2.2.1.cells ∧ slots ≤ M.2.2.2.2.2.1.slots)
    (ok : zx_Ok E y M' [x1, x2, x3, x4] h n (fun r h1 n1 => ∃ v : Nat, r = some (.ref v) ∧ zx_X E M Y q L (.ref v :: rest) h1 n1 cells slots)) : zx_X E M Y pc L (x4 :: x3 :: x2 :: x1 :: rest) h n cells slots := by
  refine zx_callS (As := [x1, x2, x3, x4]) (rest := rest) hd hq hw rfl hst (by rw [h0.1, h0.2]; exact hf) ok (fun r h1 n1 z => ?_)
  obtain ⟨v, e, k⟩ := z
  subst e
  rw [h0.1, h0.2]
  exact k
theorem zx_cS5v {x1 x2 x3 x4 x5 : Value} (hd : decode M.2.2.1 pc = .ok (.invokestatic idx, 3)) (hq : pc + 3 = q) (hw : zx_CS M M' idx y 5) (h0 : M'.2.2.2.2.2.2.1 = 0 ∧ M'.2.2.2.2.2.2.2 = 0) (hst : (rest.map fun v => v.category).sum ≤ 8) (hf : cells ≤ M.2.2.2.2.2.1.cells ∧ slots ≤ M.2.2.2.2.2.1.slots)
    (ok : zx_Ok E y M' [x1, x2, x3, x4, x5] h n (fun r h1 n1 => r = none ∧ zx_X E M Y q L (rest) h1 n1 cells slots)) : zx_X E M Y pc L (x5 :: x4 :: x3 :: x2 :: x1 :: rest) h n cells slots := by
  refine zx_callS (As := [x1, x2, x3, x4, x5]) (rest := rest) hd hq hw rfl hst (by rw [h0.1, h0.2]; exact hf) ok (fun r h1 n1 z => ?_)
  obtain ⟨e, k⟩ := z
  subst e
  rw [h0.1, h0.2]
  exact k
theorem zx_cS5i {x1 x2 x3 x4 x5 : Value} (hd : decode M.2.2.1 pc = .ok (.invokestatic idx, 3)) (hq : pc + 3 = q) (hw : zx_CS M M' idx y 5) (h0 : M'.2.2.2.2.2.2.1 = 0 ∧ M'.2.2.2.2.2.2.2 = 0) (hst : (rest.map fun v => v.category).sum ≤ 8) (hf : cells ≤ M.2.2.2.2.2.1.cells ∧ slots ≤ M.2.2.2.2.2.1.slots)
    (ok : zx_Ok E y M' [x1, x2, x3, x4, x5] h n (fun r h1 n1 => ∃ v : Int32, r = some (.int v) ∧ zx_X E M Y q L (.int v :: rest) h1 n1 cells slots)) : zx_X E M Y pc L (x5 :: x4 :: x3 :: x2 :: x1 :: rest) h n cells slots := by
  refine zx_callS (As := [x1, x2, x3, x4, x5]) (rest := rest) hd hq hw rfl hst (by rw [h0.1, h0.2]; exact hf) ok (fun r h1 n1 z => ?_)
  obtain ⟨v, e, k⟩ := z
  subst e
  rw [h0.1, h0.2]
  exact k
theorem zx_cS5l {x1 x2 x3 x4 x5 : Value} (hd : decode M.2.2.1 pc = .ok (.invokestatic idx, 3)) (hq : pc + 3 = q) (hw : zx_CS M M' idx y 5) (h0 : M'.2.2.2.2.2.2.1 = 0 ∧ M'.2.2.2.2.2.2.2 = 0) (hst : (rest.map fun v => v.category).sum ≤ 8) (hf : cells ≤ M.2.2.2.2.2.1.cells ∧ slots ≤ M.2.2.2.2.2.1.slots)
    (ok : zx_Ok E y M' [x1, x2, x3, x4, x5] h n (fun r h1 n1 => ∃ v : Int64, r = some (.long v) ∧ zx_X E M Y q L (.long v :: rest) h1 n1 cells slots)) : zx_X E M Y pc L (x5 :: x4 :: x3 :: x2 :: x1 :: rest) h n cells slots := by
  refine zx_callS (As := [x1, x2, x3, x4, x5]) (rest := rest) hd hq hw rfl hst (by rw [h0.1, h0.2]; exact hf) ok (fun r h1 n1 z => ?_)
  obtain ⟨v, e, k⟩ := z
  subst e
  rw [h0.1, h0.2]
  exact k
theorem zx_cS5a {x1 x2 x3 x4 x5 : Value} (hd : decode M.2.2.1 pc = .ok (.invokestatic idx, 3)) (hq : pc + 3 = q) (hw : zx_CS M M' idx y 5) (h0 : M'.2.2.2.2.2.2.1 = 0 ∧ M'.2.2.2.2.2.2.2 = 0) (hst : (rest.map fun v => v.category).sum ≤ 8) (hf : cells ≤ M.2.2.2.2.2.1.cells ∧ slots ≤ M.2.2.2.2.2.1.slots)
    (ok : zx_Ok E y M' [x1, x2, x3, x4, x5] h n (fun r h1 n1 => ∃ v : Nat, r = some (.ref v) ∧ zx_X E M Y q L (.ref v :: rest) h1 n1 cells slots)) : zx_X E M Y pc L (x5 :: x4 :: x3 :: x2 :: x1 :: rest) h n cells slots := by
  refine zx_callS (As := [x1, x2, x3, x4, x5]) (rest := rest) hd hq hw rfl hst (by rw [h0.1, h0.2]; exact hf) ok (fun r h1 n1 z => ?_)
  obtain ⟨v, e, k⟩ := z
  subst e
  rw [h0.1, h0.2]
  exact k
theorem zx_cS6v {x1 x2 x3 x4 x5 x6 : Value} (hd : decode M.2.2.1 pc = .ok (.invokestatic idx, 3)) (hq : pc + 3 = q) (hw : zx_CS M M' idx y 6) (h0 : M'.2.2.2.2.2.2.1 = 0 ∧ M'.2.2.2.2.2.2.2 = 0) (hst : (rest.map fun v => v.category).sum ≤ 8) (hf : cells ≤ M.2.2.2.2.2.1.cells ∧ slots ≤ M.2.2.2.2.2.1.slots)
    (ok : zx_Ok E y M' [x1, x2, x3, x4, x5, x6] h n (fun r h1 n1 => r = none ∧ zx_X E M Y q L (rest) h1 n1 cells slots)) : zx_X E M Y pc L (x6 :: x5 :: x4 :: x3 :: x2 :: x1 :: rest) h n cells slots := by
  refine zx_callS (As := [x1, x2, x3, x4, x5, x6]) (rest := rest) hd hq hw rfl hst (by rw [h0.1, h0.2]; exact hf) ok (fun r h1 n1 z => ?_)
  obtain ⟨e, k⟩ := z
  subst e
  rw [h0.1, h0.2]
  exact k
theorem zx_cS6i {x1 x2 x3 x4 x5 x6 : Value} (hd : decode M.2.2.1 pc = .ok (.invokestatic idx, 3)) (hq : pc + 3 = q) (hw : zx_CS M M' idx y 6) (h0 : M'.2.2.2.2.2.2.1 = 0 ∧ M'.2.2.2.2.2.2.2 = 0) (hst : (rest.map fun v => v.category).sum ≤ 8) (hf : cells ≤ M.2.2.2.2.2.1.cells ∧ slots ≤ M.2.2.2.2.2.1.slots)
    (ok : zx_Ok E y M' [x1, x2, x3, x4, x5, x6] h n (fun r h1 n1 => ∃ v : Int32, r = some (.int v) ∧ zx_X E M Y q L (.int v :: rest) h1 n1 cells slots)) : zx_X E M Y pc L (x6 :: x5 :: x4 :: x3 :: x2 :: x1 :: rest) h n cells slots := by
  refine zx_callS (As := [x1, x2, x3, x4, x5, x6]) (rest := rest) hd hq hw rfl hst (by rw [h0.1, h0.2]; exact hf) ok (fun r h1 n1 z => ?_)
  obtain ⟨v, e, k⟩ := z
  subst e
  rw [h0.1, h0.2]
  exact k
theorem zx_cS6l {x1 x2 x3 x4 x5 x6 : Value} (hd : decode M.2.2.1 pc = .ok (.invokestatic idx, 3)) (hq : pc + 3 = q) (hw : zx_CS M M' idx y 6) (h0 : M'.2.2.2.2.2.2.1 = 0 ∧ M'.2.2.2.2.2.2.2 = 0) (hst : (rest.map fun v => v.category).sum ≤ 8) (hf : cells ≤ M.2.2.2.2.2.1.cells ∧ slots ≤ M.2.2.2.2.2.1.slots)
    (ok : zx_Ok E y M' [x1, x2, x3, x4, x5, x6] h n (fun r h1 n1 => ∃ v : Int64, r = some (.long v) ∧ zx_X E M Y q L (.long v :: rest) h1 n1 cells slots)) : zx_X E M Y pc L (x6 :: x5 :: x4 :: x3 :: x2 :: x1 :: rest) h n cells slots := by
  refine zx_callS (As := [x1, x2, x3, x4, x5, x6]) (rest := rest) hd hq hw rfl hst (by rw [h0.1, h0.2]; exact hf) ok (fun r h1 n1 z => ?_)
  obtain ⟨v, e, k⟩ := z
  subst e
  rw [h0.1, h0.2]
  exact k
theorem zx_cS6a {x1 x2 x3 x4 x5 x6 : Value} (hd : decode M.2.2.1 pc = .ok (.invokestatic idx, 3)) (hq : pc + 3 = q) (hw : zx_CS M M' idx y 6) (h0 : M'.2.2.2.2.2.2.1 = 0 ∧ M'.2.2.2.2.2.2.2 = 0) (hst : (rest.map fun v => v.category).sum ≤ 8) (hf : cells ≤ M.2.2.2.2.2.1.cells ∧ slots ≤ M.2.2.2.2.2.1.slots)
    (ok : zx_Ok E y M' [x1, x2, x3, x4, x5, x6] h n (fun r h1 n1 => ∃ v : Nat, r = some (.ref v) ∧ zx_X E M Y q L (.ref v :: rest) h1 n1 cells slots)) : zx_X E M Y pc L (x6 :: x5 :: x4 :: x3 :: x2 :: x1 :: rest) h n cells slots := by
  refine zx_callS (As := [x1, x2, x3, x4, x5, x6]) (rest := rest) hd hq hw rfl hst (by rw [h0.1, h0.2]; exact hf) ok (fun r h1 n1 z => ?_)
  obtain ⟨v, e, k⟩ := z
  subst e
  rw [h0.1, h0.2]
  exact k
theorem zx_cS7v {x1 x2 x3 x4 x5 x6 x7 : Value} (hd : decode M.2.2.1 pc = .ok (.invokestatic idx, 3)) (hq : pc + 3 = q) (hw : zx_CS M M' idx y 7) (h0 : M'.2.2.2.2.2.2.1 = 0 ∧ M'.2.2.2.2.2.2.2 = 0) (hst : (rest.map fun v => v.category).sum ≤ 8) (hf : cells ≤ M.2.2.2.2.2.1.cells ∧ slots ≤ M.2.2.2.2.2.1.slots)
    (ok : zx_Ok E y M' [x1, x2, x3, x4, x5, x6, x7] h n (fun r h1 n1 => r = none ∧ zx_X E M Y q L (rest) h1 n1 cells slots)) : zx_X E M Y pc L (x7 :: x6 :: x5 :: x4 :: x3 :: x2 :: x1 :: rest) h n cells slots := by
  refine zx_callS (As := [x1, x2, x3, x4, x5, x6, x7]) (rest := rest) hd hq hw rfl hst (by rw [h0.1, h0.2]; exact hf) ok (fun r h1 n1 z => ?_)
  obtain ⟨e, k⟩ := z
  subst e
  rw [h0.1, h0.2]
  exact k
theorem zx_cS7i {x1 x2 x3 x4 x5 x6 x7 : Value} (hd : decode M.2.2.1 pc = .ok (.invokestatic idx, 3)) (hq : pc + 3 = q) (hw : zx_CS M M' idx y 7) (h0 : M'.2.2.2.2.2.2.1 = 0 ∧ M'.2.2.2.2.2.2.2 = 0) (hst : (rest.map fun v => v.category).sum ≤ 8) (hf : cells ≤ M.2.2.2.2.2.1.cells ∧ slots ≤ M.2.2.2.2.2.1.slots)
    (ok : zx_Ok E y M' [x1, x2, x3, x4, x5, x6, x7] h n (fun r h1 n1 => ∃ v : Int32, r = some (.int v) ∧ zx_X E M Y q L (.int v :: rest) h1 n1 cells slots)) : zx_X E M Y pc L (x7 :: x6 :: x5 :: x4 :: x3 :: x2 :: x1 :: rest) h n cells slots := by
  refine zx_callS (As := [x1, x2, x3, x4, x5, x6, x7]) (rest := rest) hd hq hw rfl hst (by rw [h0.1, h0.2]; exact hf) ok (fun r h1 n1 z => ?_)
  obtain ⟨v, e, k⟩ := z
  subst e
  rw [h0.1, h0.2]
  exact k
theorem zx_cS7l {x1 x2 x3 x4 x5 x6 x7 : Value} (hd : decode M.2.2.1 pc = .ok (.invokestatic idx, 3)) (hq : pc + 3 = q) (hw : zx_CS M M' idx y 7) (h0 : M'.2.2.2.2.2.2.1 = 0 ∧ M'.2.2.2.2.2.2.2 = 0) (hst : (rest.map fun v => v.category).sum ≤ 8) (hf : cells ≤ M.2.2.2.2.2.1.cells ∧ slots ≤ M.2.2.2.2.2.1.slots)
    (ok : zx_Ok E y M' [x1, x2, x3, x4, x5, x6, x7] h n (fun r h1 n1 => ∃ v : Int64, r = some (.long v) ∧ zx_X E M Y q L (.long v :: rest) h1 n1 cells slots)) : zx_X E M Y pc L (x7 :: x6 :: x5 :: x4 :: x3 :: x2 :: x1 :: rest) h n cells slots := by
  refine zx_callS (As := [x1, x2, x3, x4, x5, x6, x7]) (rest := rest) hd hq hw rfl hst (by rw [h0.1, h0.2]; exact hf) ok (fun r h1 n1 z => ?_)
  obtain ⟨v, e, k⟩ := z
  subst e
  rw [h0.1, h0.2]
  exact k
theorem zx_cS7a {x1 x2 x3 x4 x5 x6 x7 : Value} (hd : decode M.2.2.1 pc = .ok (.invokestatic idx, 3)) (hq : pc + 3 = q) (hw : zx_CS M M' idx y 7) (h0 : M'.2.2.2.2.2.2.1 = 0 ∧ M'.2.2.2.2.2.2.2 = 0) (hst : (rest.map fun v => v.category).sum ≤ 8) (hf : cells ≤ M.2.2.2.2.2.1.cells ∧ slots ≤ M.2.2.2.2.2.1.slots)
    (ok : zx_Ok E y M' [x1, x2, x3, x4, x5, x6, x7] h n (fun r h1 n1 => ∃ v : Nat, r = some (.ref v) ∧ zx_X E M Y q L (.ref v :: rest) h1 n1 cells slots)) : zx_X E M Y pc L (x7 :: x6 :: x5 :: x4 :: x3 :: x2 :: x1 :: rest) h n cells slots := by
  refine zx_callS (As := [x1, x2, x3, x4, x5, x6, x7]) (rest := rest) hd hq hw rfl hst (by rw [h0.1, h0.2]; exact hf) ok (fun r h1 n1 z => ?_)
  obtain ⟨v, e, k⟩ := z
  subst e
  rw [h0.1, h0.2]
  exact k
theorem zx_cN0v (hd : decode M.2.2.1 pc = .ok (.invokestatic idx, 3)) (hq : pc + 3 = q) (hw : zx_CN M M' idx y 0) (h0 : M'.2.2.2.2.2.2.1 = 0 ∧ M'.2.2.2.2.2.2.2 = 0) (hst : (rest.map fun v => v.category).sum ≤ 8) (hf : cells ≤ M.2.2.2.2.2.1.cells ∧ slots ≤ M.2.2.2.2.2.1.slots)
    (ok : zx_Ok E y M' [] h n (fun r h1 n1 => r = none ∧ zx_X E M Y q L (rest) h1 n1 cells slots)) : zx_X E M Y pc L (rest) h n cells slots := by
  refine zx_callN (As := []) (rest := rest) hd hq hw rfl hst (by rw [h0.1, h0.2]; exact hf) ok (fun r h1 n1 z => ?_)
  obtain ⟨e, k⟩ := z
  subst e
  rw [h0.1, h0.2]
  exact k
theorem zx_cN0i (hd : decode M.2.2.1 pc = .ok (.invokestatic idx, 3)) (hq : pc + 3 = q) (hw : zx_CN M M' idx y 0) (h0 : M'.2.2.2.2.2.2.1 = 0 ∧ M'.2.2.2.2.2.2.2 = 0) (hst : (rest.map fun v => v.category).sum ≤ 8) (hf : cells ≤ M.2.2.2.2.2.1.cells ∧ slots ≤ M.2.2.2.2.2.1.slots)
    (ok : zx_Ok E y M' [] h n (fun r h1 n1 => ∃ v : Int32, r = some (.int v) ∧ zx_X E M Y q L (.int v :: rest) h1 n1 cells slots)) : zx_X E M Y pc L (rest) h n cells slots := by
  refine zx_callN (As := []) (rest := rest) hd hq hw rfl hst (by rw [h0.1, h0.2]; exact hf) ok (fun r h1 n1 z => ?_)
  obtain ⟨v, e, k⟩ := z
  subst e
  rw [h0.1, h0.2]
  exact k
theorem zx_cN0l (hd : decode M.2.2.1 pc = .ok (.invokestatic idx, 3)) (hq : pc + 3 = q) (hw : zx_CN M M' idx y 0) (h0 : M'.2.2.2.2.2.2.1 = 0 ∧ M'.2.2.2.2.2.2.2 = 0) (hst : (rest.map fun v => v.category).sum ≤ 8) (hf : cells ≤ M.2.2.2.2.2.1.cells ∧ slots ≤ M.2.2.2.2.2.1.slots)
    (ok : zx_Ok E y M' [] h n (fun r h1 n1 => ∃ v : Int64, r = some (.long v) ∧ zx_X E M Y q L (.long v :: rest) h1 n1 cells slots)) : zx_X E M Y pc L (rest) h n cells slots := by
  refine zx_callN (As := []) (rest := rest) hd hq hw rfl hst (by rw [h0.1, h0.2]; exact hf) ok (fun r h1 n1 z => ?_)
  obtain ⟨v, e, k⟩ := z
  subst e
  rw [h0.1, h0.2]
  exact k
theorem zx_cN0a (hd : decode M.2.2.1 pc = .ok (.invokestatic idx, 3)) (hq : pc + 3 = q) (hw : zx_CN M M' idx y 0) (h0 : M'.2.2.2.2.2.2.1 = 0 ∧ M'.2.2.2.2.2.2.2 = 0) (hst : (rest.map fun v => v.category).sum ≤ 8) (hf : cells ≤ M.2.2.2.2.2.1.cells ∧ slots ≤ M.2.2.2.2.2.1.slots)
    (ok : zx_Ok E y M' [] h n (fun r h1 n1 => ∃ v : Nat, r = some (.ref v) ∧ zx_X E M Y q L (.ref v :: rest) h1 n1 cells slots)) : zx_X E M Y pc L (rest) h n cells slots := by
  refine zx_callN (As := []) (rest := rest) hd hq hw rfl hst (by rw [h0.1, h0.2]; exact hf) ok (fun r h1 n1 z => ?_)
  obtain ⟨v, e, k⟩ := z
  subst e
  rw [h0.1, h0.2]
  exact k
theorem zx_cN1v {x1 : Value} (hd : decode M.2.2.1 pc = .ok (.invokestatic idx, 3)) (hq : pc + 3 = q) (hw : zx_CN M M' idx y 1) (h0 : M'.2.2.2.2.2.2.1 = 0 ∧ M'.2.2.2.2.2.2.2 = 0) (hst : (rest.map fun v => v.category).sum ≤ 8) (hf : cells ≤ M.2.2.2.2.2.1.cells ∧ slots ≤ M.2.2.2.2.2.1.slots)
    (ok : zx_Ok E y M' [x1] h n (fun r h1 n1 => r = none ∧ zx_X E M Y q L (rest) h1 n1 cells slots)) : zx_X E M Y pc L (x1 :: rest) h n cells slots := by
  refine zx_callN (As := [x1]) (rest := rest) hd hq hw rfl hst (by rw [h0.1, h0.2]; exact hf) ok (fun r h1 n1 z => ?_)
  obtain ⟨e, k⟩ := z
  subst e
  rw [h0.1, h0.2]
  exact k
theorem zx_cN1i {x1 : Value} (hd : decode M.2.2.1 pc = .ok (.invokestatic idx, 3)) (hq : pc + 3 = q) (hw : zx_CN M M' idx y 1) (h0 : M'.2.2.2.2.2.2.1 = 0 ∧ M'.2.2.2.2.2.2.2 = 0) (hst : (rest.map fun v => v.category).sum ≤ 8) (hf : cells ≤ M.2.2.2.2.2.1.cells ∧ slots ≤ M.2.2.2.2.2.1.slots)
    (ok : zx_Ok E y M' [x1] h n (fun r h1 n1 => ∃ v : Int32, r = some (.int v) ∧ zx_X E M Y q L (.int v :: rest) h1 n1 cells slots)) : zx_X E M Y pc L (x1 :: rest) h n cells slots := by
  refine zx_callN (As := [x1]) (rest := rest) hd hq hw rfl hst (by rw [h0.1, h0.2]; exact hf) ok (fun r h1 n1 z => ?_)
  obtain ⟨v, e, k⟩ := z
  subst e
  rw [h0.1, h0.2]
  exact k
theorem zx_cN1l {x1 : Value} (hd : decode M.2.2.1 pc = .ok (.invokestatic idx, 3)) (hq : pc + 3 = q) (hw : zx_CN M M' idx y 1) (h0 : M'.2.2.2.2.2.2.1 = 0 ∧ M'.2.2.2.2.2.2.2 = 0) (hst : (rest.map fun v => v.category).sum ≤ 8) (hf : cells ≤ M.2.2.2.2.2.1.cells ∧ slots ≤ M.2.2.2.2.2.1.slots)
    (ok : zx_Ok E y M' [x1] h n (fun r h1 n1 => ∃ v : Int64, r = some (.long v) ∧ zx_X E M Y q L (.long v :: rest) h1 n1 cells slots)) : zx_X E M Y pc L (x1 :: rest) h n cells slots := by
  refine zx_callN (As := [x1]) (rest := rest) hd hq hw rfl hst (by rw [h0.1, h0.2]; exact hf) ok (fun r h1 n1 z => ?_)
  obtain ⟨v, e, k⟩ := z
  subst e
  rw [h0.1, h0.2]
  exact k
theorem zx_cN1a {x1 : Value} (hd : decode M.2.2.1 pc = .ok (.invokestatic idx, 3)) (hq : pc + 3 = q) (hw : zx_CN M M' idx y 1) (h0 : M'.2.2.2.2.2.2.1 = 0 ∧ M'.2.2.2.2.2.2.2 = 0) (hst : (rest.map fun v => v.category).sum ≤ 8) (hf : cells ≤ M.2.2.2.2.2.1.cells ∧ slots ≤ M.2.2.2.2.2.1.slots)
    (ok : zx_Ok E y M' [x1] h n (fun r h1 n1 => ∃ v : Nat, r = some (.ref v) ∧ zx_X E M Y q L (.ref v :: rest) h1 n1 cells slots)) : zx_X E M Y pc L (x1 :: rest) h n cells slots := by
  refine zx_callN (As := [x1]) (rest := rest) hd hq hw rfl hst (by rw [h0.1, h0.2]; exact hf) ok (fun r h1 n1 z => ?_)
  obtain ⟨v, e, k⟩ := z
  subst e
  rw [h0.1, h0.2]
  exact k
theorem zx_cN2v {x1 x2 : Value} (hd : decode M.2.2.1 pc = .ok (.invokestatic idx, 3)) (hq : pc + 3 = q) (hw : zx_CN M M' idx y 2) (h0 : M'.2.2.2.2.2.2.1 = 0 ∧ M'.2.2.2.2.2.2.2 = 0) (hst : (rest.map fun v => v.category).sum ≤ 8) (hf : cells ≤ M.2.2.2.2.2.1.cells ∧ slots ≤ M.2.2.2.2.2.1.slots)
    (ok : zx_Ok E y M' [x1, x2] h n (fun r h1 n1 => r = none ∧ zx_X E M Y q L (rest) h1 n1 cells slots)) : zx_X E M Y pc L (x2 :: x1 :: rest) h n cells slots := by
  refine zx_callN (As := [x1, x2]) (rest := rest) hd hq hw rfl hst (by rw [h0.1, h0.2]; exact hf) ok (fun r h1 n1 z => ?_)
  obtain ⟨e, k⟩ := z
  subst e
  rw [h0.1, h0.2]
  exact k
theorem zx_cN2i {x1 x2 : Value} (hd : decode M.2.2.1 pc = .ok (.invokestatic idx, 3)) (hq : pc + 3 = q) (hw : zx_CN M M' idx y 2) (h0 : M'.2.2.2.2.2.2.1 = 0 ∧ M'.2.2.2.2.2.2.2 = 0) (hst : (rest.map fun v => v.category).sum ≤ 8) (hf : cells ≤ M.2.2.2.2.2.1.cells ∧ slots ≤ M.2.2.2.2.2.1.slots)
    (ok : zx_Ok E y M' [x1, x2] h n (fun r h1 n1 => ∃ v : Int32, r = some (.int v) ∧ zx_X E M Y q L (.int v :: rest) h1 n1 cells slots)) : zx_X E M Y pc L (x2 :: x1 :: rest) h n cells slots := by
  refine zx_callN (As := [x1, x2]) (rest := rest) hd hq hw rfl hst (by rw [h0.1, h0.2]; exact hf) ok (fun r h1 n1 z => ?_)
  obtain ⟨v, e, k⟩ := z
  subst e
  rw [h0.1, h0.2]
  exact k
theorem zx_cN2l {x1 x2 : Value} (hd : decode M.2.2.1 pc = .ok (.invokestatic idx, 3)) (hq : pc + 3 = q) (hw : zx_CN M M' idx y 2) (h0 : M'.2.2.2.2.2.2.1 = 0 ∧ M'.2.2.2.2.2.2.2 = 0) (hst : (rest.map fun v => v.category).sum ≤ 8) (hf : cells ≤ M.2.2.2.2.2.1.cells ∧ slots ≤ M.2.2.2.2.2.1.slots)
    (ok : zx_Ok E y M' [x1, x2] h n (fun r h1 n1 => ∃ v : Int64, r = some (.long v) ∧ zx_X E M Y q L (.long v :: rest) h1 n1 cells slots)) : zx_X E M Y pc L (x2 :: x1 :: rest) h n cells slots := by
  refine zx_callN (As := [x1, x2]) (rest := rest) hd hq hw rfl hst (by rw [h0.1, h0.2]; exact hf) ok (fun r h1 n1 z => ?_)
  obtain ⟨v, e, k⟩ := z
  subst e
  rw [h0.1, h0.2]
  exact k
theorem zx_cN2a {x1 x2 : Value} (hd : decode M.2.2.1 pc = .ok (.invokestatic idx, 3)) (hq : pc + 3 = q) (hw : zx_CN M M' idx y 2) (h0 : M'.2.2.2.2.2.2.1 = 0 ∧ M'.2.2.2.2.2.2.2 = 0) (hst : (rest.map fun v => v.category).sum ≤ 8) (hf : cells ≤ M.2.2.2.2.2.1.cells ∧ slots ≤ M.2.2.2.2.2.1.slots)
    (ok : zx_Ok E y M' [x1, x2] h n (fun r h1 n1 => ∃ v : Nat, r = some (.ref v) ∧ zx_X E M Y q L (.ref v :: rest) h1 n1 cells slots)) : zx_X E M Y pc L (x2 :: x1 :: rest) h n cells slots := by
  refine zx_callN (As := [x1, x2]) (rest := rest) hd hq hw rfl hst (by rw [h0.1, h0.2]; exact hf) ok (fun r h1 n1 z => ?_)
  obtain ⟨v, e, k⟩ := z
  subst e
  rw [h0.1, h0.2]
  exact k
theorem zx_cN3v {x1 x2 x3 : Value} (hd : decode M.2.2.1 pc = .ok (.invokestatic idx, 3)) (hq : pc + 3 = q) (hw : zx_CN M M' idx y 3) (h0 : M'.2.2.2.2.2.2.1 = 0 ∧ M'.2.2.2.2.2.2.2 = 0) (hst : (rest.map fun v => v.category).sum ≤ 8) (hf : cells ≤ M.2.2.2.2.2.1.cells ∧ slots ≤ M.2.2.2.2.2.1.slots)
    (ok : zx_Ok E y M' [x1, x2, x3] h n (fun r h1 n1 => r = none ∧ zx_X E M Y q L (rest) h1 n1 cells slots)) : zx_X E M Y pc L (x3 :: x2 :: x1 :: rest) h n cells slots := by
  refine zx_callN (As := [x1, x2, x3]) (rest := rest) hd hq hw rfl hst (by rw [h0.1, h0.2]; exact hf) ok (fun r h1 n1 z => ?_)
  obtain ⟨e, k⟩ := z
  subst e
  rw [h0.1, h0.2]
  exact k
theorem zx_cN3i {x1 x2 x3 : Value} (hd : decode M.2.2.1 pc = .ok (.invokestatic idx, 3)) (hq : pc + 3 = q) (hw : zx_CN M M' idx y 3) (h0 : M'.2.2.2.2.2.2.1 = 0 ∧ M'.2.2.2.2.2.2.2 = 0) (hst : (rest.map fun v => v.category).sum ≤ 8) (hf : cells ≤ M.2.2.2.2.2.1.cells ∧ slots ≤ M.2.2.2.2.2.1.slots)
    (ok : zx_Ok E y M' [x1, x2, x3] h n (fun r h1 n1 => ∃ v : Int32, r = some (.int v) ∧ zx_X E M Y q L (.int v :: rest) h1 n1 cells slots)) : zx_X E M Y pc L (x3 :: x2 :: x1 :: rest) h n cells slots := by
  refine zx_callN (As := [x1, x2, x3]) (rest := rest) hd hq hw rfl hst (by rw [h0.1, h0.2]; exact hf) ok (fun r h1 n1 z => ?_)
  obtain ⟨v, e, k⟩ := z
  subst e
  rw [h0.1, h0.2]
  exact k
theorem zx_cN3l {x1 x2 x3 : Value} (hd : decode M.2.2.1 pc = .ok (.invokestatic idx, 3)) (hq : pc + 3 = q) (hw : zx_CN M M' idx y 3) (h0 : M'.2.2.2.2.2.2.1 = 0 ∧ M'.2.2.2.2.2.2.2 = 0) (hst : (rest.map fun v => v.category).sum ≤ 8) (hf : cells ≤ M.2.2.2.2.2.1.cells ∧ slots ≤ M.2.2.2.2.2.1.slots)
    (ok : zx_Ok E y M' [x1, x2, x3] h n (fun r h1 n1 => ∃ v : Int64, r = some (.long v) ∧ zx_X E M Y q L (.long v :: rest) h1 n1 cells slots)) : zx_X E M Y pc L (x3 :: x2 :: x1 :: rest) h n cells slots := by
  refine zx_callN (As := [x1, x2, x3]) (rest := rest) hd hq hw rfl hst (by rw [h0.1, h0.2]; exact hf) ok (fun r h1 n1 z => ?_)
  obtain ⟨v, e, k⟩ := z
  subst e
  rw [h0.1, h0.2]
  exact k
theorem zx_cN3a {x1 x2 x3 : Value} (hd : decode M.2.2.1 pc = .ok (.invokestatic idx, 3)) (hq : pc + 3 = q) (hw : zx_CN M M' idx y 3) (h0 : M'.2.2.2.2.2.2.1 = 0 ∧ M'.2.2.2.2.2.2.2 = 0) (hst : (rest.map fun v => v.category).sum ≤ 8) (hf : cells ≤ M.2.2.2.2.2.1.cells ∧ slots ≤ M.2.2.2.2.2.1.slots)
    (ok : zx_Ok E y M' [x1, x2, x3] h n (fun r h1 n1 => ∃ v : Nat, r = some (.ref v) ∧ zx_X E M Y q L (.ref v :: rest) h1 n1 cells slots)) : zx_X E M Y pc L (x3 :: x2 :: x1 :: rest) h n cells slots := by
  refine zx_callN (As := [x1, x2, x3]) (rest := rest) hd hq hw rfl hst (by rw [h0.1, h0.2]; exact hf) ok (fun r h1 n1 z => ?_)
  obtain ⟨v, e, k⟩ := z
  subst e
  rw [h0.1, h0.2]
  exact k
theorem zx_cN4v {x1 x2 x3 x4 : Value} (hd : decode M.2.2.1 pc = .ok (.invokestatic idx, 3)) (hq : pc + 3 = q) (hw : zx_CN M M' idx y 4) (h0 : M'.2.2.2.2.2.2.1 = 0 ∧ M'.2.2.2.2.2.2.2 = 0) (hst : (rest.map fun v => v.category).sum ≤ 8) (hf : cells ≤ M.2.2.2.2.2.1.cells ∧ slots ≤ M.2.2.2.2.2.1.slots)
    (ok : zx_Ok E y M' [x1, x2, x3, x4] h n (fun r h1 n1 => r = none ∧ zx_X E M Y q L (rest) h1 n1 cells slots)) : zx_X E M Y pc L (x4 :: x3 :: x2 :: x1 :: rest) h n cells slots := by
  refine zx_callN (As := [x1, x2, x3, x4]) (rest := rest) hd hq hw rfl hst (by rw [h0.1, h0.2]; exact hf) ok (fun r h1 n1 z => ?_)
  obtain ⟨e, k⟩ := z
  subst e
  rw [h0.1, h0.2]
  exact k
theorem zx_cN4i {x1 x2 x3 x4 : Value} (hd : decode M.2.2.1 pc = .ok (.invokestatic idx, 3)) (hq : pc + 3 = q) (hw : zx_CN M M' idx y 4) (h0 : M'.2.2.2.2.2.2.1 = 0 ∧ M'.2.2.2.2.2.2.2 = 0) (hst : (rest.map fun v => v.category).sum ≤ 8) (hf : cells ≤ M.2.2.2.2.2.1.cells ∧ slots ≤ M.2.2.2.2.2.1.slots)
    (ok : zx_Ok E y M' [x1, x2, x3, x4] h n (fun r h1 n1 => ∃ v : Int32, r = some (.int v) ∧ zx_X E M Y q L (.int v :: rest) h1 n1 cells slots)) : zx_X E M Y pc L (x4 :: x3 :: x2 :: x1 :: rest) h n cells slots := by
  refine zx_callN (As := [x1, x2, x3, x4]) (rest := rest) hd hq hw rfl hst (by rw [h0.1, h0.2]; exact hf) ok (fun r h1 n1 z => ?_)
  obtain ⟨v, e, k⟩ := z
  subst e
  rw [h0.1, h0.2]
  exact k
theorem zx_cN4l {x1 x2 x3 x4 : Value} (hd : decode M.2.2.1 pc = .ok (.invokestatic idx, 3)) (hq : pc + 3 = q) (hw : zx_CN M M' idx y 4) (h0 : M'.2.2.2.2.2.2.1 = 0 ∧ M'.2.2.2.2.2.2.2 = 0) (hst : (rest.map fun v => v.category).sum ≤ 8) (hf : cells ≤ M.2.2.2.2.2.1.cells ∧ slots ≤ M.2.2.2.2.2.1.slots)
    (ok : zx_Ok E y M' [x1, x2, x3, x4] h n (fun r h1 n1 => ∃ v : Int64, r = some (.long v) ∧ zx_X E M Y q L (.long v :: rest) h1 n1 cells slots)) : zx_X E M Y pc L (x4 :: x3 :: x2 :: x1 :: rest) h n cells slots := by
  refine zx_callN (As := [x1, x2, x3, x4]) (rest := rest) hd hq hw rfl hst (by rw [h0.1, h0.2]; exact hf) ok (fun r h1 n1 z => ?_)
  obtain ⟨v, e, k⟩ := z
  subst e
  rw [h0.1, h0.2]
  exact k
theorem zx_cN4a {x1 x2 x3 x4 : Value} (hd : decode M.2.2.1 pc = .ok (.invokestatic idx, 3)) (hq : pc + 3 = q) (hw : zx_CN M M' idx y 4) (h0 : M'.2.2.2.2.2.2.1 = 0 ∧ M'.2.2.2.2.2.2.2 = 0) (hst : (rest.map fun v => v.category).sum ≤ 8) (hf : cells ≤ M.2.2.2.2.2.1.cells ∧ slots ≤ M.2.2.2.2.2.1.slots)
    (ok : zx_Ok E y M' [x1, x2, x3, x4] h n (fun r h1 n1 => ∃ v : Nat, r = some (.ref v) ∧ zx_X E M Y q L (.ref v :: rest) h1 n1 cells slots)) : zx_X E M Y pc L (x4 :: x3 :: x2 :: x1 :: rest) h n cells slots := by
  refine zx_callN (As := [x1, x2, x3, x4]) (rest := rest) hd hq hw rfl hst (by rw [h0.1, h0.2]; exact hf) ok (fun r h1 n1 z => ?_)
  obtain ⟨v, e, k⟩ := z
  subst e
  rw [h0.1, h0.2]
  exact k
theorem zx_cN5v {x1 x2 x3 x4 x5 : Value} (hd : decode M.2.2.1 pc = .ok (.invokestatic idx, 3)) (hq : pc + 3 = q) (hw : zx_CN M M' idx y 5) (h0 : M'.2.2.2.2.2.2.1 = 0 ∧ M'.2.2.2.2.2.2.2 = 0) (hst : (rest.map fun v => v.category).sum ≤ 8) (hf : cells ≤ M.2.2.2.2.2.1.cells ∧ slots ≤ M.2.2.2.2.2.1.slots)
    (ok : zx_Ok E y M' [x1, x2, x3, x4, x5] h n (fun r h1 n1 => r = none ∧ zx_X E M Y q L (rest) h1 n1 cells slots)) : zx_X E M Y pc L (x5 :: x4 :: x3 :: x2 :: x1 :: rest) h n cells slots := by
  refine zx_callN (As := [x1, x2, x3, x4, x5]) (rest := rest) hd hq hw rfl hst (by rw [h0.1, h0.2]; exact hf) ok (fun r h1 n1 z => ?_)
  obtain ⟨e, k⟩ := z
  subst e
  rw [h0.1, h0.2]
  exact k
theorem zx_cN5i {x1 x2 x3 x4 x5 : Value} (hd : decode M.2.2.1 pc = .ok (.invokestatic idx, 3)) (hq : pc + 3 = q) (hw : zx_CN M M' idx y 5) (h0 : M'.2.2.2.2.2.2.1 = 0 ∧ M'.2.2.2.2.2.2.2 = 0) (hst : (rest.map fun v => v.category).sum ≤ 8) (hf : cells ≤ M.2.2.2.2.2.1.cells ∧ slots ≤ M.2.2.2.2.2.1.slots)
    (ok : zx_Ok E y M' [x1, x2, x3, x4, x5] h n (fun r h1 n1 => ∃ v : Int32, r = some (.int v) ∧ zx_X E M Y q L (.int v :: rest) h1 n1 cells slots)) : zx_X E M Y pc L (x5 :: x4 :: x3 :: x2 :: x1 :: rest) h n cells slots := by
  refine zx_callN (As := [x1, x2, x3, x4, x5]) (rest := rest) hd hq hw rfl hst (by rw [h0.1, h0.2]; exact hf) ok (fun r h1 n1 z => ?_)
  obtain ⟨v, e, k⟩ := z
  subst e
  rw [h0.1, h0.2]
  exact k
theorem zx_cN5l {x1 x2 x3 x4 x5 : Value} (hd : decode M.2.2.1 pc = .ok (.invokestatic idx, 3)) (hq : pc + 3 = q) (hw : zx_CN M M' idx y 5) (h0 : M'.2.2.2.2.2.2.1 = 0 ∧ M'.2.2.2.2.2.2.2 = 0) (hst : (rest.map fun v => v.category).sum ≤ 8) (hf : cells ≤ M.2.2.2.2.2.1.cells ∧ slots ≤ M.2.2.2.2.2.1.slots)
    (ok : zx_Ok E y M' [x1, x2, x3, x4, x5] h n (fun r h1 n1 => ∃ v : Int64, r = some (.long v) ∧ zx_X E M Y q L (.long v :: rest) h1 n1 cells slots)) : zx_X E M Y pc L (x5 :: x4 :: x3 :: x2 :: x1 :: rest) h n cells slots := by
  refine zx_callN (As := [x1, x2, x3, x4, x5]) (rest := rest) hd hq hw rfl hst (by rw [h0.1, h0.2]; exact hf) ok (fun r h1 n1 z => ?_)
  obtain ⟨v, e, k⟩ := z
  subst e
  rw [h0.1, h0.2]
  exact k
theorem zx_cN5a {x1 x2 x3 x4 x5 : Value} (hd : decode M.2.2.1 pc = .ok (.invokestatic idx, 3)) (hq : pc + 3 = q) (hw : zx_CN M M' idx y 5) (h0 : M'.2.2.2.2.2.2.1 = 0 ∧ M'.2.2.2.2.2.2.2 = 0) (hst : (rest.map fun v => v.category).sum ≤ 8) (hf : cells ≤ M.2.2.2.2.2.1.cells ∧ slots ≤ M.2.2.2.2.2.1.slots)
    (ok : zx_Ok E y M' [x1, x2, x3, x4, x5] h n (fun r h1 n1 => ∃ v : Nat, r = some (.ref v) ∧ zx_X E M Y q L (.ref v :: rest) h1 n1 cells slots)) : zx_X E M Y pc L (x5 :: x4 :: x3 :: x2 :: x1 :: rest) h n cells slots := by
  refine zx_callN (As := [x1, x2, x3, x4, x5]) (rest := rest) hd hq hw rfl hst (by rw [h0.1, h0.2]; exact hf) ok (fun r h1 n1 z => ?_)
  obtain ⟨v, e, k⟩ := z
  subst e
  rw [h0.1, h0.2]
  exact k
theorem zx_cN6v {x1 x2 x3 x4 x5 x6 : Value} (hd : decode M.2.2.1 pc = .ok (.invokestatic idx, 3)) (hq : pc + 3 = q) (hw : zx_CN M M' idx y 6) (h0 : M'.2.2.2.2.2.2.1 = 0 ∧ M'.2.2.2.2.2.2.2 = 0) (hst : (rest.map fun v => v.category).sum ≤ 8) (hf : cells ≤ M.2.2.2.2.2.1.cells ∧ slots ≤ M.2.2.2.2.2.1.slots)
    (ok : zx_Ok E y M' [x1, x2, x3, x4, x5, x6] h n (fun r h1 n1 => r = none ∧ zx_X E M Y q L (rest) h1 n1 cells slots)) : zx_X E M Y pc L (x6 :: x5 :: x4 :: x3 :: x2 :: x1 :: rest) h n cells slots := by
  refine zx_callN (As := [x1, x2, x3, x4, x5, x6]) (rest := rest) hd hq hw rfl hst (by rw [h0.1, h0.2]; exact hf) ok (fun r h1 n1 z => ?_)
  obtain ⟨e, k⟩ := z
  subst e
  rw [h0.1, h0.2]
  exact k
theorem zx_cN6i {x1 x2 x3 x4 x5 x6 : Value} (hd : decode M.2.2.1 pc = .ok (.invokestatic idx, 3)) (hq : pc + 3 = q) (hw : zx_CN M M' idx y 6) (h0 : M'.2.2.2.2.2.2.1 = 0 ∧ M'.2.2.2.2.2.2.2 = 0) (hst : (rest.map fun v => v.category).sum ≤ 8) (hf : cells ≤ M.2.2.2.2.2.1.cells ∧ slots ≤ M.2.2.2.2.2.1.slots)
    (ok : zx_Ok E y M' [x1, x2, x3, x4, x5, x6] h n (fun r h1 n1 => ∃ v : Int32, r = some (.int v) ∧ zx_X E M Y q L (.int v :: rest) h1 n1 cells slots)) : zx_X E M Y pc L (x6 :: x5 :: x4 :: x3 :: x2 :: x1 :: rest) h n cells slots := by
  refine zx_callN (As := [x1, x2, x3, x4, x5, x6]) (rest := rest) hd hq hw rfl hst (by rw [h0.1, h0.2]; exact hf) ok (fun r h1 n1 z => ?_)
  obtain ⟨v, e, k⟩ := z
  subst e
  rw [h0.1, h0.2]
  exact k
theorem zx_cN6l {x1 x2 x3 x4 x5 x6 : Value} (hd : decode M.2.2.1 pc = .ok (.invokestatic idx, 3)) (hq : pc + 3 = q) (hw : zx_CN M M' idx y 6) (h0 : M'.2.2.2.2.2.2.1 = 0 ∧ M'.2.2.2.2.2.2.2 = 0) (hst : (rest.map fun v => v.category).sum ≤ 8) (hf : cells ≤ M.2.2.2.2.2.1.cells ∧ slots ≤ M.2.2.2.2.2.1.slots)
    (ok : zx_Ok E y M' [x1, x2, x3, x4, x5, x6] h n (fun r h1 n1 => ∃ v : Int64, r = some (.long v) ∧ zx_X E M Y q L (.long v :: rest) h1 n1 cells slots)) : zx_X E M Y pc L (x6 :: x5 :: x4 :: x3 :: x2 :: x1 :: rest) h n cells slots := by
  refine zx_callN (As := [x1, x2, x3, x4, x5, x6]) (rest := rest) hd hq hw rfl hst (by rw [h0.1, h0.2]; exact hf) ok (fun r h1 n1 z => ?_)
  obtain ⟨v, e, k⟩ := z
  subst e
  rw [h0.1, h0.2]
  exact k
theorem zx_cN6a {x1 x2 x3 x4 x5 x6 : Value} (hd : decode M.2.2.1 pc = .ok (.invokestatic idx, 3)) (hq : pc + 3 = q) (hw : zx_CN M M' idx y 6) (h0 : M'.2.2.2.2.2.2.1 = 0 ∧ M'.2.2.2.2.2.2.2 = 0) (hst : (rest.map fun v => v.category).sum ≤ 8) (hf : cells ≤ M.2.2.2.2.2.1.cells ∧ slots ≤ M.2.2.2.2.2.1.slots)
    (ok : zx_Ok E y M' [x1, x2, x3, x4, x5, x6] h n (fun r h1 n1 => ∃ v : Nat, r = some (.ref v) ∧ zx_X E M Y q L (.ref v :: rest) h1 n1 cells slots)) : zx_X E M Y pc L (x6 :: x5 :: x4 :: x3 :: x2 :: x1 :: rest) h n cells slots := by
  refine zx_callN (As := [x1, x2, x3, x4, x5, x6]) (rest := rest) hd hq hw rfl hst (by rw [h0.1, h0.2]; exact hf) ok (fun r h1 n1 z => ?_)
  obtain ⟨v, e, k⟩ := z
  subst e
  rw [h0.1, h0.2]
  exact k
theorem zx_cN7v {x1 x2 x3 x4 x5 x6 x7 : Value} (hd : decode M.2.2.1 pc = .ok (.invokestatic idx, 3)) (hq : pc + 3 = q) (hw : zx_CN M M' idx y 7) (h0 : M'.2.2.2.2.2.2.1 = 0 ∧ M'.2.2.2.2.2.2.2 = 0) (hst : (rest.map fun v => v.category).sum ≤ 8) (hf : cells ≤ M.2.2.2.2.2.1.cells ∧ slots ≤ M.2.2.2.2.2.1.slots)
    (ok : zx_Ok E y M' [x1, x2, x3, x4, x5, x6, x7] h n (fun r h1 n1 => r = none ∧ zx_X E M Y q L (rest) h1 n1 cells slots)) : zx_X E M Y pc L (x7 :: x6 :: x5 :: x4 :: x3 :: x2 :: x1 :: rest) h n cells slots := by
  refine zx_callN (As := [x1, x2, x3, x4, x5, x6, x7]) (rest := rest) hd hq hw rfl hst (by rw [h0.1, h0.2]; exact hf) ok (fun r h1 n1 z => ?_)
  obtain ⟨e, k⟩ := z
  subst e
  rw [h0.1, h0.2]
  exact k
theorem zx_cN7i {x1 x2 x3 x4 x5 x6 x7 : Value} (hd : decode M.2.2.1 pc = .ok (.invokestatic idx, 3)) (hq : pc + 3 = q) (hw : zx_CN M M' idx y 7) (h0 : M'.2.2.2.2.2.2.1 = 0 ∧ M'.2.2.2.2.2.2.2 = 0) (hst : (rest.map fun v => v.category).sum ≤ 8) (hf : cells ≤ M.2.2.2.2.2.1.cells ∧ slots ≤ M.2.2.2.2.2.1.slots)
    (ok : zx_Ok E y M' [x1, x2, x3, x4, x5, x6, x7] h n (fun r h1 n1 => ∃ v : Int32, r = some (.int v) ∧ zx_X E M Y q L (.int v :: rest) h1 n1 cells slots)) : zx_X E M Y pc L (x7 :: x6 :: x5 :: x4 :: x3 :: x2 :: x1 :: rest) h n cells slots := by
  refine zx_callN (As := [x1, x2, x3, x4, x5, x6, x7]) (rest := rest) hd hq hw rfl hst (by rw [h0.1, h0.2]; exact hf) ok (fun r h1 n1 z => ?_)
  obtain ⟨v, e, k⟩ := z
  subst e
  rw [h0.1, h0.2]
  exact k
theorem zx_cN7l {x1 x2 x3 x4 x5 x6 x7 : Value} (hd : decode M.2.2.1 pc = .ok (.invokestatic idx, 3)) (hq : pc + 3 = q) (hw : zx_CN M M' idx y 7) (h0 : M'.2.2.2.2.2.2.1 = 0 ∧ M'.2.2.2.2.2.2.2 = 0) (hst : (rest.map fun v => v.category).sum ≤ 8) (hf : cells ≤ M.2.2.2.2.2.1.cells ∧ slots ≤ M.2.2.2.2.2.1.slots)
    (ok : zx_Ok E y M' [x1, x2, x3, x4, x5, x6, x7] h n (fun r h1 n1 => ∃ v : Int64, r = some (.long v) ∧ zx_X E M Y q L (.long v :: rest) h1 n1 cells slots)) : zx_X E M Y pc L (x7 :: x6 :: x5 :: x4 :: x3 :: x2 :: x1 :: rest) h n cells slots := by
  refine zx_callN (As := [x1, x2, x3, x4, x5, x6, x7]) (rest := rest) hd hq hw rfl hst (by rw [h0.1, h0.2]; exact hf) ok (fun r h1 n1 z => ?_)
  obtain ⟨v, e, k⟩ := z
  subst e
  rw [h0.1, h0.2]
  exact k
theorem zx_cN7a {x1 x2 x3 x4 x5 x6 x7 : Value} (hd : decode M.2.2.1 pc = .ok (.invokestatic idx, 3)) (hq : pc + 3 = q) (hw : zx_CN M M' idx y 7) (h0 : M'.2.2.2.2.2.2.1 = 0 ∧ M'.2.2.2.2.2.2.2 = 0) (hst : (rest.map fun v => v.category).sum ≤ 8) (hf : cells ≤ M.2.2.2.2.2.1.cells ∧ slots ≤ M.2.2.2.2.2.1.slots)
    (ok : zx_Ok E y M' [x1, x2, x3, x4, x5, x6, x7] h n (fun r h1 n1 => ∃ v : Nat, r = some (.ref v) ∧ zx_X E M Y q L (.ref v :: rest) h1 n1 cells slots)) : zx_X E M Y pc L (x7 :: x6 :: x5 :: x4 :: x3 :: x2 :: x1 :: rest) h n cells slots := by
  refine zx_callN (As := [x1, x2, x3, x4, x5, x6, x7]) (rest := rest) hd hq hw rfl hst (by rw [h0.1, h0.2]; exact hf) ok (fun r h1 n1 z => ?_)
  obtain ⟨v, e, k⟩ := z
  subst e
  rw [h0.1, h0.2]
  exact k
end ZD
