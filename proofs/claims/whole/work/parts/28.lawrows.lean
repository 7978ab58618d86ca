/-! The law's own rows. -/
def R_law : String := "AddressClaimBusLaw"
def lw_P (b : Addr) (xs : List Int32) (args : Array Value) (s : State) : Prop := args = #[.ref b] ∧ s.IntsAt b xs ∧ xs.length ≤ 3584 ∧ (Jvm.Cond.and given_1 narrow_1).before args s = true
def lw_Q (_ : Array Value) (s : State) (o : Outcome) (t : State) : Prop := o = .returned (some (.int 1)) ∧ Framed s o t [] 600000 7302250
def lw_Z (below : List Frame) (a : Array Value) (s : State) : State → Prop := fun t => ∃ o, t.status = .running ∧ Ended t below o ∧ lw_Q a s o t
theorem lw_ret {p : Program} {l : Launch} {e : Env} {s : State} {m : MethodId} {args : Array Value} {below : List Frame} {meth : Method} {c : Code} (hx : p.tables.exec = Jvm.exec) (hb : c.code = code) (hr : meth.sig.returnType = ret) (hlocks : meth.locks = false) {pc : Nat} {H : Heap} {ls : Array Slot} (hdg : decode code pc = .ok (.ireturn, 1)) : W p l e room_1 s m args below meth c H [] 600000 7302250 (lw_Z below args s) (F0 m pc ls [.int 1]) := by
  intro T hT X
  obtain ⟨fs, hret, hrun, hended, hW, hframe⟩ := X.leave (v := some (.int 1)) (hlocks := hlocks) (fun h => by rw [hr] at h; cases h)
  have hmeth' : T.vm.method? m = some meth := X.method'
  refine ⟨T.setFrames fs, ?_, .returned (some (.int 1)), hrun, hended, rfl, ⟨_, rfl⟩, hW, hframe⟩
  jvm_step X.here [X.here.top, hx, hb, hdg, hmeth', hr, ret, narrow_b1]
  (try refine ⟨rfl, ?_⟩); (try refine ⟨rfl, ?_⟩)
  first | (intro acts; rw [hret _ acts rfl rfl rfl]) | rw [hret _ _ rfl rfl rfl]
  exact Steps.refl _
def lw_At (p : Program) (s : State) (m : MethodId) (meth : Method) (c : Code) (b L : Nat) (xs : Nat → Int32) : Prop :=
  p.tables.exec = Jvm.exec ∧ c.code = code ∧ meth.sig.returnType = ret ∧ c.maxLocals = 4 ∧ s.vm.findClass R_law = some m.cls ∧ (∀ w ∈ lw_tbl, w.before #[Value.ref b] s = true) ∧ va_X b L xs s s.heap ∧ b < s.heap.size ∧ meth.locks = false ∧ (Jvm.Cond.and given_1 narrow_1).before #[Value.ref b] s = true ∧ meth.name = "law"
/-- what the law knows of its start, and where it must come -/
def zl_Y (E : zxE) (b0 Ln : Nat) (xs : Nat → Int32) : zxY := (fun s => va_X b0 Ln xs s s.heap ∧ b0 < s.heap.size ∧ E.2.1 = s.heap.size, fun below args s => lw_Z below args s)
section ZL
variable {E : zxE} {b0 Ln pc q cells slots n : Nat} {xs : Nat → Int32} {L : List (Option Value)} {st : List Value} {h : zxH}
theorem zl_sld {j : Nat} {i : Int32} (hd : decode mi_La_law.2.2.1 pc = .ok (.iaload, 1)) (hq : pc + 1 = q) (hi : i = nI j) (hj : j < Ln) (hL : Ln ≤ 3584) (k : zx_X E mi_La_law (zl_Y E b0 Ln xs) q L (.int (xs j) :: st) h n cells slots) : zx_X E mi_La_law (zl_Y E b0 Ln xs) pc L (.int i :: .ref b0 :: st) h n cells slots := by
  subst hq
  subst hi
  intro p e s m args below meth c ls H locs C hl hR hS hb
  obtain ⟨hX, hbl, hE⟩ := C.2.2.2.2.2.2.2.2.2
  refine va_sld C.1 C.2.1 hX hbl (fun z => absurd (show E.2.1 ≤ b0 from z) (by omega)) hS (nI_in hj (by omega)) hd ?_
  rw [nI_clamp (by omega)]
  exact k p e s m args below meth c ls H locs C hl hR hS hb
theorem zl_slen (hd : decode mi_La_law.2.2.1 pc = .ok (.arraylength, 1)) (hq : pc + 1 = q) (k : zx_X E mi_La_law (zl_Y E b0 Ln xs) q L (.int (nI Ln) :: st) h n cells slots) : zx_X E mi_La_law (zl_Y E b0 Ln xs) pc L (.ref b0 :: st) h n cells slots := by
  subst hq
  intro p e s m args below meth c ls H locs C hl hR hS hb
  obtain ⟨hX, hbl, hE⟩ := C.2.2.2.2.2.2.2.2.2
  exact va_slen C.1 C.2.1 hX hbl (fun z => absurd (show E.2.1 ≤ b0 from z) (by omega)) hS hd (k p e s m args below meth c ls H locs C hl hR hS hb)
theorem zl_ret (hd : decode mi_La_law.2.2.1 pc = .ok (.ireturn, 1)) (h1 : cells ≤ 600000) (h2 : slots ≤ 7302250) : zx_X E mi_La_law (zl_Y E b0 Ln xs) pc L [.int (nI 1)] h n cells slots := by
  intro p e s m args below meth c ls H locs C hl hR hS hb
  obtain ⟨hX, hbl, hE⟩ := C.2.2.2.2.2.2.2.2.2
  refine va_forget (fun q hq => ?_) (W.widen h1 h2 (lw_ret C.1 C.2.1 C.2.2.2.2.2.1 C.2.2.2.2.2.2.1 hd))
  have := hS.2.2 q hq
  rw [← hE]
  exact this
end ZL
theorem la_sub {j L : Nat} (hj : j ≤ 4000) (hL : L ≤ 3584) : nI L - nI 7 < nI j ↔ ¬ j + 7 ≤ L := by
  have e : (nI L - nI 7).toInt = (L : Int) - 7 := by
    rw [Int32.toInt_sub, nI_toInt (by omega), nI_toInt (by decide)]
    rw [Int.bmod_def]
    omega
  rw [Int32.lt_iff_toInt_lt, e, nI_toInt (by omega)]
  omega
theorem la_and (x : Int32) : ∃ k : Nat, k < 32 ∧ x &&& nI 31 = nI k := by
  obtain ⟨n, hn, rfl⟩ := wb_of32 x
  refine ⟨n % 32, Nat.mod_lt _ (by decide), ?_⟩
  rw [nx_and]
  congr 1
  exact Nat.and_two_pow_sub_one_eq_mod n 5
