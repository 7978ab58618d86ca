def RR (c : Nat) (B : zB) (H : Nat → zG) (D : zMd) : Prop := c = c ∧ B = B ∧ H = H ∧ D = D
section IF
variable {c : Nat} {B : zB} {H : Nat → zG} {D : zMd}
theorem rr_0 : RR 0 (fun _ => 0, fun _ => 0, fun _ => 0, 0, 0, 0) (fun _ => zG0) (0, 0, 0, fun _ _ => 0, fun _ _ => 0) := sorry
theorem rr_keep (h : RR c B H D) : RR (c + 1) B H D := sorry
theorem rr_w1 (h : RR c B H D) : B.2.2.2.1 ≤ 48 := sorry
theorem rr_w2 (h : RR c B H D) : D.2.1 ≤ 48 := sorry
theorem rr_o (h : RR c B H D) : ∀ g < 5, (H g).2.2.2.1 ≤ 1 := sorry
theorem rr_zi (h : RR c B H D) : ∀ g < 5, zi (H g) := sorry
theorem rr_len (h : RR c B H D) : ∀ f < 5, ∀ g : Nat, g < 2 ^ 31 → ¬ D.2.2.2.1 29 (4 * f + 2) ≤ nI g → g < 49 := sorry
theorem rr_start {x a : Int32} {name : Int64} {r1 r2 : Bool} {B1 : zB} {H1 : Nat → zG} {D1 : zMd} (h : RR c B H D) (h1 : pa_start B H x name a = (r1, B1, H1)) (h2 : pm_start D x name a = (r2, D1)) : r1 = r2 ∧ RR (c + 1) B1 H1 D1 := sorry
theorem rr_stop {x : Int32} {r1 r2 : Bool} {B1 : zB} {H1 : Nat → zG} {D1 : zMd} (h : RR c B H D) (h1 : pa_stop B H x = (r1, B1, H1)) (h2 : pm_stop D x = (r2, D1)) : r1 = r2 ∧ RR (c + 1) B1 H1 D1 := sorry
theorem rr_busy {x : Int32} {y : Bool} {r1 r2 : Bool} {H1 : Nat → zG} {D1 : zMd} (h : RR c B H D) (h1 : pa_busy H x y = (r1, H1)) (h2 : pm_busy D x (zb y) = (r2, D1)) : r1 = r2 ∧ RR (c + 1) B H1 D1 := sorry
theorem rr_request {x : Int32} {r1 r2 : Bool} {B1 : zB} {D1 : zMd} (h : RR c B H D) (h1 : pa_request B H x = (r1, B1)) (h2 : pm_request D x = (r2, D1)) : r1 = r2 ∧ RR (c + 1) B1 H D1 := sorry
theorem rr_send {x t g z : Int32} {se : Int64} {r1 r2 : Bool} {B1 : zB} {H1 : Nat → zG} {D1 : zMd} (h : RR c B H D) (h1 : pa_send B H x t g z se = (r1, B1, H1)) (h2 : pm_send D x t g z se = (r2, D1)) : r1 = r2 ∧ RR (c + 1) B1 H1 D1 := sorry
theorem rr_lose {r1 r2 : Bool} {B1 : zB} {D1 : zMd} (h : RR c B H D) (h1 : pa_lose B = (r1, B1)) (h2 : pm_lose D = (r2, D1)) : r1 = r2 ∧ RR (c + 1) B1 H D1 := sorry
theorem rr_deliver (h : RR c B H D) (keep : Bool) : ∃ s : Nat, s < 5 ∧ (¬ B.2.2.2.1 = 0 → B.2.2.1 (pc_least B.1 (B.2.2.2.1 - 1)) = nI s) ∧ (¬ D.2.1 = 0 → D.2.2.2.1 8 (pc_least (D.2.2.2.1 6) (D.2.1 - 1)) = nI s) ∧ (¬ D.2.1 = 0 → ∀ k < 5, zm (pm_rch s ((D.2.2.2.1 6 (pc_least (D.2.2.2.1 6) (D.2.1 - 1)) >>> (nI 16 &&& 31)) &&& nI 255) ((D.2.2.2.1 6 (pc_least (D.2.2.2.1 6) (D.2.1 - 1)) >>> (nI 8 &&& 31)) &&& nI 255) (D.2.2.2.1 6 (pc_least (D.2.2.2.1 6) (D.2.1 - 1)) &&& nI 255) (D.2.2.2.2 7 (pc_least (D.2.2.2.1 6) (D.2.1 - 1))) k (if keep = true then D else pm_take D (pc_least (D.2.2.2.1 6) (D.2.1 - 1)))) k) ∧
    ∀ {r1 r2 : Bool} {B1 : zB} {H1 : Nat → zG} {D1 : zMd}, pa_deliver B H keep s = (r1, B1, H1) → pm_deliver D keep s = (r2, D1) → r1 = r2 ∧ RR (c + 1) B1 H1 D1 := sorry
theorem rr_tick (h : RR c B H D) (hc : c < 512) (ms : Int32) : ((ms < nI 1 ∨ ¬ ms ≤ nI 2000) → pa_tick B H ms = (-1, B, H)) ∧ (¬ ms < nI 1 → ms ≤ nI 2000 → ∃ (N c' : Nat) (D' : zMd), pm_offs 20 (D.1 + ms) N 0 D = some (c', D') ∧ (pa_tick B H ms).1 = nI c' ∧ RR (c + 1) (pa_tick B H ms).2.1 (pa_tick B H ms).2.2 (pm_setNow D' (D.1 + ms))) := sorry
theorem rr_state (h : RR c B H D) (x : Int32) : pa_state H x = pm_state D.2.2.2.1 x := sorry
theorem rr_address (h : RR c B H D) (x : Int32) : pa_address H x = pm_address D.2.2.2.1 x := sorry
theorem rr_noted (h : RR c B H D) (x y : Int32) : pa_noted H x y = pm_noted D.2.2.2.1 x y := sorry
theorem rr_waiting (h : RR c B H D) : nI B.2.2.2.1 = nI D.2.1 := sorry
theorem rr_identifier (h : RR c B H D) : pa_identifier B = pm_identifier D := sorry
theorem rr_data (h : RR c B H D) : pa_data B = pm_data D := sorry
theorem rr_overflowed (h : RR c B H D) : B.2.2.2.2.1 = D.2.2.1 := sorry
theorem rr_outgoing (h : RR c B H D) (x : Int32) : pa_outgoing H x = pm_outgoing D.2.2.2.1 x := sorry
theorem rr_incoming (h : RR c B H D) (x : Int32) : pa_incoming H x = pm_incoming D.2.2.2.1 x := sorry
theorem rr_delivered (h : RR c B H D) (x : Int32) : pa_delivered H x = pm_delivered D.2.2.2.1 x := sorry
theorem rr_message (h : RR c B H D) (x y : Int32) : pa_message H x y = pm_message D.2.2.2.1 x y := sorry
theorem rr_byteOf (h : RR c B H D) (x y : Int32) : pa_byteOf H x y = pm_byteOf D.2.2.2.1 x y := sorry
end IF
