theorem mp1 {ws : va_W} {p1 : Nat} {c1 : Nat × va_E} (h1 : ws[p1]? = some c1) : ([p1] : List Nat).map (fun i => ws[i]?) = ([c1] : va_W).map some := by simp only [List.map_cons, List.map_nil, h1]
theorem mp2 {ws : va_W} {p1 p2 : Nat} {c1 c2 : Nat × va_E} (h1 : ws[p1]? = some c1) (h2 : ws[p2]? = some c2) : ([p1, p2] : List Nat).map (fun i => ws[i]?) = ([c1, c2] : va_W).map some := by simp only [List.map_cons, List.map_nil, h1, h2]
theorem mp3 {ws : va_W} {p1 p2 p3 : Nat} {c1 c2 c3 : Nat × va_E} (h1 : ws[p1]? = some c1) (h2 : ws[p2]? = some c2) (h3 : ws[p3]? = some c3) : ([p1, p2, p3] : List Nat).map (fun i => ws[i]?) = ([c1, c2, c3] : va_W).map some := by simp only [List.map_cons, List.map_nil, h1, h2, h3]
theorem mp4 {ws : va_W} {p1 p2 p3 p4 : Nat} {c1 c2 c3 c4 : Nat × va_E} (h1 : ws[p1]? = some c1) (h2 : ws[p2]? = some c2) (h3 : ws[p3]? = some c3) (h4 : ws[p4]? = some c4) : ([p1, p2, p3, p4] : List Nat).map (fun i => ws[i]?) = ([c1, c2, c3, c4] : va_W).map some := by simp only [List.map_cons, List.map_nil, h1, h2, h3, h4]
theorem mp5 {ws : va_W} {p1 p2 p3 p4 p5 : Nat} {c1 c2 c3 c4 c5 : Nat × va_E} (h1 : ws[p1]? = some c1) (h2 : ws[p2]? = some c2) (h3 : ws[p3]? = some c3) (h4 : ws[p4]? = some c4) (h5 : ws[p5]? = some c5) : ([p1, p2, p3, p4, p5] : List Nat).map (fun i => ws[i]?) = ([c1, c2, c3, c4, c5] : va_W).map some := by simp only [List.map_cons, List.map_nil, h1, h2, h3, h4, h5]
section P9e
variable {kc : Nat → ClassId} {ws : va_W} {ad ga gc : Nat → Nat} {M : Nat} {n : Nat → Int32} {f : Nat → Nat → Int32} {T : Nat → Option Nat} {G : Nat → Nat → Int32} {K : Nat → Nat → Option Nat} {F : Nat → Nat → Nat → Int32}
theorem Pic9.same (h : Pic9 kc ws ad ga gc M n f T G K F) {p : Nat} {c : Nat × va_E} (e : ws[p]? = some c) : Pic9 kc (ws.set p c) ad ga gc M n f T G K F := by rw [set_same ws p c e]; exact h
theorem Pic9.remC (h : Pic9 kc ws ad ga gc M n f T G K F) {i : Nat} (hi : i < M) (u : Int32) : Pic9 kc (ws.set (50 + 16 * i + 14) (ad (50 + 16 * i + 14), .inr (0, [.int (G i 22), .ref (ga (3 + i)), .int u]))) ad ga gc M n f T (u2 G i 23 u) K F := by
  refine h.blkG (j := 14) hi (by omega) ?_ (fun q hq hn => ?_)
  · simp [blk9, u1, va_up]
  · have e : ∀ b : Nat, b ≠ 23 → u1 (G i) 23 u b = G i b := fun b hb => u1_ne _ _ hb
    rcases s16 hq with rfl | rfl | rfl | rfl | rfl | rfl | rfl | rfl | rfl | rfl | rfl | rfl | rfl | rfl | rfl | rfl <;> simp [blk9, runL, kinL, fltL, e] at hn ⊢
theorem Pic9.grC0 (h : Pic9 kc ws ad ga gc M n f T G K F) (u : Int32) : Pic9 kc (ws.set 43 (ad 43, .inr (0, [.int (n 15), .ref (ga 0), .int u]))) ad ga gc M (u1 n 16 u) f T G K F := by
  refine h.fx (j := 43) (by omega) (by omega) (by simp [fx9, u1, va_up]) (fun q hq hq2 hn => ?_) (fun e => (Nat.lt_or_ge e 8).imp (fun h => u1_ne _ _ (by omega)) id) (fun _ _ _ => rfl) (fun _ _ => rfl) (fun _ _ => rfl)
  have e : ∀ b : Nat, b ≠ 16 → u1 n 16 u b = n b := fun b hb => u1_ne _ _ hb
  rcases s18 hq hq2 with rfl | rfl | rfl | rfl | rfl | rfl | rfl | rfl | rfl | rfl | rfl | rfl | rfl | rfl | rfl | rfl | rfl | rfl <;> simp [fx9, x9L, e] at hn ⊢
theorem Pic9.grC1 (h : Pic9 kc ws ad ga gc M n f T G K F) (u : Int32) : Pic9 kc (ws.set 46 (ad 46, .inr (0, [.int (n 18), .ref (ga 1), .int u]))) ad ga gc M (u1 n 19 u) f T G K F := by
  refine h.fx (j := 46) (by omega) (by omega) (by simp [fx9, u1, va_up]) (fun q hq hq2 hn => ?_) (fun e => (Nat.lt_or_ge e 8).imp (fun h => u1_ne _ _ (by omega)) id) (fun _ _ _ => rfl) (fun _ _ => rfl) (fun _ _ => rfl)
  have e : ∀ b : Nat, b ≠ 19 → u1 n 19 u b = n b := fun b hb => u1_ne _ _ hb
  rcases s18 hq hq2 with rfl | rfl | rfl | rfl | rfl | rfl | rfl | rfl | rfl | rfl | rfl | rfl | rfl | rfl | rfl | rfl | rfl | rfl <;> simp [fx9, x9L, e] at hn ⊢
theorem Pic9.grC2 (h : Pic9 kc ws ad ga gc M n f T G K F) (u : Int32) : Pic9 kc (ws.set 48 (ad 48, .inr (0, [.int (n 20), .ref (ga 2), .int u]))) ad ga gc M (u1 n 21 u) f T G K F := by
  refine h.fx (j := 48) (by omega) (by omega) (by simp [fx9, u1, va_up]) (fun q hq hq2 hn => ?_) (fun e => (Nat.lt_or_ge e 8).imp (fun h => u1_ne _ _ (by omega)) id) (fun _ _ _ => rfl) (fun _ _ => rfl) (fun _ _ => rfl)
  have e : ∀ b : Nat, b ≠ 21 → u1 n 21 u b = n b := fun b hb => u1_ne _ _ hb
  rcases s18 hq hq2 with rfl | rfl | rfl | rfl | rfl | rfl | rfl | rfl | rfl | rfl | rfl | rfl | rfl | rfl | rfl | rfl | rfl | rfl <;> simp [fx9, x9L, e] at hn ⊢
theorem rnA_in {i : Nat} (h : i < M) : rnA ad M i = some (ad (50 + 16 * i)) := by unfold rnA; rw [if_pos h]
theorem rnA_out {i : Nat} (h : ¬ i < M) : rnA ad M i = none := by unfold rnA; rw [if_neg h]
theorem erA_in {e : Nat} (h : e < 8) : erA ad e = some (ad (4 + 4 * e)) := by unfold erA; rw [if_pos h]
end P9e
def chM (M : Nat) (o : Option Nat) : Nat := match o with
  | none => 0
  | some j => M - j
