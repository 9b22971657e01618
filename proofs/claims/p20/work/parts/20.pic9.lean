/-- the class's world: 50 cells of its own and a block of 16 for each RUN that was ever made -/
def rA9 (ad : Nat → Nat) (o : Option Nat) : Option Nat := o.map (fun i => ad (50 + 16 * i))
def runL (ad : Nat → Nat) (g : Nat → Int32) (i : Nat) : List Value := [.int (g 0), .int (g 1), .int (g 2), .int (g 3), .int (g 4), .int (g 5), .int (g 6), .int (g 7), .int (g 8), .int (g 9), .ref (ad (50 + 16 * i + 1)), .ref (ad (50 + 16 * i + 2)), .ref (ad (50 + 16 * i + 6)), .ref (ad (50 + 16 * i + 13)), .ref (ad (50 + 16 * i + 14))]
def kinL (ad : Nat → Nat) (g : Nat → Int32) (k : Nat → Option Nat) : List Value := [va_rf (rA9 ad (k 0)), va_rf (rA9 ad (k 1)), .int (g 10), .int (g 11), .int (g 12), va_rf (rA9 ad (k 2)), va_rf (rA9 ad (k 3)), va_rf (rA9 ad (k 4)), .int (g 13)]
def memL (ad : Nat → Nat) (i : Nat) : List Value := [.ref (ad (50 + 16 * i + 3)), .ref (ad (50 + 16 * i + 4)), .ref (ad (50 + 16 * i + 5))]
def scoL (ad : Nat → Nat) (i : Nat) (x y z : Int32) : List Value := [.ref (ad (50 + 16 * i + 7)), .ref (ad (50 + 16 * i + 8)), .ref (ad (50 + 16 * i + 9)), .int x, .ref (ad (50 + 16 * i + 10)), .ref (ad (50 + 16 * i + 11)), .ref (ad (50 + 16 * i + 12)), .int y, .int z]
def fltL (g : Nat → Int32) : List Value := [.int (g 17), .int (g 18), .int (g 19), .int (g 20), .int (g 21)]
def blk9 (kc : Nat → ClassId) (ad : Nat → Nat) (a c : Nat) (g : Nat → Int32) (k : Nat → Option Nat) (F : Nat → Nat → Int32) (i j : Nat) : Nat × va_E := match j with
  | 0 => (ad (50 + 16 * i), .inr (7, runL ad g i))
  | 1 => (ad (50 + 16 * i + 1), .inr (4, kinL ad g k))
  | 2 => (ad (50 + 16 * i + 2), .inr (6, memL ad i))
  | 3 => (ad (50 + 16 * i + 3), .inl (kc 1, 8, .inl (F 0)))
  | 4 => (ad (50 + 16 * i + 4), .inl (kc 0, 8, .inl (F 1)))
  | 5 => (ad (50 + 16 * i + 5), .inl (kc 0, 8, .inl (F 2)))
  | 6 => (ad (50 + 16 * i + 6), .inr (8, scoL ad i (g 14) (g 15) (g 16)))
  | 7 => (ad (50 + 16 * i + 7), .inl (kc 0, 24, .inl (F 3)))
  | 8 => (ad (50 + 16 * i + 8), .inl (kc 0, 24, .inl (F 4)))
  | 9 => (ad (50 + 16 * i + 9), .inl (kc 0, 24, .inl (F 5)))
  | 10 => (ad (50 + 16 * i + 10), .inl (kc 0, 24, .inl (F 6)))
  | 11 => (ad (50 + 16 * i + 11), .inl (kc 0, 24, .inl (F 7)))
  | 12 => (ad (50 + 16 * i + 12), .inl (kc 0, 24, .inl (F 8)))
  | 13 => (ad (50 + 16 * i + 13), .inr (2, fltL g))
  | 14 => (ad (50 + 16 * i + 14), .inr (0, [.int (g 22), .ref a, .int (g 23)]))
  | _ => (a, .inl (kc 0, c, .inl (F 9)))
def err9 (kc : Nat → ClassId) (ad : Nat → Nat) (n : Nat → Int32) (f : Nat → Nat → Int32) (e j : Nat) : Nat × va_E := match j with
  | 0 => (ad (4 + 4 * e), .inr (1, [.ref (ad (4 + 4 * e + 1)), .ref (ad (4 + 4 * e + 2)), .ref (ad (4 + 4 * e + 3)), .int (n (6 + e))]))
  | 1 => (ad (4 + 4 * e + 1), .inl (kc 0, 24, .inl (f (2 + 3 * e))))
  | 2 => (ad (4 + 4 * e + 2), .inl (kc 0, 24, .inl (f (3 + 3 * e))))
  | _ => (ad (4 + 4 * e + 3), .inl (kc 0, 24, .inl (f (4 + 3 * e))))
def x9L (ad : Nat → Nat) (n : Nat → Int32) : List Value := [.ref (ad 1), .ref (ad 2), .ref (ad 3), .ref (ad 36), .ref (ad 40), .int (n 0), .ref (ad 41), .int (n 1), .int (n 2), .ref (ad 42), .int (n 3), .ref (ad 45), .int (n 4), .ref (ad 48), .int (n 5)]
def erA (ad : Nat → Nat) : Nat → Option Nat := fun e => if e < 8 then some (ad (4 + 4 * e)) else none
def rnA (ad : Nat → Nat) (M : Nat) : Nat → Option Nat := fun i => if i < M then some (ad (50 + 16 * i)) else none
def thA (ad : Nat → Nat) (T : Nat → Option Nat) : Nat → Option Nat := fun t => rA9 ad (T t)
def fx9 (kc : Nat → ClassId) (ad ga gc : Nat → Nat) (M : Nat) (n : Nat → Int32) (f : Nat → Nat → Int32) (T : Nat → Option Nat) (j : Nat) : Nat × va_E := match j with
  | 0 => (ad 0, .inr (9, x9L ad n))
  | 1 => (ad 1, .inl (kc 0, 8, .inl (f 0)))
  | 2 => (ad 2, .inl (kc 0, 8, .inl (f 1)))
  | 3 => (ad 3, .inl (kc 2, 8, .inr (.inr (.inr (.inr (erA ad))))))
  | 36 => (ad 36, .inr (3, [.ref (ad 37), .ref (ad 38), .ref (ad 39)]))
  | 37 => (ad 37, .inl (kc 1, 17, .inl (f 26)))
  | 38 => (ad 38, .inl (kc 0, 17, .inl (f 27)))
  | 39 => (ad 39, .inl (kc 1, 17, .inl (f 28)))
  | 40 => (ad 40, .inl (kc 3, 200, .inr (.inr (.inr (.inr (rnA ad M))))))
  | 41 => (ad 41, .inl (kc 3, 6, .inr (.inr (.inr (.inr (thA ad T))))))
  | 42 => (ad 42, .inr (5, [.int (n 14), .ref (ad 43)]))
  | 43 => (ad 43, .inr (0, [.int (n 15), .ref (ga 0), .int (n 16)]))
  | 44 => (ga 0, .inl (kc 0, gc 0, .inl (f 29)))
  | 45 => (ad 45, .inr (5, [.int (n 17), .ref (ad 46)]))
  | 46 => (ad 46, .inr (0, [.int (n 18), .ref (ga 1), .int (n 19)]))
  | 47 => (ga 1, .inl (kc 0, gc 1, .inl (f 30)))
  | 48 => (ad 48, .inr (0, [.int (n 20), .ref (ga 2), .int (n 21)]))
  | _ => (ga 2, .inl (kc 0, gc 2, .inl (f 31)))
def Pic9 (kc : Nat → ClassId) (ws : va_W) (ad ga gc : Nat → Nat) (M : Nat) (n : Nat → Int32) (f : Nat → Nat → Int32) (T : Nat → Option Nat) (G : Nat → Nat → Int32) (K : Nat → Nat → Option Nat) (F : Nat → Nat → Nat → Int32) : Prop :=
  ws.length = 50 + 16 * M ∧ (∀ j : Nat, j < 50 → (j < 4 ∨ 36 ≤ j) → ws[j]? = some (fx9 kc ad ga gc M n f T j)) ∧ (∀ e : Nat, e < 8 → ∀ j : Nat, j < 4 → ws[4 + 4 * e + j]? = some (err9 kc ad n f e j)) ∧ ∀ i : Nat, i < M → ∀ j : Nat, j < 16 → ws[50 + 16 * i + j]? = some (blk9 kc ad (ga (3 + i)) (gc (3 + i)) (G i) (K i) (F i) i j)
section P9
variable {kc : Nat → ClassId} {ws : va_W} {ad ga gc : Nat → Nat} {M : Nat} {n : Nat → Int32} {f : Nat → Nat → Int32} {T : Nat → Option Nat} {G : Nat → Nat → Int32} {K : Nat → Nat → Option Nat} {F : Nat → Nat → Nat → Int32}
theorem Pic9.b0 (h : Pic9 kc ws ad ga gc M n f T G K F) {i : Nat} (hi : i < M) : ws[50 + 16 * i]? = some (ad (50 + 16 * i), .inr (7, runL ad (G i) i)) := h.2.2.2 i hi 0 (by omega)
theorem Pic9.b1 (h : Pic9 kc ws ad ga gc M n f T G K F) {i : Nat} (hi : i < M) : ws[50 + 16 * i + 1]? = some (ad (50 + 16 * i + 1), .inr (4, kinL ad (G i) (K i))) := h.2.2.2 i hi 1 (by omega)
theorem Pic9.b2 (h : Pic9 kc ws ad ga gc M n f T G K F) {i : Nat} (hi : i < M) : ws[50 + 16 * i + 2]? = some (ad (50 + 16 * i + 2), .inr (6, memL ad i)) := h.2.2.2 i hi 2 (by omega)
theorem Pic9.b3 (h : Pic9 kc ws ad ga gc M n f T G K F) {i : Nat} (hi : i < M) : ws[50 + 16 * i + 3]? = some (ad (50 + 16 * i + 3), .inl (kc 1, 8, .inl (F i 0))) := h.2.2.2 i hi 3 (by omega)
theorem Pic9.b4 (h : Pic9 kc ws ad ga gc M n f T G K F) {i : Nat} (hi : i < M) : ws[50 + 16 * i + 4]? = some (ad (50 + 16 * i + 4), .inl (kc 0, 8, .inl (F i 1))) := h.2.2.2 i hi 4 (by omega)
theorem Pic9.b5 (h : Pic9 kc ws ad ga gc M n f T G K F) {i : Nat} (hi : i < M) : ws[50 + 16 * i + 5]? = some (ad (50 + 16 * i + 5), .inl (kc 0, 8, .inl (F i 2))) := h.2.2.2 i hi 5 (by omega)
theorem Pic9.b6 (h : Pic9 kc ws ad ga gc M n f T G K F) {i : Nat} (hi : i < M) : ws[50 + 16 * i + 6]? = some (ad (50 + 16 * i + 6), .inr (8, scoL ad i (G i 14) (G i 15) (G i 16))) := h.2.2.2 i hi 6 (by omega)
theorem Pic9.b7 (h : Pic9 kc ws ad ga gc M n f T G K F) {i : Nat} (hi : i < M) : ws[50 + 16 * i + 7]? = some (ad (50 + 16 * i + 7), .inl (kc 0, 24, .inl (F i 3))) := h.2.2.2 i hi 7 (by omega)
theorem Pic9.b8 (h : Pic9 kc ws ad ga gc M n f T G K F) {i : Nat} (hi : i < M) : ws[50 + 16 * i + 8]? = some (ad (50 + 16 * i + 8), .inl (kc 0, 24, .inl (F i 4))) := h.2.2.2 i hi 8 (by omega)
theorem Pic9.b9 (h : Pic9 kc ws ad ga gc M n f T G K F) {i : Nat} (hi : i < M) : ws[50 + 16 * i + 9]? = some (ad (50 + 16 * i + 9), .inl (kc 0, 24, .inl (F i 5))) := h.2.2.2 i hi 9 (by omega)
theorem Pic9.b10 (h : Pic9 kc ws ad ga gc M n f T G K F) {i : Nat} (hi : i < M) : ws[50 + 16 * i + 10]? = some (ad (50 + 16 * i + 10), .inl (kc 0, 24, .inl (F i 6))) := h.2.2.2 i hi 10 (by omega)
theorem Pic9.b11 (h : Pic9 kc ws ad ga gc M n f T G K F) {i : Nat} (hi : i < M) : ws[50 + 16 * i + 11]? = some (ad (50 + 16 * i + 11), .inl (kc 0, 24, .inl (F i 7))) := h.2.2.2 i hi 11 (by omega)
theorem Pic9.b12 (h : Pic9 kc ws ad ga gc M n f T G K F) {i : Nat} (hi : i < M) : ws[50 + 16 * i + 12]? = some (ad (50 + 16 * i + 12), .inl (kc 0, 24, .inl (F i 8))) := h.2.2.2 i hi 12 (by omega)
theorem Pic9.b13 (h : Pic9 kc ws ad ga gc M n f T G K F) {i : Nat} (hi : i < M) : ws[50 + 16 * i + 13]? = some (ad (50 + 16 * i + 13), .inr (2, fltL (G i))) := h.2.2.2 i hi 13 (by omega)
theorem Pic9.b14 (h : Pic9 kc ws ad ga gc M n f T G K F) {i : Nat} (hi : i < M) : ws[50 + 16 * i + 14]? = some (ad (50 + 16 * i + 14), .inr (0, [.int (G i 22), .ref (ga (3 + i)), .int (G i 23)])) := h.2.2.2 i hi 14 (by omega)
theorem Pic9.b15 (h : Pic9 kc ws ad ga gc M n f T G K F) {i : Nat} (hi : i < M) : ws[50 + 16 * i + 15]? = some (ga (3 + i), .inl (kc 0, gc (3 + i), .inl (F i 9))) := h.2.2.2 i hi 15 (by omega)
theorem Pic9.x0 (h : Pic9 kc ws ad ga gc M n f T G K F) : ws[0]? = some (ad 0, .inr (9, x9L ad n)) := h.2.1 0 (by omega) (by omega)
theorem Pic9.x1 (h : Pic9 kc ws ad ga gc M n f T G K F) : ws[1]? = some (ad 1, .inl (kc 0, 8, .inl (f 0))) := h.2.1 1 (by omega) (by omega)
theorem Pic9.x2 (h : Pic9 kc ws ad ga gc M n f T G K F) : ws[2]? = some (ad 2, .inl (kc 0, 8, .inl (f 1))) := h.2.1 2 (by omega) (by omega)
theorem Pic9.x3 (h : Pic9 kc ws ad ga gc M n f T G K F) : ws[3]? = some (ad 3, .inl (kc 2, 8, .inr (.inr (.inr (.inr (erA ad)))))) := h.2.1 3 (by omega) (by omega)
theorem Pic9.x36 (h : Pic9 kc ws ad ga gc M n f T G K F) : ws[36]? = some (ad 36, .inr (3, [.ref (ad 37), .ref (ad 38), .ref (ad 39)])) := h.2.1 36 (by omega) (by omega)
theorem Pic9.x37 (h : Pic9 kc ws ad ga gc M n f T G K F) : ws[37]? = some (ad 37, .inl (kc 1, 17, .inl (f 26))) := h.2.1 37 (by omega) (by omega)
theorem Pic9.x38 (h : Pic9 kc ws ad ga gc M n f T G K F) : ws[38]? = some (ad 38, .inl (kc 0, 17, .inl (f 27))) := h.2.1 38 (by omega) (by omega)
theorem Pic9.x39 (h : Pic9 kc ws ad ga gc M n f T G K F) : ws[39]? = some (ad 39, .inl (kc 1, 17, .inl (f 28))) := h.2.1 39 (by omega) (by omega)
theorem Pic9.x40 (h : Pic9 kc ws ad ga gc M n f T G K F) : ws[40]? = some (ad 40, .inl (kc 3, 200, .inr (.inr (.inr (.inr (rnA ad M)))))) := h.2.1 40 (by omega) (by omega)
theorem Pic9.x41 (h : Pic9 kc ws ad ga gc M n f T G K F) : ws[41]? = some (ad 41, .inl (kc 3, 6, .inr (.inr (.inr (.inr (thA ad T)))))) := h.2.1 41 (by omega) (by omega)
theorem Pic9.x42 (h : Pic9 kc ws ad ga gc M n f T G K F) : ws[42]? = some (ad 42, .inr (5, [.int (n 14), .ref (ad 43)])) := h.2.1 42 (by omega) (by omega)
theorem Pic9.x43 (h : Pic9 kc ws ad ga gc M n f T G K F) : ws[43]? = some (ad 43, .inr (0, [.int (n 15), .ref (ga 0), .int (n 16)])) := h.2.1 43 (by omega) (by omega)
theorem Pic9.x44 (h : Pic9 kc ws ad ga gc M n f T G K F) : ws[44]? = some (ga 0, .inl (kc 0, gc 0, .inl (f 29))) := h.2.1 44 (by omega) (by omega)
theorem Pic9.x45 (h : Pic9 kc ws ad ga gc M n f T G K F) : ws[45]? = some (ad 45, .inr (5, [.int (n 17), .ref (ad 46)])) := h.2.1 45 (by omega) (by omega)
theorem Pic9.x46 (h : Pic9 kc ws ad ga gc M n f T G K F) : ws[46]? = some (ad 46, .inr (0, [.int (n 18), .ref (ga 1), .int (n 19)])) := h.2.1 46 (by omega) (by omega)
theorem Pic9.x47 (h : Pic9 kc ws ad ga gc M n f T G K F) : ws[47]? = some (ga 1, .inl (kc 0, gc 1, .inl (f 30))) := h.2.1 47 (by omega) (by omega)
theorem Pic9.x48 (h : Pic9 kc ws ad ga gc M n f T G K F) : ws[48]? = some (ad 48, .inr (0, [.int (n 20), .ref (ga 2), .int (n 21)])) := h.2.1 48 (by omega) (by omega)
theorem Pic9.x49 (h : Pic9 kc ws ad ga gc M n f T G K F) : ws[49]? = some (ga 2, .inl (kc 0, gc 2, .inl (f 31))) := h.2.1 49 (by omega) (by omega)
theorem Pic9.e0 (h : Pic9 kc ws ad ga gc M n f T G K F) {e : Nat} (he : e < 8) : ws[4 + 4 * e]? = some (ad (4 + 4 * e), .inr (1, [.ref (ad (4 + 4 * e + 1)), .ref (ad (4 + 4 * e + 2)), .ref (ad (4 + 4 * e + 3)), .int (n (6 + e))])) := h.2.2.1 e he 0 (by omega)
theorem Pic9.e1 (h : Pic9 kc ws ad ga gc M n f T G K F) {e : Nat} (he : e < 8) : ws[4 + 4 * e + 1]? = some (ad (4 + 4 * e + 1), .inl (kc 0, 24, .inl (f (2 + 3 * e)))) := h.2.2.1 e he 1 (by omega)
theorem Pic9.e2 (h : Pic9 kc ws ad ga gc M n f T G K F) {e : Nat} (he : e < 8) : ws[4 + 4 * e + 2]? = some (ad (4 + 4 * e + 2), .inl (kc 0, 24, .inl (f (3 + 3 * e)))) := h.2.2.1 e he 2 (by omega)
theorem Pic9.e3 (h : Pic9 kc ws ad ga gc M n f T G K F) {e : Nat} (he : e < 8) : ws[4 + 4 * e + 3]? = some (ad (4 + 4 * e + 3), .inl (kc 0, 24, .inl (f (4 + 3 * e)))) := h.2.2.1 e he 3 (by omega)
/-- one cell of a RUN's block is another now -/
theorem Pic9.blk (h : Pic9 kc ws ad ga gc M n f T G K F) {i j : Nat} (hi : i < M) (hj : j < 16) {a c : Nat} {g : Nat → Int32} {k : Nat → Option Nat} {B : Nat → Nat → Int32} {x : Nat × va_E} (hx : x = blk9 kc ad a c g k B i j) (ho : ∀ q : Nat, q < 16 → q ≠ j → blk9 kc ad a c g k B i q = blk9 kc ad (ga (3 + i)) (gc (3 + i)) (G i) (K i) (F i) i q) :
    Pic9 kc (ws.set (50 + 16 * i + j) x) ad (u1 ga (3 + i) a) (u1 gc (3 + i) c) M n f T (u1 G i g) (u1 K i k) (u1 F i B) := by
  obtain ⟨h1, h2, h3, h4⟩ := h
  refine ⟨by rw [List.length_set]; exact h1, fun q hq hq2 => ?_, fun e he q hq => ?_, fun i2 hi2 q hq => ?_⟩
  · rw [List.getElem?_set_ne (by omega), h2 q hq hq2]
    have e0 : u1 ga (3 + i) a 0 = ga 0 := u1_ne _ _ (by omega)
    have e1 : u1 ga (3 + i) a 1 = ga 1 := u1_ne _ _ (by omega)
    have e2 : u1 ga (3 + i) a 2 = ga 2 := u1_ne _ _ (by omega)
    have e3 : u1 gc (3 + i) c 0 = gc 0 := u1_ne _ _ (by omega)
    have e4 : u1 gc (3 + i) c 1 = gc 1 := u1_ne _ _ (by omega)
    have e5 : u1 gc (3 + i) c 2 = gc 2 := u1_ne _ _ (by omega)
    unfold fx9
    rw [e0, e1, e2, e3, e4, e5]
  · rw [List.getElem?_set_ne (by omega), h3 e he q hq]
  · by_cases ei : i2 = i
    · subst ei
      rw [u1_eq, u1_eq, u1_eq, u1_eq, u1_eq]
      by_cases ej : q = j
      · subst ej
        rw [List.getElem?_set_self (by omega), hx]
      · rw [List.getElem?_set_ne (by omega), h4 i2 hi2 q hq, ho q hq ej]
    · rw [u1_ne _ _ (show 3 + i2 ≠ 3 + i by omega), u1_ne _ _ (show 3 + i2 ≠ 3 + i by omega), u1_ne _ _ ei, u1_ne _ _ ei, u1_ne _ _ ei, List.getElem?_set_ne (by omega)]
      exact h4 i2 hi2 q hq
theorem Pic9.blkG (h : Pic9 kc ws ad ga gc M n f T G K F) {i j : Nat} (hi : i < M) (hj : j < 16) {g : Nat → Int32} {x : Nat × va_E} (hx : x = blk9 kc ad (ga (3 + i)) (gc (3 + i)) g (K i) (F i) i j) (ho : ∀ q : Nat, q < 16 → q ≠ j → blk9 kc ad (ga (3 + i)) (gc (3 + i)) g (K i) (F i) i q = blk9 kc ad (ga (3 + i)) (gc (3 + i)) (G i) (K i) (F i) i q) :
    Pic9 kc (ws.set (50 + 16 * i + j) x) ad ga gc M n f T (u1 G i g) K F := by
  have z := h.blk hi hj hx ho
  rwa [u1_id, u1_id, u1_id, u1_id] at z
theorem s16 {q : Nat} (h : q < 16) : q = 0 ∨ q = 1 ∨ q = 2 ∨ q = 3 ∨ q = 4 ∨ q = 5 ∨ q = 6 ∨ q = 7 ∨ q = 8 ∨ q = 9 ∨ q = 10 ∨ q = 11 ∨ q = 12 ∨ q = 13 ∨ q = 14 ∨ q = 15 := by omega
theorem Pic9.run (h : Pic9 kc ws ad ga gc M n f T G K F) {i : Nat} (hi : i < M) (k : Nat) (hk : k < 10) (v : Int32) : Pic9 kc (ws.set (50 + 16 * i) (ad (50 + 16 * i), .inr (7, (runL ad (G i) i).set k (.int v)))) ad ga gc M n f T (u2 G i k v) K F := by
  refine h.blkG (j := 0) hi (by omega) ?_ (fun q hq hn => ?_)
  · rcases (show k = 0 ∨ k = 1 ∨ k = 2 ∨ k = 3 ∨ k = 4 ∨ k = 5 ∨ k = 6 ∨ k = 7 ∨ k = 8 ∨ k = 9 by omega) with rfl | rfl | rfl | rfl | rfl | rfl | rfl | rfl | rfl | rfl <;> rfl
  · have e : ∀ b : Nat, 10 ≤ b → u1 (G i) k v b = G i b := fun b hb => u1_ne _ _ (by omega)
    rcases s16 hq with rfl | rfl | rfl | rfl | rfl | rfl | rfl | rfl | rfl | rfl | rfl | rfl | rfl | rfl | rfl | rfl <;> simp [blk9, kinL, fltL, e] at hn ⊢
theorem Pic9.kinI (h : Pic9 kc ws ad ga gc M n f T G K F) {i : Nat} (hi : i < M) (k p : Nat) (hk : k = 10 ∧ p = 2 ∨ k = 11 ∧ p = 3 ∨ k = 12 ∧ p = 4 ∨ k = 13 ∧ p = 8) (v : Int32) : Pic9 kc (ws.set (50 + 16 * i + 1) (ad (50 + 16 * i + 1), .inr (4, (kinL ad (G i) (K i)).set p (.int v)))) ad ga gc M n f T (u2 G i k v) K F := by
  refine h.blkG (j := 1) hi (by omega) ?_ (fun q hq hn => ?_)
  · rcases hk with ⟨rfl, rfl⟩ | ⟨rfl, rfl⟩ | ⟨rfl, rfl⟩ | ⟨rfl, rfl⟩ <;> rfl
  · have e : ∀ b : Nat, b < 10 ∨ 14 ≤ b → u1 (G i) k v b = G i b := fun b hb => u1_ne _ _ (by omega)
    rcases s16 hq with rfl | rfl | rfl | rfl | rfl | rfl | rfl | rfl | rfl | rfl | rfl | rfl | rfl | rfl | rfl | rfl <;> simp [blk9, runL, fltL, e] at hn ⊢
theorem Pic9.fltI (h : Pic9 kc ws ad ga gc M n f T G K F) {i : Nat} (hi : i < M) (k : Nat) (hk : k < 5) (v : Int32) : Pic9 kc (ws.set (50 + 16 * i + 13) (ad (50 + 16 * i + 13), .inr (2, (fltL (G i)).set k (.int v)))) ad ga gc M n f T (u2 G i (17 + k) v) K F := by
  refine h.blkG (j := 13) hi (by omega) ?_ (fun q hq hn => ?_)
  · rcases (show k = 0 ∨ k = 1 ∨ k = 2 ∨ k = 3 ∨ k = 4 by omega) with rfl | rfl | rfl | rfl | rfl <;> rfl
  · have e : ∀ b : Nat, b < 17 ∨ 22 ≤ b → u1 (G i) (17 + k) v b = G i b := fun b hb => u1_ne _ _ (by omega)
    rcases s16 hq with rfl | rfl | rfl | rfl | rfl | rfl | rfl | rfl | rfl | rfl | rfl | rfl | rfl | rfl | rfl | rfl <;> simp [blk9, runL, kinL, e] at hn ⊢
/-- a whole FAULT anew -/
theorem Pic9.flt (h : Pic9 kc ws ad ga gc M n f T G K F) {i : Nat} (hi : i < M) (v0 v1 v2 v3 v4 : Int32) : Pic9 kc (ws.set (50 + 16 * i + 13) (ad (50 + 16 * i + 13), .inr (2, [.int v0, .int v1, .int v2, .int v3, .int v4]))) ad ga gc M n f T (u1 G i (u1 (u1 (u1 (u1 (u1 (G i) 17 v0) 18 v1) 19 v2) 20 v3) 21 v4)) K F := by
  refine h.blkG (j := 13) hi (by omega) rfl (fun q hq hn => ?_)
  have e : ∀ b : Nat, b < 17 ∨ 22 ≤ b → u1 (u1 (u1 (u1 (u1 (G i) 17 v0) 18 v1) 19 v2) 20 v3) 21 v4 b = G i b := fun b hb => by rw [u1_ne _ _ (by omega), u1_ne _ _ (by omega), u1_ne _ _ (by omega), u1_ne _ _ (by omega), u1_ne _ _ (by omega)]
  rcases s16 hq with rfl | rfl | rfl | rfl | rfl | rfl | rfl | rfl | rfl | rfl | rfl | rfl | rfl | rfl | rfl | rfl <;> simp [blk9, runL, kinL, e] at hn ⊢
theorem Pic9.sco (h : Pic9 kc ws ad ga gc M n f T G K F) {i : Nat} (hi : i < M) (x y z : Int32) : Pic9 kc (ws.set (50 + 16 * i + 6) (ad (50 + 16 * i + 6), .inr (8, scoL ad i x y z))) ad ga gc M n f T (u1 G i (u1 (u1 (u1 (G i) 14 x) 15 y) 16 z)) K F := by
  refine h.blkG (j := 6) hi (by omega) rfl (fun q hq hn => ?_)
  have e : ∀ b : Nat, b < 14 ∨ 17 ≤ b → u1 (u1 (u1 (G i) 14 x) 15 y) 16 z b = G i b := fun b hb => by rw [u1_ne _ _ (by omega), u1_ne _ _ (by omega), u1_ne _ _ (by omega)]
  rcases s16 hq with rfl | rfl | rfl | rfl | rfl | rfl | rfl | rfl | rfl | rfl | rfl | rfl | rfl | rfl | rfl | rfl <;> simp [blk9, runL, kinL, fltL, e] at hn ⊢
theorem Pic9.kinR (h : Pic9 kc ws ad ga gc M n f T G K F) {i : Nat} (hi : i < M) (k p : Nat) (hk : k = 0 ∧ p = 0 ∨ k = 1 ∧ p = 1 ∨ k = 2 ∧ p = 5 ∨ k = 3 ∧ p = 6 ∨ k = 4 ∧ p = 7) (o : Option Nat) : Pic9 kc (ws.set (50 + 16 * i + 1) (ad (50 + 16 * i + 1), .inr (4, (kinL ad (G i) (K i)).set p (va_rf (rA9 ad o))))) ad ga gc M n f T G (u2 K i k o) F := by
  have z := h.blk (j := 1) hi (by omega) (a := ga (3 + i)) (c := gc (3 + i)) (g := G i) (k := u1 (K i) k o) (B := F i) (x := (ad (50 + 16 * i + 1), .inr (4, (kinL ad (G i) (K i)).set p (va_rf (rA9 ad o))))) (by rcases hk with ⟨rfl, rfl⟩ | ⟨rfl, rfl⟩ | ⟨rfl, rfl⟩ | ⟨rfl, rfl⟩ | ⟨rfl, rfl⟩ <;> rfl) (fun q hq hn => by
    rcases s16 hq with rfl | rfl | rfl | rfl | rfl | rfl | rfl | rfl | rfl | rfl | rfl | rfl | rfl | rfl | rfl | rfl <;> first | rfl | exact absurd rfl hn)
  rw [u1_id, u1_id, u1_id, u1_id] at z
  exact z
/-- the contents of an array of a block; k its number -/
theorem Pic9.arr (h : Pic9 kc ws ad ga gc M n f T G K F) {i : Nat} (hi : i < M) (j k : Nat) (hk : (3 ≤ j ∧ j ≤ 5 ∧ k + 3 = j) ∨ (7 ≤ j ∧ j ≤ 12 ∧ k + 4 = j)) (g : Nat → Int32) {x : Nat × va_E} (hx : x = blk9 kc ad (ga (3 + i)) (gc (3 + i)) (G i) (K i) (u1 (F i) k g) i j) : Pic9 kc (ws.set (50 + 16 * i + j) x) ad ga gc M n f T G K (u2 F i k g) := by
  have z := h.blk (j := j) hi (by omega) (a := ga (3 + i)) (c := gc (3 + i)) (g := G i) (k := K i) (B := u1 (F i) k g) hx (fun q hq hn => by
    have e : ∀ b : Nat, b ≠ k → u1 (F i) k g b = F i b := fun b hb => u1_ne _ _ hb
    rcases s16 hq with rfl | rfl | rfl | rfl | rfl | rfl | rfl | rfl | rfl | rfl | rfl | rfl | rfl | rfl | rfl | rfl <;> first | rfl | (simp only [blk9]; rw [e _ (by omega)]))
  rw [u1_id, u1_id, u1_id, u1_id] at z
  exact z
/-- the remarks of a RUN: number of them, the array (which may be another) -/
theorem Pic9.rem (h : Pic9 kc ws ad ga gc M n f T G K F) {i : Nat} (hi : i < M) (a c : Nat) (u : Int32) (g : Nat → Int32) : Pic9 kc ((ws.set (50 + 16 * i + 14) (ad (50 + 16 * i + 14), .inr (0, [.int (G i 22), .ref a, .int u]))).set (50 + 16 * i + 15) (a, .inl (kc 0, c, .inl g))) ad (u1 ga (3 + i) a) (u1 gc (3 + i) c) M n f T (u2 G i 23 u) K (u2 F i 9 g) := by
  obtain ⟨h1, h2, h3, h4⟩ := h
  refine ⟨by rw [List.length_set, List.length_set]; exact h1, fun q hq hq2 => ?_, fun e he q hq => ?_, fun i2 hi2 q hq => ?_⟩
  · rw [List.getElem?_set_ne (by omega), List.getElem?_set_ne (by omega), h2 q hq hq2]
    have e0 : u1 ga (3 + i) a 0 = ga 0 := u1_ne _ _ (by omega)
    have e1 : u1 ga (3 + i) a 1 = ga 1 := u1_ne _ _ (by omega)
    have e2 : u1 ga (3 + i) a 2 = ga 2 := u1_ne _ _ (by omega)
    have e3 : u1 gc (3 + i) c 0 = gc 0 := u1_ne _ _ (by omega)
    have e4 : u1 gc (3 + i) c 1 = gc 1 := u1_ne _ _ (by omega)
    have e5 : u1 gc (3 + i) c 2 = gc 2 := u1_ne _ _ (by omega)
    unfold fx9
    rw [e0, e1, e2, e3, e4, e5]
  · rw [List.getElem?_set_ne (by omega), List.getElem?_set_ne (by omega), h3 e he q hq]
  · by_cases ei : i2 = i
    · subst ei
      have hl : 50 + 16 * i2 + 15 < ws.length := by omega
      have e : ∀ b : Nat, b ≠ 23 → u1 (G i2) 23 u b = G i2 b := fun b hb => u1_ne _ _ hb
      have e' : ∀ b : Nat, b ≠ 9 → u1 (F i2) 9 g b = F i2 b := fun b hb => u1_ne _ _ hb
      unfold u2
      rw [u1_eq, u1_eq, u1_eq, u1_eq]
      by_cases e5 : q = 15
      · subst e5
        rw [List.getElem?_set_self (by rw [List.length_set]; exact hl)]
        simp [blk9, u1_eq]
      · rw [List.getElem?_set_ne (by omega)]
        by_cases e4 : q = 14
        · subst e4
          rw [List.getElem?_set_self (by omega)]
          simp [blk9, u1_eq, e]
        · rw [List.getElem?_set_ne (by omega), h4 i2 hi2 q hq]
          rcases s16 hq with rfl | rfl | rfl | rfl | rfl | rfl | rfl | rfl | rfl | rfl | rfl | rfl | rfl | rfl | rfl | rfl <;> simp [blk9, runL, kinL, fltL, e, e'] at e4 e5 ⊢
    · rw [u1_ne _ _ (show 3 + i2 ≠ 3 + i by omega), u1_ne _ _ (show 3 + i2 ≠ 3 + i by omega), u2_n1 _ _ _ ei, u2_n1 _ _ _ ei, List.getElem?_set_ne (by omega), List.getElem?_set_ne (by omega)]
      exact h4 i2 hi2 q hq
end P9
