theorem u1_u1 {α : Type} (f : Nat → α) (k : Nat) (v w : α) : u1 (u1 f k v) k w = u1 f k w := by
  funext j
  by_cases h : j = k
  · subst h; rw [u1_eq, u1_eq]
  · rw [u1_ne _ _ h, u1_ne _ _ h, u1_ne _ _ h]
theorem u2_u2 {α : Type} (G : Nat → Nat → α) (i k j : Nat) (v w : α) : u2 (u2 G i k v) i j w = u1 G i (u1 (u1 (G i) k v) j w) := by
  unfold u2
  rw [u1_u1, u1_eq]
theorem u2_u1 {α : Type} (G : Nat → Nat → α) (i j : Nat) (g : Nat → α) (w : α) : u2 (u1 G i g) i j w = u1 G i (u1 g j w) := by
  unfold u2
  rw [u1_u1, u1_eq]
section P9c
variable {kc : Nat → ClassId} {ws : va_W} {ad ga gc : Nat → Nat} {M : Nat} {n : Nat → Int32} {f : Nat → Nat → Int32} {T : Nat → Option Nat} {G : Nat → Nat → Int32} {K : Nat → Nat → Option Nat} {F : Nat → Nat → Nat → Int32}
theorem Pic9.sco2 (h : Pic9 kc ws ad ga gc M n f T G K F) {i : Nat} (hi : i < M) (x y z : Int32) : Pic9 kc (ws.set (50 + 16 * i + 6) (ad (50 + 16 * i + 6), .inr (8, scoL ad i x y z))) ad ga gc M n f T (u2 (u2 (u2 G i 14 x) i 15 y) i 16 z) K F := by
  rw [u2_u2 G i 14 15 x y, u2_u1]; exact h.sco hi x y z
theorem Pic9.flt2 (h : Pic9 kc ws ad ga gc M n f T G K F) {i : Nat} (hi : i < M) (v0 v1 v2 v3 v4 : Int32) : Pic9 kc (ws.set (50 + 16 * i + 13) (ad (50 + 16 * i + 13), .inr (2, [.int v0, .int v1, .int v2, .int v3, .int v4]))) ad ga gc M n f T (u2 (u2 (u2 (u2 (u2 G i 17 v0) i 18 v1) i 19 v2) i 20 v3) i 21 v4) K F := by
  rw [u2_u2 G i 17 18 v0 v1, u2_u1, u2_u1, u2_u1]; exact h.flt hi v0 v1 v2 v3 v4
end P9c
def sum9 (f : Nat → Nat) : Nat → Nat
  | 0 => 0
  | k + 1 => sum9 f k + f k
theorem sum9_congr {f g : Nat → Nat} (k : Nat) (h : ∀ i, i < k → f i = g i) : sum9 f k = sum9 g k := by
  induction k with
  | zero => rfl
  | succ k ih => unfold sum9; rw [ih (fun i hi => h i (by omega)), h k (by omega)]
theorem sum9_le {f g : Nat → Nat} (k : Nat) (h : ∀ i, i < k → f i ≤ g i) : sum9 f k ≤ sum9 g k := by
  induction k with
  | zero => exact Nat.le_refl _
  | succ k ih => unfold sum9; have := ih (fun i hi => h i (by omega)); have := h k (by omega); omega
theorem sum9_up {f g : Nat → Nat} {i v : Nat} (k : Nat) (h : i < k) (hg : ∀ j, j ≠ i → g j = f j) (hv : g i = v) : sum9 g k + f i = sum9 f k + v := by
  induction k with
  | zero => omega
  | succ k ih =>
    unfold sum9
    by_cases e : i = k
    · subst e
      rw [sum9_congr i (fun j hj => hg j (by omega)), hv]; omega
    · have := ih (by omega)
      rw [hg k (fun q => e q.symm)]; omega
theorem sum9_at {f : Nat → Nat} {i : Nat} (k : Nat) (h : i < k) : f i ≤ sum9 f k := by
  induction k with
  | zero => omega
  | succ k ih =>
    unfold sum9
    by_cases e : i = k
    · subst e; omega
    · have := ih (by omega); omega
def S9 (M : Nat) (gc : Nat → Nat) : Nat := gc 0 + gc 1 + gc 2 + sum9 (fun i => gc (3 + i)) M
theorem S9_up (M : Nat) (gc : Nat → Nat) {q : Nat} (c : Nat) (h : q < 3 + M) : S9 M (u1 gc q c) + gc q = S9 M gc + c := by
  unfold S9
  by_cases e : q < 3
  · have e' : sum9 (fun i => u1 gc q c (3 + i)) M = sum9 (fun i => gc (3 + i)) M := sum9_congr M (fun i _ => u1_ne _ _ (by omega))
    rw [e']
    rcases (show q = 0 ∨ q = 1 ∨ q = 2 by omega) with rfl | rfl | rfl
    · rw [u1_eq, u1_ne _ _ (show 1 ≠ 0 by omega), u1_ne _ _ (show 2 ≠ 0 by omega)]; omega
    · rw [u1_eq, u1_ne _ _ (show 0 ≠ 1 by omega), u1_ne _ _ (show 2 ≠ 1 by omega)]; omega
    · rw [u1_eq, u1_ne _ _ (show 0 ≠ 2 by omega), u1_ne _ _ (show 1 ≠ 2 by omega)]; omega
  · rw [u1_ne _ _ (show 0 ≠ q by omega), u1_ne _ _ (show 1 ≠ q by omega), u1_ne _ _ (show 2 ≠ q by omega)]
    have z := sum9_up (f := fun i => gc (3 + i)) (g := fun i => u1 gc q c (3 + i)) (i := q - 3) (v := c) M (by omega) (fun j hj => u1_ne _ _ (by omega)) (by show u1 gc q c (3 + (q - 3)) = c; rw [show 3 + (q - 3) = q by omega, u1_eq])
    rw [show 3 + (q - 3) = q by omega] at z
    omega
def pot9 (gc : Nat → Nat) (G : Nat → Nat → Int32) : Nat → Nat := fun i => max (gc (3 + i)) (2 * (G i 23).toInt.toNat)
def i1 (M : Nat) (n : Nat → Int32) : Prop := M ≤ 200 ∧ 0 ≤ (n 0).toInt ∧ (n 0).toInt ≤ (M : Int)
def i2 (M : Nat) (T : Nat → Option Nat) : Prop := ∀ t j : Nat, T t = some j → j < M
def i3 (M : Nat) (K : Nat → Nat → Option Nat) : Prop := ∀ i k j : Nat, i < M → K i k = some j → j < M
def i4 (M : Nat) (K : Nat → Nat → Option Nat) : Prop := ∀ i j : Nat, i < M → K i 4 = some j → i < j
def i5 (n : Nat → Int32) (K : Nat → Nat → Option Nat) : Prop := ∀ i j : Nat, (i : Int) < (n 0).toInt → K i 3 = some j → (j : Int) < (n 0).toInt
def i6 (n : Nat → Int32) (T : Nat → Option Nat) (G : Nat → Nat → Int32) : Prop := ∀ i : Nat, (i : Int) < (n 0).toInt → 0 ≤ (G i 3).toInt → (G i 3).toInt < 6 → T (G i 3).toInt.toNat = some i
def i7 (n : Nat → Int32) (G : Nat → Nat → Int32) : Prop := ∀ i : Nat, (i : Int) < (n 0).toInt → (G i 2).toInt = 1 → 0 ≤ (G i 3).toInt ∧ (G i 3).toInt < 6
def i8 (M : Nat) (n : Nat → Int32) (gc : Nat → Nat) (G : Nat → Nat → Int32) : Prop := (∀ q : Nat, q < 3 + M → 16 ≤ gc q) ∧ (∀ q : Nat, q < 3 → gc q ≤ 8192) ∧ (∀ i : Nat, i < M → (G i 22).toInt = 1048576) ∧ (n 15).toInt = 4000 ∧ (n 18).toInt = 2400 ∧ (n 20).toInt = 2000 ∧ (n 14).toInt = 1000 ∧ (n 17).toInt = 600
def i9 (M : Nat) (gc : Nat → Nat) (G : Nat → Nat → Int32) (R : Nat) : Prop := sum9 (pot9 gc G) M ≤ 16 * M + 2 * R
def newG (v : Int32) : Nat → Int32 := fun k => if k = 0 then v else if k = 22 then 1048576 else 0
/-- what is not yet made looks as if it were new; a RUN knows its number -/
def i10 (M : Nat) (G : Nat → Nat → Int32) (K : Nat → Nat → Option Nat) (F : Nat → Nat → Nat → Int32) : Prop := (∀ i : Nat, M ≤ i → G i = newG (Int32.ofNat i) ∧ K i = (fun _ => none) ∧ F i = (fun _ _ => 0)) ∧ ∀ i : Nat, G i 0 = Int32.ofNat i
/-- the rows that grow: used within the room, nothing behind it -/
def i11 (M : Nat) (n : Nat → Int32) (gc : Nat → Nat) (f : Nat → Nat → Int32) (G : Nat → Nat → Int32) (F : Nat → Nat → Nat → Int32) : Prop := ((0 ≤ (n 16).toInt ∧ (n 16).toInt ≤ (gc 0 : Int)) ∧ ∀ j : Nat, gc 0 ≤ j → f 29 j = 0) ∧ ((0 ≤ (n 19).toInt ∧ (n 19).toInt ≤ (gc 1 : Int)) ∧ ∀ j : Nat, gc 1 ≤ j → f 30 j = 0) ∧ ((0 ≤ (n 21).toInt ∧ (n 21).toInt ≤ (gc 2 : Int)) ∧ ∀ j : Nat, gc 2 ≤ j → f 31 j = 0) ∧ ∀ i : Nat, i < M → (0 ≤ (G i 23).toInt ∧ (G i 23).toInt ≤ (gc (3 + i) : Int)) ∧ ∀ j : Nat, gc (3 + i) ≤ j → F i 9 j = 0
def I9 (M : Nat) (n : Nat → Int32) (f : Nat → Nat → Int32) (T : Nat → Option Nat) (gc : Nat → Nat) (G : Nat → Nat → Int32) (K : Nat → Nat → Option Nat) (F : Nat → Nat → Nat → Int32) (R : Nat) : Prop := i1 M n ∧ i2 M T ∧ i3 M K ∧ i4 M K ∧ i5 n K ∧ i6 n T G ∧ i7 n G ∧ i8 M n gc G ∧ i9 M gc G R ∧ i10 M G K F ∧ i11 M n gc f G F
section P9d
variable {ad ga gc : Nat → Nat} {M : Nat} {n : Nat → Int32} {f : Nat → Nat → Int32} {T : Nat → Option Nat} {G : Nat → Nat → Int32} {K : Nat → Nat → Option Nat} {F : Nat → Nat → Nat → Int32} {R : Nat}
theorem i9.mono (h : i9 M gc G R) {R' : Nat} (e : R ≤ R') : i9 M gc G R' := by unfold i9 at *; omega
theorem I9.mono (h : I9 M n f T gc G K F R) {R' : Nat} (e : R ≤ R') : I9 M n f T gc G K F R' := ⟨h.1, h.2.1, h.2.2.1, h.2.2.2.1, h.2.2.2.2.1, h.2.2.2.2.2.1, h.2.2.2.2.2.2.1, h.2.2.2.2.2.2.2.1, h.2.2.2.2.2.2.2.2.1.mono e, h.2.2.2.2.2.2.2.2.2⟩
theorem i10.pG (h : i10 M G K F) {i : Nat} (hi : i < M) {k : Nat} (v : Int32) (hk : 0 ≠ k) : i10 M (u2 G i k v) K F := ⟨fun a ha => by rw [u2_n1 _ _ _ (show a ≠ i by omega)]; exact h.1 a ha, fun a => by rw [u2_n2 _ _ _ _ hk]; exact h.2 a⟩
theorem i10.pK (h : i10 M G K F) {i : Nat} (hi : i < M) (k : Nat) (v : Option Nat) : i10 M G (u2 K i k v) F := ⟨fun a ha => by rw [u2_n1 _ _ _ (show a ≠ i by omega)]; exact h.1 a ha, h.2⟩
theorem i10.pF (h : i10 M G K F) {i : Nat} (hi : i < M) (k : Nat) (v : Nat → Int32) : i10 M G K (u2 F i k v) := ⟨fun a ha => by rw [u2_n1 _ _ _ (show a ≠ i by omega)]; exact h.1 a ha, h.2⟩
theorem i10.up (h : i10 M G K F) : i10 (M + 1) G K F := ⟨fun a ha => h.1 a (by omega), h.2⟩
theorem i11.pn (h : i11 M n gc f G F) {k : Nat} (v : Int32) (hk : 16 ≠ k ∧ 19 ≠ k ∧ 21 ≠ k) : i11 M (u1 n k v) gc f G F := by unfold i11 at *; rw [u1_ne _ _ hk.1, u1_ne _ _ hk.2.1, u1_ne _ _ hk.2.2]; exact h
theorem i11.pf (h : i11 M n gc f G F) {k : Nat} (v : Nat → Int32) (hk : 29 ≠ k ∧ 30 ≠ k ∧ 31 ≠ k) : i11 M n gc (u1 f k v) G F := by unfold i11 at *; rw [u1_ne _ _ hk.1, u1_ne _ _ hk.2.1, u1_ne _ _ hk.2.2]; exact h
theorem i11.pG (h : i11 M n gc f G F) (i : Nat) {k : Nat} (v : Int32) (hk : 23 ≠ k) : i11 M n gc f (u2 G i k v) F := ⟨h.1, h.2.1, h.2.2.1, fun a ha => by rw [u2_n2 _ _ _ _ hk]; exact h.2.2.2 a ha⟩
theorem i11.pF (h : i11 M n gc f G F) (i : Nat) {k : Nat} (v : Nat → Int32) (hk : 9 ≠ k) : i11 M n gc f G (u2 F i k v) := ⟨h.1, h.2.1, h.2.2.1, fun a ha => by rw [u2_n2 _ _ _ _ hk]; exact h.2.2.2 a ha⟩
theorem i11.clr (h : i11 M n gc f G F) (i : Nat) : i11 M n gc f (u2 G i 23 0) F := ⟨h.1, h.2.1, h.2.2.1, fun a ha => by
  by_cases e : a = i
  · subst e; rw [u2_eq]; exact ⟨⟨by decide, by have t_ : (0 : Int32).toInt = 0 := by decide
                                               omega⟩, (h.2.2.2 a ha).2⟩
  · rw [u2_n1 _ _ _ e]; exact h.2.2.2 a ha⟩
theorem i11.cn0 (h : i11 M n gc f G F) : i11 M (u1 n 16 0) gc f G F := by
  have t_ : (0 : Int32).toInt = 0 := by decide
  unfold i11 at *; rw [u1_eq, u1_ne _ _ (show 19 ≠ 16 by decide), u1_ne _ _ (show 21 ≠ 16 by decide)]; exact ⟨⟨⟨by omega, by omega⟩, h.1.2⟩, h.2⟩
theorem i11.cn1 (h : i11 M n gc f G F) : i11 M (u1 n 19 0) gc f G F := by
  have t_ : (0 : Int32).toInt = 0 := by decide
  unfold i11 at *; rw [u1_eq, u1_ne _ _ (show 16 ≠ 19 by decide), u1_ne _ _ (show 21 ≠ 19 by decide)]; exact ⟨h.1, ⟨⟨by omega, by omega⟩, h.2.1.2⟩, h.2.2⟩
theorem i11.cn2 (h : i11 M n gc f G F) : i11 M (u1 n 21 0) gc f G F := by
  have t_ : (0 : Int32).toInt = 0 := by decide
  unfold i11 at *; rw [u1_eq, u1_ne _ _ (show 16 ≠ 21 by decide), u1_ne _ _ (show 19 ≠ 21 by decide)]; exact ⟨h.1, h.2.1, ⟨⟨by omega, by omega⟩, h.2.2.1.2⟩, h.2.2.2⟩
theorem aN_ge {us lm : Int32} (h0 : 0 ≤ us.toInt) : 0 ≤ (aN us lm).toInt ∧ (us.toInt < lm.toInt → (aN us lm).toInt = us.toInt + 1) := by
  unfold aN
  by_cases q : us.toInt < lm.toInt
  · rw [if_pos q]
    have hl := Int32.toInt_lt lm
    have e : (us + 1).toInt = us.toInt + 1 := ar_add rfl (show (1 : Int32).toInt = 1 by decide) rfl (by omega)
    omega
  · rw [if_neg q]; omega
theorem row_z {g : Nat → Int32} {c0 c : Nat} {us lm : Int32} (v : Int32) (hz : ∀ j : Nat, c0 ≤ j → g j = 0) (hc : c0 ≤ c) (h0 : 0 ≤ us.toInt) (hu : (aN us lm).toInt ≤ (c : Int)) : ∀ j : Nat, c ≤ j → aF us lm g v j = 0 := by
  intro j hj
  have z := aN_ge (lm := lm) h0
  unfold aF
  by_cases q : us.toInt < lm.toInt
  · rw [if_pos q]
    have ce : Int32.toNatClampNeg us = us.toInt.toNat := rfl
    have e := z.2 q
    unfold upd
    rw [if_neg (by omega)]; exact hz j (by omega)
  · rw [if_neg q]; exact hz j (by omega)
theorem i11.gr0 (h : i11 M n gc f G F) {c : Nat} {lm : Int32} (v : Int32) (hc : gc 0 ≤ c) (hu : (aN (n 16) lm).toInt ≤ (c : Int)) : i11 M (u1 n 16 (aN (n 16) lm)) (u1 gc 0 c) (u1 f 29 (aF (n 16) lm (f 29) v)) G F := by
  have z := row_z (lm := lm) v h.1.2 hc h.1.1.1 hu
  have z0 := (aN_ge (lm := lm) h.1.1.1).1
  refine ⟨⟨?_, ?_⟩, ?_, ?_, fun i hi => ?_⟩
  · rw [u1_eq, u1_eq]; exact ⟨z0, hu⟩
  · rw [u1_eq, u1_eq]; exact z
  · rw [u1_ne _ _ (show 19 ≠ 16 by decide), u1_ne _ _ (show 1 ≠ 0 by decide), u1_ne _ _ (show 30 ≠ 29 by decide)]; exact h.2.1
  · rw [u1_ne _ _ (show 21 ≠ 16 by decide), u1_ne _ _ (show 2 ≠ 0 by decide), u1_ne _ _ (show 31 ≠ 29 by decide)]; exact h.2.2.1
  · rw [u1_ne _ _ (show 3 + i ≠ 0 by omega)]; exact h.2.2.2 i hi
theorem i11.gr1 (h : i11 M n gc f G F) {c : Nat} {lm : Int32} (v : Int32) (hc : gc 1 ≤ c) (hu : (aN (n 19) lm).toInt ≤ (c : Int)) : i11 M (u1 n 19 (aN (n 19) lm)) (u1 gc 1 c) (u1 f 30 (aF (n 19) lm (f 30) v)) G F := by
  have z := row_z (lm := lm) v h.2.1.2 hc h.2.1.1.1 hu
  have z0 := (aN_ge (lm := lm) h.2.1.1.1).1
  refine ⟨?_, ⟨?_, ?_⟩, ?_, fun i hi => ?_⟩
  · rw [u1_ne _ _ (show 16 ≠ 19 by decide), u1_ne _ _ (show 0 ≠ 1 by decide), u1_ne _ _ (show 29 ≠ 30 by decide)]; exact h.1
  · rw [u1_eq, u1_eq]; exact ⟨z0, hu⟩
  · rw [u1_eq, u1_eq]; exact z
  · rw [u1_ne _ _ (show 21 ≠ 19 by decide), u1_ne _ _ (show 2 ≠ 1 by decide), u1_ne _ _ (show 31 ≠ 30 by decide)]; exact h.2.2.1
  · rw [u1_ne _ _ (show 3 + i ≠ 1 by omega)]; exact h.2.2.2 i hi
theorem i11.gr2 (h : i11 M n gc f G F) {c : Nat} {lm : Int32} (v : Int32) (hc : gc 2 ≤ c) (hu : (aN (n 21) lm).toInt ≤ (c : Int)) : i11 M (u1 n 21 (aN (n 21) lm)) (u1 gc 2 c) (u1 f 31 (aF (n 21) lm (f 31) v)) G F := by
  have z := row_z (lm := lm) v h.2.2.1.2 hc h.2.2.1.1.1 hu
  have z0 := (aN_ge (lm := lm) h.2.2.1.1.1).1
  refine ⟨?_, ?_, ⟨?_, ?_⟩, fun i hi => ?_⟩
  · rw [u1_ne _ _ (show 16 ≠ 21 by decide), u1_ne _ _ (show 0 ≠ 2 by decide), u1_ne _ _ (show 29 ≠ 31 by decide)]; exact h.1
  · rw [u1_ne _ _ (show 19 ≠ 21 by decide), u1_ne _ _ (show 1 ≠ 2 by decide), u1_ne _ _ (show 30 ≠ 31 by decide)]; exact h.2.1
  · rw [u1_eq, u1_eq]; exact ⟨z0, hu⟩
  · rw [u1_eq, u1_eq]; exact z
  · rw [u1_ne _ _ (show 3 + i ≠ 2 by omega)]; exact h.2.2.2 i hi
theorem i11.rem (h : i11 M n gc f G F) {i c : Nat} {lm : Int32} (v : Int32) (hi : i < M) (hc : gc (3 + i) ≤ c) (hu : (aN (G i 23) lm).toInt ≤ (c : Int)) : i11 M n (u1 gc (3 + i) c) f (u2 G i 23 (aN (G i 23) lm)) (u2 F i 9 (aF (G i 23) lm (F i 9) v)) := by
  have z := row_z (lm := lm) v (h.2.2.2 i hi).2 hc (h.2.2.2 i hi).1.1 hu
  have z0 := (aN_ge (lm := lm) (h.2.2.2 i hi).1.1).1
  refine ⟨?_, ?_, ?_, fun a ha => ?_⟩
  · rw [u1_ne _ _ (show 0 ≠ 3 + i by omega)]; exact h.1
  · rw [u1_ne _ _ (show 1 ≠ 3 + i by omega)]; exact h.2.1
  · rw [u1_ne _ _ (show 2 ≠ 3 + i by omega)]; exact h.2.2.1
  · by_cases e : a = i
    · subst e; rw [u2_eq, u2_eq, u1_eq]; exact ⟨⟨z0, hu⟩, z⟩
    · rw [u2_n1 _ _ _ e, u2_n1 _ _ _ e, u1_ne _ _ (show 3 + a ≠ 3 + i by omega)]; exact h.2.2.2 a ha
theorem i11.push (h : i11 M n gc f G F) (h10 : i10 M G K F) : i11 (M + 1) n (u1 gc (3 + M) 16) f G F := by
  refine ⟨?_, ?_, ?_, fun a ha => ?_⟩
  · rw [u1_ne _ _ (show 0 ≠ 3 + M by omega)]; exact h.1
  · rw [u1_ne _ _ (show 1 ≠ 3 + M by omega)]; exact h.2.1
  · rw [u1_ne _ _ (show 2 ≠ 3 + M by omega)]; exact h.2.2.1
  · by_cases e : a = M
    · subst e
      obtain ⟨e1, -, e3⟩ := h10.1 a (Nat.le_refl _)
      rw [u1_eq, e1, e3]
      refine ⟨?_, fun _ _ => rfl⟩
      show 0 ≤ (0 : Int32).toInt ∧ (0 : Int32).toInt ≤ ((16 : Nat) : Int)
      decide
    · rw [u1_ne _ _ (show 3 + a ≠ 3 + M by omega)]; exact h.2.2.2 a (by omega)
theorem i10.sameG (h : i10 M G K F) {v : Int32} (hv : v.toInt = (M : Int)) : u1 G M (newG v) = G := by
  have e := (h.1 M (Nat.le_refl _)).1
  rw [show newG v = G M by rw [e, i_of hv], u1_id]
theorem i10.sameK (h : i10 M G K F) : u1 K M (fun _ => none) = K := by rw [← (h.1 M (Nat.le_refl _)).2.1, u1_id]
theorem i10.sameF (h : i10 M G K F) : u1 F M (fun _ _ => 0) = F := by rw [← (h.1 M (Nat.le_refl _)).2.2, u1_id]
theorem i1.pn (h : i1 M n) {k : Nat} (v : Int32) (hk : 0 ≠ k) : i1 M (u1 n k v) := by unfold i1 at *; rw [u1_ne _ _ hk]; exact h
theorem i5.pn (h : i5 n K) {k : Nat} (v : Int32) (hk : 0 ≠ k) : i5 (u1 n k v) K := by unfold i5 at *; rw [u1_ne _ _ hk]; exact h
theorem i6.pn (h : i6 n T G) {k : Nat} (v : Int32) (hk : 0 ≠ k) : i6 (u1 n k v) T G := by unfold i6 at *; rw [u1_ne _ _ hk]; exact h
theorem i7.pn (h : i7 n G) {k : Nat} (v : Int32) (hk : 0 ≠ k) : i7 (u1 n k v) G := by unfold i7 at *; rw [u1_ne _ _ hk]; exact h
theorem i8.pn (h : i8 M n gc G) {k : Nat} (v : Int32) (hk : 15 ≠ k ∧ 18 ≠ k ∧ 20 ≠ k ∧ 14 ≠ k ∧ 17 ≠ k) : i8 M (u1 n k v) gc G := by unfold i8 at *; rw [u1_ne _ _ hk.1, u1_ne _ _ hk.2.1, u1_ne _ _ hk.2.2.1, u1_ne _ _ hk.2.2.2.1, u1_ne _ _ hk.2.2.2.2]; exact h
theorem i6.pG (h : i6 n T G) (i : Nat) {k : Nat} (v : Int32) (hk : 3 ≠ k) : i6 n T (u2 G i k v) := fun a h1 h2 h3 => by
  rw [u2_n2 G i a v hk] at h2 h3 ⊢; exact h a h1 h2 h3
theorem i7.pG (h : i7 n G) (i : Nat) {k : Nat} (v : Int32) (hk : 2 ≠ k ∧ 3 ≠ k) : i7 n (u2 G i k v) := fun a h1 h2 => by
  rw [u2_n2 G i a v hk.1] at h2; rw [u2_n2 G i a v hk.2]; exact h a h1 h2
theorem i7.st (h : i7 n G) (i : Nat) {v : Int32} (hv : v.toInt ≠ 1) : i7 n (u2 G i 2 v) := fun a h1 h2 => by
  by_cases e : a = i
  · subst e; rw [u2_eq] at h2; exact absurd h2 hv
  · rw [u2_n1 _ _ _ e] at h2 ⊢; exact h a h1 h2
theorem i8.pG (h : i8 M n gc G) (i : Nat) {k : Nat} (v : Int32) (hk : 22 ≠ k) : i8 M n gc (u2 G i k v) := ⟨h.1, h.2.1, fun a ha => by rw [u2_n2 G i a v hk]; exact h.2.2.1 a ha, h.2.2.2⟩
theorem i9.pG (h : i9 M gc G R) (i : Nat) {k : Nat} (v : Int32) (hk : 23 ≠ k) : i9 M gc (u2 G i k v) R := by
  unfold i9 at *
  rw [sum9_congr M (fun a _ => show pot9 gc (u2 G i k v) a = pot9 gc G a by unfold pot9; rw [u2_n2 G i a v hk])]
  exact h
theorem i9.clr (h : i9 M gc G R) (i : Nat) : i9 M gc (u2 G i 23 0) R := by
  unfold i9 at *
  refine Nat.le_trans (sum9_le M (fun a _ => ?_)) h
  unfold pot9
  by_cases e : a = i
  · subst e; rw [u2_eq, show (0 : Int32).toInt = 0 by decide]
    show max _ (2 * 0) ≤ _
    omega
  · rw [u2_n1 _ _ _ e]; exact Nat.le_refl _
theorem i3.pK (h : i3 M K) (i k : Nat) {o : Option Nat} (ho : ∀ j, o = some j → j < M) : i3 M (u2 K i k o) := fun a b j ha hj => by
  by_cases e : a = i
  · subst e
    by_cases e2 : b = k
    · subst e2; rw [u2_eq] at hj; exact ho j hj
    · rw [u2_n2 K a a o e2] at hj; exact h a b j ha hj
  · rw [u2_n1 _ _ _ e] at hj; exact h a b j ha hj
theorem i4.pK (h : i4 M K) (i : Nat) {k : Nat} (o : Option Nat) (hk : 4 ≠ k) : i4 M (u2 K i k o) := fun a j ha hj => by
  rw [u2_n2 K i a o hk] at hj; exact h a j ha hj
theorem i4.K4 (h : i4 M K) (i : Nat) {o : Option Nat} (ho : ∀ j, o = some j → i < j) : i4 M (u2 K i 4 o) := fun a j ha hj => by
  by_cases e : a = i
  · subst e; rw [u2_eq] at hj; exact ho j hj
  · rw [u2_n1 _ _ _ e] at hj; exact h a j ha hj
theorem i5.pK (h : i5 n K) (i : Nat) {k : Nat} (o : Option Nat) (hk : 3 ≠ k) : i5 n (u2 K i k o) := fun a j ha hj => by
  rw [u2_n2 K i a o hk] at hj; exact h a j ha hj
theorem i5.K3 (h : i5 n K) (i : Nat) {o : Option Nat} (ho : ∀ j : Nat, o = some j → (i : Int) < (n 0).toInt → (j : Int) < (n 0).toInt) : i5 n (u2 K i 3 o) := fun a j ha hj => by
  by_cases e : a = i
  · subst e; rw [u2_eq] at hj; exact ho j hj ha
  · rw [u2_n1 _ _ _ e] at hj; exact h a j ha hj
theorem i2.pT (h : i2 M T) (t : Nat) {o : Option Nat} (ho : ∀ j, o = some j → j < M) : i2 M (u1 T t o) := fun a j hj => by
  by_cases e : a = t
  · subst e; rw [u1_eq] at hj; exact ho j hj
  · rw [u1_ne _ _ e] at hj; exact h a j hj
/-- a RUN comes to a THREAD on which none is -/
theorem i6.come (h : i6 n T G) {i t : Nat} {v : Int32} (ht : T t = none) (hv : v.toInt = (t : Int)) : i6 n (u1 T t (some i)) (u2 G i 3 v) := fun a h1 h2 h3 => by
  by_cases e : a = i
  · subst e; rw [u2_eq, hv]; show u1 T t (some a) ((t : Int).toNat) = some a; rw [Int.toNat_natCast, u1_eq]
  · rw [u2_n1 _ _ _ e] at h2 h3 ⊢
    have z := h a h1 h2 h3
    rw [u1_ne _ _ (fun q => by rw [q, ht] at z; cases z)]; exact z
theorem i6.comeT (h : i6 n T G) {t : Nat} (i : Nat) (ht : T t = none) : i6 n (u1 T t (some i)) G := fun a h1 h2 h3 => by
  have z := h a h1 h2 h3
  rw [u1_ne _ _ (fun q => by rw [q, ht] at z; cases z)]; exact z
theorem i6.comeG (h : i6 n T G) {i t : Nat} {v : Int32} (ht : T t = some i) (hv : v.toInt = (t : Int)) : i6 n T (u2 G i 3 v) := fun a h1 h2 h3 => by
  by_cases e : a = i
  · subst e; rw [u2_eq, hv]; show T ((t : Int).toNat) = some a; rw [Int.toNat_natCast, ht]
  · rw [u2_n1 _ _ _ e] at h2 h3 ⊢; exact h a h1 h2 h3
/-- a RUN leaves its THREAD -/
theorem i6.leave (h : i6 n T G) {i : Nat} {v : Int32} (hi : (i : Int) < (n 0).toInt) (h0 : 0 ≤ (G i 3).toInt) (h6 : (G i 3).toInt < 6) (hv : v.toInt = -1) {t : Nat} (ht : t = (G i 3).toInt.toNat) : i6 n (u1 T t none) (u2 G i 3 v) := fun a h1 h2 h3 => by
  by_cases e : a = i
  · subst e; rw [u2_eq] at h2; omega
  · rw [u2_n1 _ _ _ e] at h2 h3 ⊢
    have z := h a h1 h2 h3
    have w := h i hi h0 h6
    rw [u1_ne _ _ (fun q => by rw [q, ht, w] at z; exact e (Option.some.inj z).symm)]; exact z
theorem i6.off (h : i6 n T G) (i : Nat) {v : Int32} (hv : v.toInt = -1) : i6 n T (u2 G i 3 v) := fun a h1 h2 h3 => by
  by_cases e : a = i
  · subst e; rw [u2_eq] at h2; omega
  · rw [u2_n1 _ _ _ e] at h2 h3 ⊢; exact h a h1 h2 h3
theorem i7.off (h : i7 n G) {i : Nat} (v : Int32) (hs : (G i 2).toInt ≠ 1) : i7 n (u2 G i 3 v) := fun a h1 h2 => by
  by_cases e : a = i
  · subst e; rw [u2_n2 _ _ _ _ (show (2 : Nat) ≠ 3 by decide)] at h2; exact absurd h2 hs
  · rw [u2_n1 _ _ _ e] at h2 ⊢; exact h a h1 h2
theorem i7.thr (h : i7 n G) (i : Nat) {v : Int32} (hv : 0 ≤ v.toInt ∧ v.toInt < 6) : i7 n (u2 G i 3 v) := fun a h1 h2 => by
  by_cases e : a = i
  · subst e; rw [u2_eq]; exact hv
  · rw [u2_n1 _ _ _ e] at h2 ⊢; exact h a h1 h2
theorem i7.on (h : i7 n G) {i : Nat} (v : Int32) (hv : 0 ≤ (G i 3).toInt ∧ (G i 3).toInt < 6) : i7 n (u2 G i 2 v) := fun a h1 h2 => by
  by_cases e : a = i
  · subst e; rw [u2_n2 _ _ _ _ (show (3 : Nat) ≠ 2 by decide)]; exact hv
  · rw [u2_n1 _ _ _ e] at h2 ⊢; exact h a h1 h2
theorem S9_le (h8 : i8 M n gc G) (h9 : i9 M gc G R) : S9 M gc ≤ 24576 + 16 * M + 2 * R := by
  unfold S9
  have a0 := h8.2.1 0 (by omega)
  have a1 := h8.2.1 1 (by omega)
  have a2 := h8.2.1 2 (by omega)
  have z := sum9_le (f := fun i => gc (3 + i)) (g := pot9 gc G) M (fun i _ => by unfold pot9; exact Nat.le_max_left _ _)
  unfold i9 at h9
  omega
theorem gc_le (h9 : i9 M gc G R) {i : Nat} (hi : i < M) : gc (3 + i) ≤ 16 * M + 2 * R := by
  have z := sum9_at (f := pot9 gc G) M hi
  have w : gc (3 + i) ≤ pot9 gc G i := by unfold pot9; exact Nat.le_max_left _ _
  unfold i9 at h9
  omega
theorem i8.gr (h : i8 M n gc G) {q : Nat} {c : Nat} (hq : q < 3 + M) (hc : 16 ≤ c) (h3 : q < 3 → c ≤ 8192) : i8 M n (u1 gc q c) G := by
  refine ⟨fun a ha => ?_, fun a ha => ?_, h.2.2⟩
  · by_cases e : a = q
    · subst e; rw [u1_eq]; exact hc
    · rw [u1_ne _ _ e]; exact h.1 a ha
  · by_cases e : a = q
    · subst e; rw [u1_eq]; exact h3 ha
    · rw [u1_ne _ _ e]; exact h.2.1 a ha
theorem i9.gr (h : i9 M gc G R) {q : Nat} (c : Nat) (hq : q < 3) : i9 M (u1 gc q c) G R := by
  unfold i9 at *
  rw [sum9_congr M (fun a _ => show pot9 (u1 gc q c) G a = pot9 gc G a by unfold pot9; rw [u1_ne _ _ (show 3 + a ≠ q by omega)])]
  exact h
/-- a remark comes to RUN i -/
theorem i9.rem (h : i9 M gc G R) {i c : Nat} {u : Int32} (hi : i < M) (hc : c = gc (3 + i) ∨ (c = 2 * gc (3 + i) ∧ (gc (3 + i) : Int) ≤ (G i 23).toInt)) (hu : u = G i 23 ∨ u.toInt = (G i 23).toInt + 1) : i9 M (u1 gc (3 + i) c) (u2 G i 23 u) (R + 1) := by
  unfold i9 at *
  have hu' : u.toInt = (G i 23).toInt ∨ u.toInt = (G i 23).toInt + 1 := hu.imp (fun e => by rw [e]) id
  have z := sum9_up (f := pot9 gc G) (g := pot9 (u1 gc (3 + i) c) (u2 G i 23 u)) (i := i) (v := max c (2 * u.toInt.toNat)) M hi (fun j hj => by unfold pot9; rw [u1_ne _ _ (show 3 + j ≠ 3 + i by omega), u2_n1 _ _ _ hj]) (by unfold pot9; rw [u1_eq, u2_eq])
  have w : pot9 gc G i = max (gc (3 + i)) (2 * (G i 23).toInt.toNat) := rfl
  omega
end P9d
/-- array classes of a kind are one -/
theorem va_K.one {D : va_G} {cl : List vw_C} {U : State} {a b : ClassId} {ty : FieldType} (h1 : va_K D cl [(a, ty)] U) (h2 : va_K D cl [(b, ty)] U) : a = b := by
  have x := (h1.2 0 _ rfl).2
  have y := (h2.2 0 _ rfl).2
  cases ty with
  | object C =>
    obtain ⟨_, _, -, -, -, e1⟩ := x
    obtain ⟨_, _, -, -, -, e2⟩ := y
    exact Option.some.inj (e1.symm.trans e2)
  | _ => exact Option.some.inj (Eq.trans (Eq.symm x) y)
def t9 (kc : Nat → ClassId) : List (ClassId × FieldType) := [(kc 0, .int), (kc 1, .boolean), (kc 2, .object RX1), (kc 3, .object RX7)]
theorem set_same {α : Type} : ∀ (l : List α) (p : Nat) (c : α), l[p]? = some c → l.set p c = l
  | [], p, c, h => by simp at h
  | x :: l, 0, c, h => by simp at h; subst h; rfl
  | x :: l, p + 1, c, h => by simp at h; show x :: l.set p c = x :: l; rw [set_same l p c h]
theorem setAll_same : ∀ (ps : List Nat) (ws cs : va_W), ps.map (fun i => ws[i]?) = cs.map some → setAll ws ps cs = ws
  | [], ws, cs, _ => by rw [setAll_nil]
  | _ :: _, ws, [], _ => by rw [setAll_nil2]
  | p :: ps, ws, c :: cs, h => by
    simp only [List.map_cons, List.cons.injEq] at h
    rw [setAll_cons, set_same ws p c h.1]
    exact setAll_same ps ws cs h.2
/-- the callee's cells stayed as they were -/
theorem va_replS {A0 : Nat → Prop} {D : va_G} {cl : List vw_C} {ws wc : va_W} {H H1 : Heap} (hP : va_P D cl ws H) (hD : va_D A0 ws) (ps : List Nat) (hC : ps.map (fun i => ws[i]?) = wc.map some) (hn : ps.Nodup)
    (hk : ∀ q : Nat, q < H.size → ¬ va_A wc H.size q → H1[q]? = H[q]?) (hF : ∀ q, va_A wc H.size q → A0 q) (hP1 : va_P D cl wc H1) (hD1 : va_D (va_A wc H.size) wc) : va_P D cl ws H1 ∧ va_D A0 ws := by
  have hl : wc.length = ps.length := by
    have := congrArg List.length hC
    rw [List.length_map, List.length_map] at this
    exact this.symm
  have z := va_repl (w1 := wc) hP hD ps hC hn hl hk hF hP1 hD1
  rwa [setAll_same ps ws wc hC] at z
theorem va_P.pick {D : va_G} {cl : List vw_C} {ws wc : va_W} {H : Heap} (h : va_P D cl ws H) (ps : List Nat) (hC : ps.map (fun i => ws[i]?) = wc.map some) : va_P D cl wc H := fun k q hq => by
  have h1 : (ps.map (fun i => ws[i]?))[k]? = some (some q) := by rw [hC, List.getElem?_map, hq]; rfl
  rw [List.getElem?_map] at h1
  cases hi : ps[k]? with
  | none => rw [hi] at h1; cases h1
  | some i => rw [hi] at h1; exact h i q (Option.some.inj h1)
theorem nd_nd : ∀ {l : List Nat}, l.Nodup → va_nd l = true
  | [], _ => rfl
  | a :: l, h => by
    obtain ⟨h1, h2⟩ := List.nodup_cons.mp h
    simp only [va_nd, Bool.and_eq_true, decide_eq_true_eq]
    exact ⟨h1, nd_nd h2⟩
theorem va_D.pick {A : Nat → Prop} {ws wc : va_W} (h : va_D A ws) (ps : List Nat) (hn : ps.Nodup) (hC : ps.map (fun i => ws[i]?) = wc.map some) : va_D A wc := h.sub ps (nd_nd hn) hC
theorem nd_off (b : Nat) : ∀ {l : List Nat}, l.Nodup → (l.map (fun j => b + j)).Nodup
  | [], _ => List.nodup_nil
  | a :: l, h => by
    obtain ⟨h1, h2⟩ := List.nodup_cons.mp h
    refine List.nodup_cons.mpr ⟨fun q => ?_, nd_off b h2⟩
    obtain ⟨c, hc, e⟩ := List.mem_map.mp q
    have e : b + c = b + a := e
    exact h1 (by rw [← show c = a by omega]; exact hc)
section RoomRows2
variable {p : Program} {l : Launch} {e : Env} {R : Room} {s : State} {m : MethodId} {args : Array Value} {below : List Frame} {meth : Method} {c : Code} {H : Heap} {locs : List Loc} {cells slots : Nat} {Q : State → Prop} {g : JFrame}
/-- the heap never shrinks, and the counters bound it -/
theorem W_msr2 (kk : H.size ≤ s.heap.size + cells → hpS H ≤ hpS s.heap + slots → hpS s.heap ≤ hpS H → W p l e R s m args below meth c H locs cells slots Q g) : W p l e R s m args below meth c H locs cells slots Q g := fun T hT X => by
  obtain ⟨h1, h2⟩ := st_true X
  have h3 := X.used
  have h4 := X.heapSize
  obtain ⟨a1, a2, a3, a4, a5, a6⟩ := X.same
  have a4' : T.slotsUsed = s.slotsUsed + (((T.setVm s.vm).heap.toList.drop s.heap.size).map (·.slots.size)).sum := a4
  rw [h1, h2, hT] at h3
  rw [h1, h2, hT] at a4'
  rw [hT] at h4
  exact kk h4 h3 (by show hS s.heap ≤ hS H; omega) T hT X
end RoomRows2
