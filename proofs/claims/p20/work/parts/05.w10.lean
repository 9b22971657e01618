abbrev w10 (h : Nat) (X : Nat → Nat) (C : Nat → ClassId) (f0 f1 f2 f3 f4 f5 f6 f7 f8 f10 f13 f14 f15 f16 f17 f18 f19 f20 f21 f22 f23 f24 f25 f26 f27 f28 f29 f30 f31 f32 f33 f34 f35 f36 f37 f38 f39 f40 f41 f42 f43 f49 f50 f51 f52 f53 f54 f55 f56 f57 f58 f59 : Nat → Int32) (n9 n11 n12 n44 n45 n46 n47 n48 : Int32) : va_W := [(h, .inr (10, [.ref (X 0), .ref (X 1), .ref (X 2), .ref (X 3), .ref (X 4), .ref (X 5), .ref (X 6), .ref (X 7), .ref (X 8), .int n9, .ref (X 10), .int n11, .int n12, .ref (X 13), .ref (X 14), .ref (X 15), .ref (X 16), .ref (X 17), .ref (X 18), .ref (X 19), .ref (X 20), .ref (X 21), .ref (X 22), .ref (X 23), .ref (X 24), .ref (X 25), .ref (X 26), .ref (X 27), .ref (X 28), .ref (X 29), .ref (X 30), .ref (X 31), .ref (X 32), .ref (X 33), .ref (X 34), .ref (X 35), .ref (X 36), .ref (X 37), .ref (X 38), .ref (X 39), .ref (X 40), .ref (X 41), .ref (X 42), .ref (X 43), .int n44, .int n45, .int n46, .int n47, .int n48, .ref (X 49), .ref (X 50), .ref (X 51), .ref (X 52), .ref (X 53), .ref (X 54), .ref (X 55), .ref (X 56), .ref (X 57), .ref (X 58), .ref (X 59)])), (X 0, .inl (C 0, 8, .inl f0)), (X 1, .inl (C 1, 8, .inl f1)), (X 2, .inl (C 2, 8, .inl f2)), (X 3, .inl (C 3, 192, .inl f3)), (X 4, .inl (C 4, 192, .inl f4)), (X 5, .inl (C 5, 192, .inl f5)), (X 6, .inl (C 6, 17, .inl f6)), (X 7, .inl (C 7, 17, .inl f7)), (X 8, .inl (C 8, 17, .inl f8)), (X 10, .inl (C 10, 6, .inl f10)), (X 13, .inl (C 13, 200, .inl f13)), (X 14, .inl (C 14, 200, .inl f14)), (X 15, .inl (C 15, 200, .inl f15)), (X 16, .inl (C 16, 200, .inl f16)), (X 17, .inl (C 17, 200, .inl f17)), (X 18, .inl (C 18, 200, .inl f18)), (X 19, .inl (C 19, 200, .inl f19)), (X 20, .inl (C 20, 200, .inl f20)), (X 21, .inl (C 21, 200, .inl f21)), (X 22, .inl (C 22, 200, .inl f22)), (X 23, .inl (C 23, 200, .inl f23)), (X 24, .inl (C 24, 200, .inl f24)), (X 25, .inl (C 25, 200, .inl f25)), (X 26, .inl (C 26, 200, .inl f26)), (X 27, .inl (C 27, 200, .inl f27)), (X 28, .inl (C 28, 200, .inl f28)), (X 29, .inl (C 29, 200, .inl f29)), (X 30, .inl (C 30, 200, .inl f30)), (X 31, .inl (C 31, 200, .inl f31)), (X 32, .inl (C 32, 200, .inl f32)), (X 33, .inl (C 33, 1600, .inl f33)), (X 34, .inl (C 34, 1600, .inl f34)), (X 35, .inl (C 35, 1600, .inl f35)), (X 36, .inl (C 36, 200, .inl f36)), (X 37, .inl (C 37, 4800, .inl f37)), (X 38, .inl (C 38, 4800, .inl f38)), (X 39, .inl (C 39, 200, .inl f39)), (X 40, .inl (C 40, 4800, .inl f40)), (X 41, .inl (C 41, 4800, .inl f41)), (X 42, .inl (C 42, 4800, .inl f42)), (X 43, .inl (C 43, 4800, .inl f43)), (X 49, .inl (C 49, 1000, .inl f49)), (X 50, .inl (C 50, 1000, .inl f50)), (X 51, .inl (C 51, 1000, .inl f51)), (X 52, .inl (C 52, 1000, .inl f52)), (X 53, .inl (C 53, 310000, .inl f53)), (X 54, .inl (C 54, 310000, .inl f54)), (X 55, .inl (C 55, 600, .inl f55)), (X 56, .inl (C 56, 600, .inl f56)), (X 57, .inl (C 57, 600, .inl f57)), (X 58, .inl (C 58, 600, .inl f58)), (X 59, .inl (C 59, 2000, .inl f59))]
abbrev t10 (C : Nat → ClassId) : List (ClassId × FieldType) := [(C 0, .int), (C 1, .int), (C 2, .int), (C 3, .int), (C 4, .int), (C 5, .int), (C 6, .boolean), (C 7, .boolean), (C 8, .int), (C 10, .int), (C 13, .int), (C 14, .int), (C 15, .int), (C 16, .int), (C 17, .int), (C 18, .int), (C 19, .int), (C 20, .int), (C 21, .int), (C 22, .int), (C 23, .int), (C 24, .boolean), (C 25, .boolean), (C 26, .boolean), (C 27, .boolean), (C 28, .int), (C 29, .int), (C 30, .int), (C 31, .int), (C 32, .boolean), (C 33, .int), (C 34, .int), (C 35, .boolean), (C 36, .int), (C 37, .int), (C 38, .int), (C 39, .int), (C 40, .int), (C 41, .int), (C 42, .int), (C 43, .int), (C 49, .int), (C 50, .int), (C 51, .int), (C 52, .int), (C 53, .int), (C 54, .int), (C 55, .int), (C 56, .int), (C 57, .int), (C 58, .int), (C 59, .int)]
def bd (lo hi : Int) (f : Nat → Int32) : Prop := ∀ j : Nat, lo ≤ (f j).toInt ∧ (f j).toInt ≤ hi
theorem bd_upd {lo hi : Int} {f : Nat → Int32} (h : bd lo hi f) (i : Nat) {x : Int32} (h1 : lo ≤ x.toInt) (h2 : x.toInt ≤ hi) : bd lo hi (upd f i x) := by
  intro j
  unfold upd
  split
  · exact ⟨h1, h2⟩
  · exact h j
theorem bd_at {lo hi : Int} {f : Nat → Int32} {z : Int32} {i : Nat} (h : bd lo hi f) (e : z = f i) : lo ≤ z.toInt ∧ z.toInt ≤ hi := by rw [e]; exact h i
theorem zo {v : Int32} (h : v.toInt = 0 ∨ v.toInt = 1) : v = 1 ∨ v = 0 := h.elim (fun e => Or.inr (i_eq.mpr (e.trans (by decide)))) (fun e => Or.inl (i_eq.mpr (e.trans (by decide))))
theorem i_ub (x : Int32) : x.toInt ≤ 2147483647 ∧ -2147483648 ≤ x.toInt := ⟨by have := Int32.toInt_lt x; omega, by have := Int32.le_toInt x; omega⟩
theorem cl_eq (x : Int32) : x.toNatClampNeg = x.toInt.toNat := rfl
theorem free_all {A0 : Nat → Prop} {ws : va_W} {H0 H : Heap} {locs : List Loc} (hD : va_D A0 ws) (hS : va_S A0 H0 H locs) (hA : ∀ q, H0.size ≤ q → A0 q) : ∀ q, va_A ws H.size q → A0 q := by
  intro q h
  rcases h with ⟨k, e, h⟩ | h
  · exact hD.2 k _ h
  · exact hA q (Nat.le_trans hS.1 h)

def J1 (sa th : Nat → Int32) : Prop := ∀ r : Nat, (sa r).toInt = 1 → 0 ≤ (th r).toInt
def J2 (tm pl : Nat → Int32) : Prop := ∀ r : Nat, (tm r).toInt ≤ (pl r).toInt
def J4 (tm tp : Nat → Int32) : Prop := ∀ r t : Nat, (t : Int) < (tm r).toInt → t < 24 → (t : Int) < (tp (24 * r + t)).toInt
def J5 (tm bm tp tn bn : Nat → Int32) : Prop := ∀ r t k : Nat, (t : Int) < (tm r).toInt → t < 24 → (tp (24 * r + t)).toInt ≤ (k : Int) → (k : Int) < (bm r).toInt → k < 24 → (tn (24 * r + t)).toInt ≤ (bn (24 * r + k)).toInt
def J9 (tn : Nat → Int32) (o : Int32) : Prop := ∀ j : Nat, (tn j).toInt ≤ o.toInt
def J7 (ib pl : Nat → Int32) : Prop := ∀ r : Nat, ¬ (ib r).toInt = 0 → (pl r).toInt ≤ 23
def J8 (un sa : Nat → Int32) : Prop := ∀ r : Nat, ¬ (un r).toInt = 0 → (sa r).toInt = 4
def J0 (op oa ob : Nat → Int32) : Prop := ∀ j : Nat, ((op j).toInt ≤ 5 → 0 ≤ (oa j).toInt ∧ (oa j).toInt < 8) ∧ ((op j).toInt = 8 → 0 ≤ (oa j).toInt ∧ (oa j).toInt < 4) ∧ ((op j).toInt = 9 → ((j % 24 : Nat) : Int) < (ob j).toInt ∧ (ob j).toInt ≤ 24)
theorem J0_set {op oa ob : Nat → Int32} (h : J0 op oa ob) (i : Nat) {x y z : Int32} (h1 : x.toInt ≤ 5 → 0 ≤ y.toInt ∧ y.toInt < 8) (h2 : x.toInt = 8 → 0 ≤ y.toInt ∧ y.toInt < 4) (h3 : x.toInt = 9 → ((i % 24 : Nat) : Int) < z.toInt ∧ z.toInt ≤ 24) : J0 (upd op i x) (upd oa i y) (upd ob i z) := fun j => by
  by_cases e : j = i
  · subst e; simp only [upd, if_true]; exact ⟨h1, h2, h3⟩
  · simp only [upd, if_neg e]; exact h j
def cU (f : Nat → Int32) : Nat → Nat
  | 0 => 0
  | k + 1 => cU f k + (if f k = 0 then 0 else 1)
def J6 (un : Nat → Int32) (hm rn : Int32) : Prop := hm.toInt ≤ 3 * (cU un rn.toInt.toNat : Int)
theorem upd_eq (f : Nat → Int32) (i : Nat) (x : Int32) : upd f i x i = x := by simp [upd]
theorem upd_ne (f : Nat → Int32) (i j : Nat) (x : Int32) (h : ¬ j = i) : upd f i x j = f j := by simp [upd, h]
theorem J1_sa {sa th : Nat → Int32} (h : J1 sa th) (i : Nat) {x : Int32} (g : x.toInt = 1 → 0 ≤ (th i).toInt) : J1 (upd sa i x) th := fun r hr => by
  by_cases e : r = i
  · subst e; rw [upd_eq] at hr; exact g hr
  · rw [upd_ne _ _ _ _ e] at hr; exact h r hr
theorem J1_th {sa th : Nat → Int32} (h : J1 sa th) (i : Nat) {x : Int32} (g : (sa i).toInt = 1 → 0 ≤ x.toInt) : J1 sa (upd th i x) := fun r hr => by
  by_cases e : r = i
  · subst e; rw [upd_eq]; exact g hr
  · rw [upd_ne _ _ _ _ e]; exact h r hr
theorem J1_both {sa th : Nat → Int32} (h : J1 sa th) (i : Nat) {x y : Int32} (g : x.toInt = 1 → 0 ≤ y.toInt) : J1 (upd sa i x) (upd th i y) := fun r hr => by
  by_cases e : r = i
  · subst e; rw [upd_eq] at hr ⊢; exact g hr
  · rw [upd_ne _ _ _ _ e] at hr ⊢; exact h r hr
theorem J2_tm {tm pl : Nat → Int32} (h : J2 tm pl) (i : Nat) {x : Int32} (g : x.toInt ≤ (pl i).toInt) : J2 (upd tm i x) pl := fun r => by
  by_cases e : r = i
  · subst e; rw [upd_eq]; exact g
  · rw [upd_ne _ _ _ _ e]; exact h r
theorem J2_pl {tm pl : Nat → Int32} (h : J2 tm pl) (i : Nat) {x : Int32} (g : (tm i).toInt ≤ x.toInt) : J2 tm (upd pl i x) := fun r => by
  by_cases e : r = i
  · subst e; rw [upd_eq]; exact g
  · rw [upd_ne _ _ _ _ e]; exact h r
theorem J2_both {tm pl : Nat → Int32} (h : J2 tm pl) (i : Nat) {x y : Int32} (g : x.toInt ≤ y.toInt) : J2 (upd tm i x) (upd pl i y) := fun r => by
  by_cases e : r = i
  · subst e; rw [upd_eq, upd_eq]; exact g
  · rw [upd_ne _ _ _ _ e, upd_ne _ _ _ _ e]; exact h r
theorem J4_tm {tm tp : Nat → Int32} (h : J4 tm tp) (i : Nat) {x : Int32} (g : x.toInt ≤ (tm i).toInt ∨ x.toInt ≤ 0) : J4 (upd tm i x) tp := fun r t ht h24 => by
  by_cases e : r = i
  · subst e; rw [upd_eq] at ht
    rcases g with g | g
    · exact h r t (by omega) h24
    · omega
  · rw [upd_ne _ _ _ _ e] at ht; exact h r t ht h24
theorem J5_tm {tm bm tp tn bn : Nat → Int32} (h : J5 tm bm tp tn bn) (i : Nat) {x : Int32} (g : x.toInt ≤ (tm i).toInt ∨ x.toInt ≤ 0) : J5 (upd tm i x) bm tp tn bn := fun r t k ht h24 hk hb hk24 => by
  by_cases e : r = i
  · subst e; rw [upd_eq] at ht
    rcases g with g | g
    · exact h r t k (by omega) h24 hk hb hk24
    · omega
  · rw [upd_ne _ _ _ _ e] at ht; exact h r t k ht h24 hk hb hk24
theorem J5_bm {tm bm tp tn bn : Nat → Int32} (h : J5 tm bm tp tn bn) (i : Nat) {x : Int32} (g : x.toInt ≤ (bm i).toInt ∨ x.toInt ≤ 0) : J5 tm (upd bm i x) tp tn bn := fun r t k ht h24 hk hb hk24 => by
  by_cases e : r = i
  · subst e; rw [upd_eq] at hb
    rcases g with g | g
    · exact h r t k ht h24 hk (by omega) hk24
    · omega
  · rw [upd_ne _ _ _ _ e] at hb; exact h r t k ht h24 hk hb hk24
theorem J7_ib {ib pl : Nat → Int32} (h : J7 ib pl) (i : Nat) {x : Int32} (g : x.toInt = 0 ∨ (pl i).toInt ≤ 23) : J7 (upd ib i x) pl := fun r hr => by
  by_cases e : r = i
  · subst e; rw [upd_eq] at hr; exact g.elim (fun z => absurd z hr) id
  · rw [upd_ne _ _ _ _ e] at hr; exact h r hr
theorem J7_pl {ib pl : Nat → Int32} (h : J7 ib pl) (i : Nat) {x : Int32} (g : (ib i).toInt = 0 ∨ x.toInt ≤ 23) : J7 ib (upd pl i x) := fun r hr => by
  by_cases e : r = i
  · subst e; rw [upd_eq]; exact g.elim (fun z => absurd z hr) id
  · rw [upd_ne _ _ _ _ e]; exact h r hr
theorem J8_sa {un sa : Nat → Int32} (h : J8 un sa) (i : Nat) {x : Int32} (g : (un i).toInt = 0 ∨ x.toInt = 4) : J8 un (upd sa i x) := fun r hr => by
  by_cases e : r = i
  · subst e; rw [upd_eq]; exact g.elim (fun z => absurd z hr) id
  · rw [upd_ne _ _ _ _ e]; exact h r hr
theorem J8_un {un sa : Nat → Int32} (h : J8 un sa) (i : Nat) {x : Int32} (g : x.toInt = 0 ∨ (sa i).toInt = 4) : J8 (upd un i x) sa := fun r hr => by
  by_cases e : r = i
  · subst e; rw [upd_eq] at hr; exact g.elim (fun z => absurd z hr) id
  · rw [upd_ne _ _ _ _ e] at hr; exact h r hr
theorem J8_both {un sa : Nat → Int32} (h : J8 un sa) (i : Nat) {x y : Int32} (g : x.toInt = 0 ∨ y.toInt = 4) : J8 (upd un i x) (upd sa i y) := fun r hr => by
  by_cases e : r = i
  · subst e; rw [upd_eq] at hr ⊢; exact g.elim (fun z => absurd z hr) id
  · rw [upd_ne _ _ _ _ e] at hr ⊢; exact h r hr
theorem J9_up {tn : Nat → Int32} {o o2 : Int32} (h : J9 tn o) (g : o.toInt ≤ o2.toInt) : J9 tn o2 := fun j => Int.le_trans (h j) g
theorem J9_tn {tn : Nat → Int32} {o : Int32} (h : J9 tn o) (i : Nat) : J9 (upd tn i o) o := fun j => by
  by_cases e : j = i
  · subst e; rw [upd_eq]; exact Int.le_refl _
  · rw [upd_ne _ _ _ _ e]; exact h j
theorem cU_le (f : Nat → Int32) (k : Nat) : cU f k ≤ k := by
  induction k with
  | zero => exact Nat.le_refl _
  | succ k ih => unfold cU; split <;> omega
theorem cU_ge {f : Nat → Int32} {i : Nat} {x : Int32} (k : Nat) (h : k ≤ i) : cU (upd f i x) k = cU f k := by
  induction k with
  | zero => rfl
  | succ k ih => unfold cU; rw [ih (by omega), upd_ne _ _ _ _ (by omega)]
theorem cU_set {f : Nat → Int32} {i : Nat} {x : Int32} (h0 : f i = 0) (hx : ¬ x = 0) (k : Nat) (h : i < k) : cU (upd f i x) k = cU f k + 1 := by
  induction k with
  | zero => omega
  | succ k ih =>
    unfold cU
    by_cases e : i = k
    · subst e; rw [cU_ge _ (Nat.le_refl _), upd_eq, if_neg hx, if_pos h0]
    · rw [ih (by omega), upd_ne _ _ _ _ (fun q => e q.symm)]; omega
theorem i_z {x : Int32} (h : x.toInt = 0) : x = 0 := i_eq.mpr (h.trans (by decide))
theorem J5_bind {tm bm tp tn bn : Nat → Int32} {o x : Int32} {r0 b i : Nat} (h : J5 tm bm tp tn bn) (h9 : J9 tn o) (hb : (bm r0).toInt = (b : Int)) (hb24 : b < 24) (hi : i = 24 * r0 + b) (hx : x.toInt = (b : Int) + 1) : J5 tm (upd bm r0 x) tp tn (upd bn i o) := fun r t k ht h24 hk hbk hk24 => by
  by_cases e : r = r0
  · subst e; rw [upd_eq] at hbk
    by_cases ek : k = b
    · subst ek; subst hi; rw [upd_eq]; exact h9 _
    · rw [upd_ne _ _ _ _ (by omega)]; exact h r t k ht h24 hk (by omega) hk24
  · rw [upd_ne _ _ _ _ e] at hbk
    rw [upd_ne _ _ _ _ (by omega)]
    exact h r t k ht h24 hk hbk hk24
theorem J4_try {tm tp : Nat → Int32} {x y : Int32} {r0 b i : Nat} (h : J4 tm tp) (hb : (tm r0).toInt = (b : Int)) (hb24 : b < 24) (hi : i = 24 * r0 + b) (hx : x.toInt = (b : Int) + 1) (hy : (b : Int) < y.toInt) : J4 (upd tm r0 x) (upd tp i y) := fun r t ht h24 => by
  by_cases e : r = r0
  · subst e; rw [upd_eq] at ht
    by_cases ek : t = b
    · subst ek; subst hi; rw [upd_eq]; exact hy
    · rw [upd_ne _ _ _ _ (by omega)]; exact h r t (by omega) h24
  · rw [upd_ne _ _ _ _ e] at ht
    rw [upd_ne _ _ _ _ (by omega)]
    exact h r t ht h24
theorem J5_try {tm bm tp tn bn : Nat → Int32} {o x y : Int32} {r0 b i : Nat} (h : J5 tm bm tp tn bn) (hb : (tm r0).toInt = (b : Int)) (hb24 : b < 24) (hi : i = 24 * r0 + b) (hx : x.toInt = (b : Int) + 1) (hy : (bm r0).toInt ≤ y.toInt) : J5 (upd tm r0 x) bm (upd tp i y) (upd tn i o) bn := fun r t k ht h24 hk hbk hk24 => by
  by_cases e : r = r0
  · subst e; rw [upd_eq] at ht
    by_cases ek : t = b
    · subst ek; subst hi; rw [upd_eq] at hk; omega
    · rw [upd_ne _ _ _ _ (by omega)] at hk ⊢; exact h r t k (by omega) h24 hk hbk hk24
  · rw [upd_ne _ _ _ _ e] at ht
    rw [upd_ne _ _ _ _ (by omega)] at hk ⊢
    exact h r t k ht h24 hk hbk hk24
theorem J6_new {un : Nat → Int32} {hm rn rn2 : Int32} {i : Nat} {x : Int32} (h : J6 un hm rn) (h2 : rn2.toInt = rn.toInt + 1) (h0 : 0 ≤ rn.toInt) (hi : i = rn.toInt.toNat) (hx : x = 0) : J6 (upd un i x) hm rn2 := by
  unfold J6 at *
  have e : rn2.toInt.toNat = rn.toInt.toNat + 1 := by omega
  rw [e]
  unfold cU
  rw [← hi, cU_ge _ (Nat.le_refl _), upd_eq, if_pos hx]
  rw [← hi] at h
  omega
theorem J6_le {un : Nat → Int32} {hm rn : Int32} (h : J6 un hm rn) (hr : rn.toInt ≤ 200) (h0 : 0 ≤ rn.toInt) : hm.toInt ≤ 600 := by
  unfold J6 at h
  have := cU_le un rn.toInt.toNat
  omega
def I10 (kp : Int) (F : Nat → Nat → Int32) (n : Nat → Int32) : Prop := bd 0 24 (F 2) ∧ bd 0 12 (F 3) ∧ bd 0 4 (F 13) ∧ bd 0 7 (F 14) ∧ bd (-1) 199 (F 15) ∧ bd 0 199 (F 16) ∧ bd (-1) 5 (F 18) ∧ bd 0 24 (F 20) ∧ bd 0 7 (F 28) ∧ bd 0 24 (F 36) ∧ bd 0 24 (F 39) ∧ bd 0 24 (F 41) ∧ (1 ≤ (n 9).toInt ∧ (n 9).toInt ≤ 6) ∧ (0 ≤ (n 11).toInt ∧ (n 11).toInt ≤ 200) ∧ (0 ≤ (n 44).toInt ∧ (n 44).toInt ≤ kp) ∧ (0 ≤ (n 45).toInt ∧ (n 45).toInt ≤ kp) ∧ (0 ≤ (n 46).toInt ∧ (n 46).toInt ≤ 310000) ∧ (0 ≤ (n 47).toInt ∧ (n 47).toInt ≤ 600) ∧ (0 ≤ (n 48).toInt ∧ (n 48).toInt ≤ kp) ∧ J0 (F 3) (F 4) (F 5) ∧ J1 (F 13) (F 18) ∧ J2 (F 39) (F 20) ∧ J2 (F 36) (F 20) ∧ J4 (F 39) (F 41) ∧ J5 (F 39) (F 36) (F 41) (F 43) (F 42) ∧ J6 (F 32) (n 47) (n 11) ∧ J7 (F 24) (F 20) ∧ J8 (F 32) (F 13) ∧ J9 (F 43) (n 44)
theorem I10_mono {k k2 : Int} {F : Nat → Nat → Int32} {n : Nat → Int32} (h : I10 k F n) (g : k ≤ k2) : I10 k2 F n := by
  obtain ⟨a0, a1, a2, a3, a4, a5, a6, a7, a8, a9, a10, a11, a12, a13, a14, a15, a16, a17, a18, a19, a20, a21, a22, a23, a24, a25, a26, a27, a28⟩ := h
  exact ⟨a0, a1, a2, a3, a4, a5, a6, a7, a8, a9, a10, a11, a12, a13, ⟨a14.1, by omega⟩, ⟨a15.1, by omega⟩, a16, a17, ⟨a18.1, by omega⟩, a19, a20, a21, a22, a23, a24, a25, a26, a27, a28⟩
