/- ---------- the simulation: both states side by side ---------- -/
theorem u2_at {α : Type} (G : Nat → Nat → α) (r k i j : Nat) (v : α) : u2 G r k v i j = if i = r ∧ j = k then v else G i j := by
  by_cases e : i = r
  · subst e
    by_cases h : j = k
    · subst h; rw [u2_eq, if_pos ⟨rfl, rfl⟩] <;> rfl
    · rw [u2_n2 _ _ _ _ h, if_neg (fun q => h q.2)] <;> rfl
  · rw [u2_n1 _ _ _ e, if_neg (fun q => e q.1)] <;> rfl
theorem u1_at {α : Type} (f : Nat → α) (k j : Nat) (v : α) : u1 f k v j = if j = k then v else f j := by
  by_cases h : j = k
  · subst h; rw [u1_eq, if_pos rfl] <;> rfl
  · rw [u1_ne _ _ h, if_neg h] <;> rfl
theorem upF_at (F : Nat → Nat → Int32) (k j : Nat) (g : Nat → Int32) : upF F k g j = if j = k then g else F j := rfl
theorem upn_at (n : Nat → Int32) (k j : Nat) (v : Int32) : upn n k v j = if j = k then v else n j := rfl
theorem upd_at (f : Nat → Int32) (k j : Nat) (v : Int32) : upd f k v j = if j = k then v else f j := rfl
theorem ix_nat {v : Int32} {i : Nat} (h : v.toInt = (i : Int)) : Int32.toNatClampNeg v = i := by
  show v.toInt.toNat = i
  omega
theorem ofNat_toInt {i : Nat} (h : i < 2147483648) : (Int32.ofNat i).toInt = (i : Int) := Int32.toInt_ofNat_of_lt h
theorem ix_ofNat {i : Nat} (h : i < 2147483648) : Int32.toNatClampNeg (Int32.ofNat i) = i := ix_nat (ofNat_toInt h)
theorem i_inj {x y : Int32} (h : x.toInt = y.toInt) : x = y := Int32.toInt_inj.mp h
theorem i_ne {x y : Int32} (h : ¬ x.toInt = y.toInt) : ¬ x = y := fun e => h (by rw [e] <;> rfl)
theorem ofNat_inj {i j : Nat} (hi : i < 2147483648) (hj : j < 2147483648) (h : Int32.ofNat i = Int32.ofNat j) : i = j := by
  have := congrArg Int32.toInt h
  rw [ofNat_toInt hi, ofNat_toInt hj] at this
  omega
theorem ix8 {v s : Int32} {i j : Nat} (hv : v.toInt = (i : Int)) (hi : i < 200) (hs : s.toInt = (j : Int)) (hj : j < 8) : Int32.toNatClampNeg (8 * v + s) = 8 * i + j := by
  have e1 : (8 * v).toInt = 8 * v.toInt := ar_mul (by decide) rfl rfl (by omega)
  have e2 : (8 * v + s).toInt = (8 * v).toInt + s.toInt := ar_add rfl rfl rfl (by omega)
  exact ix_nat (by omega)
theorem ix24 {v s : Int32} {i j : Nat} (hv : v.toInt = (i : Int)) (hi : i < 200) (hs : s.toInt = (j : Int)) (hj : j < 25) : Int32.toNatClampNeg (24 * v + s) = 24 * i + j ∧ (24 * v + s).toInt = 24 * (i : Int) + j := by
  have e1 : (24 * v).toInt = 24 * v.toInt := ar_mul (by decide) rfl rfl (by omega)
  have e2 : (24 * v + s).toInt = (24 * v).toInt + s.toInt := ar_add rfl rfl rfl (by omega)
  exact ⟨ix_nat (by omega), by omega⟩
theorem inc_toInt {x : Int32} (h : x.toInt < 2147483647) : (x + 1).toInt = x.toInt + 1 := ar_add rfl (by decide) rfl (by have := Int32.le_toInt x; omega)
theorem dec_toInt {x : Int32} (h : -2147483648 < x.toInt) : (x - 1).toInt = x.toInt - 1 := ar_sub rfl (by decide) rfl (by have := Int32.toInt_lt x; omega)
/-- two counting loops side by side -/
theorem itr_itr {σ τ ρ ρ' : Type} {P : ρ → ρ' → Prop} {I : Nat → σ → τ → Prop} {b : Nat → σ → (σ → ρ) → ρ} {b' : Nat → τ → (τ → ρ') → ρ'} {fin : σ → ρ} {fin' : τ → ρ'} {N : Nat}
    (hf : ∀ s t, I N s t → P (fin s) (fin' t))
    (hb : ∀ c s t k k', c < N → I c s t → (∀ s' t', I (c + 1) s' t' → P (k s') (k' t')) → P (b c s k) (b' c t k')) :
    ∀ n c s t, c + n = N → I c s t → P (itr b fin c n s) (itr b' fin' c n t) := by
  intro n
  induction n with
  | zero => intro c s t h hI; rw [itr_0, itr_0]; exact hf _ _ (by rw [← h]; exact hI)
  | succ n ih =>
    intro c s t h hI
    rw [itr_s, itr_s]
    exact hb c s t _ _ (by omega) hI (fun s' t' h' => ih (c + 1) s' t' (by omega) h')
/-- one counting loop, with an invariant -/
theorem itr_inv {σ ρ : Type} {P : ρ → Prop} {I : Nat → σ → Prop} {b : Nat → σ → (σ → ρ) → ρ} {fin : σ → ρ} {N : Nat}
    (hf : ∀ s, I N s → P (fin s)) (hb : ∀ c s k, c < N → I c s → (∀ s', I (c + 1) s' → P (k s')) → P (b c s k)) :
    ∀ n c s, c + n = N → I c s → P (itr b fin c n s) := by
  intro n
  induction n with
  | zero => intro c s h hI; rw [itr_0]; exact hf _ (by rw [← h]; exact hI)
  | succ n ih =>
    intro c s h hI
    rw [itr_s]
    exact hb c s _ (by omega) hI (fun s' h' => ih (c + 1) s' (by omega) h')
/-- the first child of g among c, c + 1, .. (n of them) -/
def nxk (K : Nat → Nat → Option Nat) (g : Nat) : Nat → Nat → Option Nat
  | _, 0 => none
  | c, n + 1 => if K c 0 = some g then some c else nxk K g (c + 1) n
theorem nxk_0 (K : Nat → Nat → Option Nat) (g c : Nat) : nxk K g c 0 = none := rfl
theorem nxk_s (K : Nat → Nat → Option Nat) (g c n : Nat) : nxk K g c (n + 1) = if K c 0 = some g then some c else nxk K g (c + 1) n := rfl
theorem nxk_lt {K : Nat → Nat → Option Nat} {g : Nat} : ∀ {n c j : Nat}, nxk K g c n = some j → c ≤ j ∧ j < c + n ∧ K j 0 = some g := by
  intro n
  induction n with
  | zero => intro c j h; rw [nxk_0] at h; cases h
  | succ n ih =>
    intro c j h
    rw [nxk_s] at h
    by_cases e : K c 0 = some g
    · rw [if_pos e] at h; cases h; exact ⟨Nat.le_refl _, by omega, e⟩
    · rw [if_neg e] at h; have := ih h; exact ⟨by omega, by omega, this.2.2⟩
theorem nxk_none {K : Nat → Nat → Option Nat} {g : Nat} : ∀ {n c : Nat}, nxk K g c n = none → ∀ j : Nat, c ≤ j → j < c + n → K j 0 ≠ some g := by
  intro n
  induction n with
  | zero => intro c _ j h1 h2; omega
  | succ n ih =>
    intro c h j h1 h2
    rw [nxk_s] at h
    by_cases e : K c 0 = some g
    · rw [if_pos e] at h; cases h
    · rw [if_neg e] at h
      by_cases q : j = c
      · subst q; exact e
      · exact ih h j (by omega) (by omega)
theorem nxk_congr {K K' : Nat → Nat → Option Nat} {g : Nat} : ∀ {n c : Nat}, (∀ j : Nat, c ≤ j → j < c + n → K' j 0 = K j 0) → nxk K' g c n = nxk K g c n := by
  intro n
  induction n with
  | zero => intro c _; rfl
  | succ n ih =>
    intro c h
    rw [nxk_s, nxk_s, h c (Nat.le_refl _) (by omega), ih (fun j h1 h2 => h j (by omega) (by omega))] <;> rfl
/-- one more at the end -/
theorem nxk_snoc {K : Nat → Nat → Option Nat} {g : Nat} : ∀ {n c : Nat}, nxk K g c (n + 1) = (nxk K g c n).elim (if K (c + n) 0 = some g then some (c + n) else none) some := by
  intro n
  induction n with
  | zero => intro c; rw [nxk_s, nxk_0, nxk_0]; rfl
  | succ n ih =>
    intro c
    by_cases e : K c 0 = some g
    · have h1 : nxk K g c (n + 1 + 1) = some c := by rw [nxk_s, if_pos e]
      have h2 : nxk K g c (n + 1) = some c := by rw [nxk_s, if_pos e] <;> rfl
      rw [h1, h2]; rfl
    · have h1 : nxk K g c (n + 1 + 1) = nxk K g (c + 1) (n + 1) := by rw [nxk_s, if_neg e]
      have h2 : nxk K g c (n + 1) = nxk K g (c + 1) n := by rw [nxk_s, if_neg e] <;> rfl
      rw [h1, h2, ih, show c + 1 + n = c + (n + 1) by omega] <;> rfl
/-- a loop along the children beside one that looks at all -/
theorem cit_itr {σ τ ρ ρ' : Type} {P : ρ → ρ' → Prop} {I : Nat → σ → τ → Prop} {K : Nat → Nat → Option Nat} {g : Nat} {b : Nat → σ → (σ → ρ) → ρ} {b' : Nat → τ → (τ → ρ') → ρ'} {fin : σ → ρ} {fin' : τ → ρ'} {N : Nat}
    (hK : ∀ c, c < N → K c 0 = some g → K c 4 = nxk K g (c + 1) (N - (c + 1)))
    (hf : ∀ s t, I N s t → P (fin s) (fin' t))
    (hb : ∀ c s t k k', c < N → K c 0 = some g → I c s t → (∀ s' t', I (c + 1) s' t' → P (k s') (k' t')) → P (b c s k) (b' c t k'))
    (hn : ∀ c s t k', c < N → K c 0 ≠ some g → I c s t → ∃ t', b' c t k' = k' t' ∧ I (c + 1) s t') :
    ∀ n c s t m, c + n = N → n ≤ m → I c s t → P (cit K b fin m (nxk K g c n) s) (itr b' fin' c n t) := by
  intro n
  induction n with
  | zero =>
    intro c s t m h _ hI
    rw [itr_0, nxk_0]
    have : cit K b fin m none s = fin s := by
      cases m with
      | zero => rw [cit_0]
      | succ m => rw [cit_n] <;> rfl
    rw [this]; exact hf _ _ (by rw [← h]; exact hI)
  | succ n ih =>
    intro c s t m h hm hI
    rw [itr_s, nxk_s]
    by_cases e : K c 0 = some g
    · rw [if_pos e]
      cases m with
      | zero => omega
      | succ m =>
        rw [cit_s, hK c (by omega) e, show N - (c + 1) = n by omega]
        exact hb c s t _ _ (by omega) e hI (fun s' t' h' => ih (c + 1) s' t' m (by omega) (by omega) h')
    · rw [if_neg e]
      obtain ⟨t', h1, h2⟩ := hn c s t (itr b' fin' (c + 1) n) (by omega) e hI
      rw [h1]
      exact ih (c + 1) s t' m (by omega) (by omega) h2

def lsk (K : Nat → Nat → Option Nat) (g : Nat) : Nat → Option Nat
  | 0 => none
  | c + 1 => if K c 0 = some g then some c else lsk K g c
def cnk (K : Nat → Nat → Option Nat) (g : Nat) : Nat → Nat
  | 0 => 0
  | c + 1 => cnk K g c + (if K c 0 = some g then 1 else 0)
theorem lsk_congr {K K' : Nat → Nat → Option Nat} {g : Nat} : ∀ {n : Nat}, (∀ j : Nat, j < n → K' j 0 = K j 0) → lsk K' g n = lsk K g n
  | 0, _ => rfl
  | n + 1, h => by
    show (if K' n 0 = some g then some n else lsk K' g n) = (if K n 0 = some g then some n else lsk K g n)
    rw [h n (by omega), lsk_congr (fun j hj => h j (by omega))] <;> rfl
theorem cnk_congr {K K' : Nat → Nat → Option Nat} {g : Nat} : ∀ {n : Nat}, (∀ j : Nat, j < n → K' j 0 = K j 0) → cnk K' g n = cnk K g n
  | 0, _ => rfl
  | n + 1, h => by
    show cnk K' g n + (if K' n 0 = some g then 1 else 0) = cnk K g n + (if K n 0 = some g then 1 else 0)
    rw [h n (by omega), cnk_congr (fun j hj => h j (by omega))] <;> rfl
theorem lsk_s (K : Nat → Nat → Option Nat) (g n : Nat) : lsk K g (n + 1) = if K n 0 = some g then some n else lsk K g n := rfl
theorem cnk_s (K : Nat → Nat → Option Nat) (g n : Nat) : cnk K g (n + 1) = cnk K g n + (if K n 0 = some g then 1 else 0) := rfl
theorem lsk_lt {K : Nat → Nat → Option Nat} {g : Nat} : ∀ {n j : Nat}, lsk K g n = some j → j < n ∧ K j 0 = some g
  | 0, j, h => by cases h
  | n + 1, j, h => by
    rw [lsk_s] at h
    by_cases e : K n 0 = some g
    · rw [if_pos e] at h; cases h; exact ⟨by omega, e⟩
    · rw [if_neg e] at h; have := lsk_lt h; exact ⟨by omega, this.2⟩
theorem lsk_max {K : Nat → Nat → Option Nat} {g : Nat} : ∀ {n j : Nat}, j < n → K j 0 = some g → ∃ c, lsk K g n = some c ∧ j ≤ c
  | 0, j, h, _ => by omega
  | n + 1, j, h, e => by
    rw [lsk_s]
    by_cases q : K n 0 = some g
    · rw [if_pos q]; exact ⟨n, rfl, by omega⟩
    · rw [if_neg q]
      by_cases w : j = n
      · subst w; exact absurd e q
      · exact lsk_max (by omega) e

def RS1 (p kp : Int) (g : Nat → Int32) (B : Nat → Nat → Int32) (o st b36 : Int32) (b37 b38 : Nat → Int32) (b39 : Int32) (b40 b41 b42 b43 : Nat → Int32) : Prop := (g 14 = b36 ∧ 0 ≤ b36.toInt ∧ b36.toInt ≤ 24 ∧ b36.toInt ≤ p ∧ 0 ≤ (g 16).toInt ∧ (g 16).toInt ≤ kp) ∧
  (∀ k : Nat, (k : Int) < b36.toInt → B 3 k = b37 k ∧ B 4 k = b38 k ∧ (B 5 k).toInt ≤ (g 16).toInt ∧ (b42 k).toInt < o.toInt) ∧
  (∀ k l : Nat, k < l → (l : Int) < b36.toInt → (B 5 k).toInt ≤ (B 5 l).toInt ∧ (b42 k).toInt < (b42 l).toInt) ∧
  (¬ (st.toInt = 3 ∨ st.toInt = 4) → (g 15 = b39 ∧ 0 ≤ b39.toInt ∧ b39.toInt ≤ 24 ∧ b39.toInt ≤ p) ∧
    ∀ t : Nat, (t : Int) < b39.toInt → (B 6 t = b40 t ∧ B 7 t = b41 t ∧ (B 8 t).toInt < (g 16).toInt ∧ (b43 t).toInt ≤ o.toInt ∧ (t : Int) < (b41 t).toInt ∧ (b41 t).toInt ≤ 24) ∧
      ∀ k : Nat, (k : Int) < b36.toInt → ((B 8 t).toInt < (B 5 k).toInt ↔ (b43 t).toInt ≤ (b42 k).toInt) ∧ ((b41 t).toInt ≤ (k : Int) → (b43 t).toInt ≤ (b42 k).toInt))
def RA (N : Nat) (G : Nat → Nat → Int32) (K : Nat → Nat → Option Nat) (a14 : Nat → Int32) (a15 : Nat → Int32) (a16 : Nat → Int32) (a17 : Nat → Int32) (a18 : Nat → Int32) (a20 : Nat → Int32) (a21 : Nat → Int32) (a22 : Nat → Int32) (a23 : Nat → Int32) : Prop := ∀ i : Nat, i < N →
  (G i 0 = Int32.ofNat i ∧ G i 1 = a14 i ∧ G i 3 = a18 i ∧ G i 4 = a23 i ∧ G i 6 = a20 i ∧ G i 7 = a22 i ∧ G i 10 = a17 i) ∧
  ((K i 0).elim (-1) Int32.ofNat = a15 i ∧ Int32.ofNat (rt9 K i) = a16 i ∧ (K i 0 = none → (G i 10).toInt = 0) ∧ (∀ g : Nat, K i 0 = some g → g < i ∧ G i 11 = a21 i ∧ (G i 10).toInt = (G g 10).toInt + 1)) ∧
  (rt9 K i < N ∧ K (rt9 K i) 0 = none) ∧ (0 ≤ (a14 i).toInt ∧ (a14 i).toInt < 8) ∧ (0 ≤ (a17 i).toInt ∧ (a17 i).toInt ≤ 6) ∧ (0 ≤ (a20 i).toInt ∧ (a20 i).toInt ≤ 24)
theorem RA.fG {N : Nat} {G : Nat → Nat → Int32} {K : Nat → Nat → Option Nat} {a14 : Nat → Int32} {a15 : Nat → Int32} {a16 : Nat → Int32} {a17 : Nat → Int32} {a18 : Nat → Int32} {a20 : Nat → Int32} {a21 : Nat → Int32} {a22 : Nat → Int32} {a23 : Nat → Int32} (h : RA N G K a14 a15 a16 a17 a18 a20 a21 a22 a23) (r : Nat) (k : Nat) (v : Int32) (hk : ∀ b : Nat, b ∈ [0, 1, 3, 4, 6, 7, 10, 11] → b ≠ k) : RA N (u2 G r k v) K a14 a15 a16 a17 a18 a20 a21 a22 a23 := by
  have e : ∀ a b : Nat, b ∈ [0, 1, 3, 4, 6, 7, 10, 11] → u2 G r k v a b = G a b := fun a b hb => u2_n2 _ _ _ _ (hk b hb)
  unfold RA at *
  simp only [e _ 0 (by decide), e _ 1 (by decide), e _ 3 (by decide), e _ 4 (by decide), e _ 6 (by decide), e _ 7 (by decide), e _ 10 (by decide), e _ 11 (by decide)]
  exact h
def RB (N : Nat) (G : Nat → Nat → Int32) (a13 : Nat → Int32) (a18 : Nat → Int32) (a19 : Nat → Int32) : Prop := ∀ i : Nat, i < N → G i 2 = a13 i ∧ G i 5 = a19 i ∧ (0 ≤ (a13 i).toInt ∧ (a13 i).toInt ≤ 4) ∧ ((a13 i).toInt = 1 → 0 ≤ (a18 i).toInt ∧ (a18 i).toInt < 6) ∧ (¬ (a13 i).toInt = 1 → a18 i = -1)
theorem RB.fG {N : Nat} {G : Nat → Nat → Int32} {a13 : Nat → Int32} {a18 : Nat → Int32} {a19 : Nat → Int32} (h : RB N G a13 a18 a19) (r : Nat) (k : Nat) (v : Int32) (hk : ∀ b : Nat, b ∈ [2, 5] → b ≠ k) : RB N (u2 G r k v) a13 a18 a19 := by
  have e : ∀ a b : Nat, b ∈ [2, 5] → u2 G r k v a b = G a b := fun a b hb => u2_n2 _ _ _ _ (hk b hb)
  unfold RB at *
  simp only [e _ 2 (by decide), e _ 5 (by decide)]
  exact h
def RC (N : Nat) (G : Nat → Nat → Int32) (a13 : Nat → Int32) (a24 : Nat → Int32) (a25 : Nat → Int32) : Prop := ∀ i : Nat, i < N → G i 8 = a25 i ∧ ((a25 i).toInt = 0 ∨ (a25 i).toInt = 1) ∧ ((a25 i).toInt = 0 → (¬ (a24 i).toInt = 0 ↔ ((a13 i).toInt = 2 ∨ ¬ (G i 9).toInt = 0))) ∧ ((a13 i).toInt = 2 → (a25 i).toInt = 0 ∧ (G i 9).toInt = 0) ∧ (((a13 i).toInt = 3 ∨ (a13 i).toInt = 4) → (a25 i).toInt = 0 ∧ (a24 i).toInt = 0 ∧ (G i 9).toInt = 0) ∧ (¬ (a24 i).toInt = 0 → (G i 6).toInt < 24)
theorem RC.fG {N : Nat} {G : Nat → Nat → Int32} {a13 : Nat → Int32} {a24 : Nat → Int32} {a25 : Nat → Int32} (h : RC N G a13 a24 a25) (r : Nat) (k : Nat) (v : Int32) (hk : ∀ b : Nat, b ∈ [6, 8, 9] → b ≠ k) : RC N (u2 G r k v) a13 a24 a25 := by
  have e : ∀ a b : Nat, b ∈ [6, 8, 9] → u2 G r k v a b = G a b := fun a b hb => u2_n2 _ _ _ _ (hk b hb)
  unfold RC at *
  simp only [e _ 6 (by decide), e _ 8 (by decide), e _ 9 (by decide)]
  exact h
def RD (N : Nat) (bk : Nat → Nat → Prop) (G : Nat → Nat → Int32) (K : Nat → Nat → Option Nat) (a25 : Nat → Int32) (a26 : Nat → Int32) (a27 : Nat → Int32) : Prop := ∀ i : Nat, i < N →
  (K i 0 = none → (G i 12).toInt = 0 ∧ (a26 i).toInt = 0 ∧ (a27 i).toInt = 0) ∧
  (∀ g : Nat, K i 0 = some g → ((G i 12).toInt = 0 ∧ (a26 i).toInt = 0 ∧ (a27 i).toInt = 0) ∨ ((G i 12).toInt = 1 ∧ ¬ (a27 i).toInt = 0 ∧ (a26 i).toInt = 0 ∧ (a25 g).toInt = 0 ∧ bk g i) ∨ ((G i 12).toInt = 1 ∧ (a27 i).toInt = 0 ∧ ¬ (a26 i).toInt = 0 ∧ ¬ (a25 g).toInt = 0) ∨ ((G i 12).toInt = 2 ∧ (a27 i).toInt = 0 ∧ ¬ (a26 i).toInt = 0))
theorem RD.fG {N : Nat} {bk : Nat → Nat → Prop} {G : Nat → Nat → Int32} {K : Nat → Nat → Option Nat} {a25 : Nat → Int32} {a26 : Nat → Int32} {a27 : Nat → Int32} (h : RD N bk G K a25 a26 a27) (r : Nat) (k : Nat) (v : Int32) (hk : ∀ b : Nat, b ∈ [12] → b ≠ k) : RD N bk (u2 G r k v) K a25 a26 a27 := by
  have e : ∀ a b : Nat, b ∈ [12] → u2 G r k v a b = G a b := fun a b hb => u2_n2 _ _ _ _ (hk b hb)
  unfold RD at *
  simp only [e _ 12 (by decide)]
  exact h
theorem RD.fK {N : Nat} {bk : Nat → Nat → Prop} {G : Nat → Nat → Int32} {K : Nat → Nat → Option Nat} {a25 : Nat → Int32} {a26 : Nat → Int32} {a27 : Nat → Int32} (h : RD N bk G K a25 a26 a27) (r : Nat) (k : Nat) (v : Option Nat) (hk : ∀ b : Nat, b ∈ [0] → b ≠ k) : RD N bk G (u2 K r k v) a25 a26 a27 := by
  have e : ∀ a b : Nat, b ∈ [0] → u2 K r k v a b = K a b := fun a b hb => u2_n2 _ _ _ _ (hk b hb)
  unfold RD at *
  simp only [e _ 0 (by decide)]
  exact h
def RE (N : Nat) (G : Nat → Nat → Int32) (K : Nat → Nat → Option Nat) (a13 : Nat → Int32) (a28 : Nat → Int32) (a29 : Nat → Int32) (a30 : Nat → Int32) (a31 : Nat → Int32) (a32 : Nat → Int32) : Prop := ∀ i : Nat, i < N →
  ((a13 i).toInt = 4 → G i 17 = a28 i ∧ G i 18 = a29 i ∧ G i 19 = a30 i ∧ G i 20 = a31 i ∧ (¬ (G i 21).toInt = 0 ↔ ¬ (a32 i).toInt = 0) ∧ 0 ≤ (a28 i).toInt ∧ (a28 i).toInt ≤ 7) ∧
  (¬ (a32 i).toInt = 0 → (a13 i).toInt = 4 ∧ ∀ g : Nat, K i 0 = some g → (a13 g).toInt = 3 ∨ (a13 g).toInt = 4)
theorem RE.fG {N : Nat} {G : Nat → Nat → Int32} {K : Nat → Nat → Option Nat} {a13 : Nat → Int32} {a28 : Nat → Int32} {a29 : Nat → Int32} {a30 : Nat → Int32} {a31 : Nat → Int32} {a32 : Nat → Int32} (h : RE N G K a13 a28 a29 a30 a31 a32) (r : Nat) (k : Nat) (v : Int32) (hk : ∀ b : Nat, b ∈ [17, 18, 19, 20, 21] → b ≠ k) : RE N (u2 G r k v) K a13 a28 a29 a30 a31 a32 := by
  have e : ∀ a b : Nat, b ∈ [17, 18, 19, 20, 21] → u2 G r k v a b = G a b := fun a b hb => u2_n2 _ _ _ _ (hk b hb)
  unfold RE at *
  simp only [e _ 17 (by decide), e _ 18 (by decide), e _ 19 (by decide), e _ 20 (by decide), e _ 21 (by decide)]
  exact h
theorem RE.fK {N : Nat} {G : Nat → Nat → Int32} {K : Nat → Nat → Option Nat} {a13 : Nat → Int32} {a28 : Nat → Int32} {a29 : Nat → Int32} {a30 : Nat → Int32} {a31 : Nat → Int32} {a32 : Nat → Int32} (h : RE N G K a13 a28 a29 a30 a31 a32) (r : Nat) (k : Nat) (v : Option Nat) (hk : ∀ b : Nat, b ∈ [0] → b ≠ k) : RE N G (u2 K r k v) a13 a28 a29 a30 a31 a32 := by
  have e : ∀ a b : Nat, b ∈ [0] → u2 K r k v a b = K a b := fun a b hb => u2_n2 _ _ _ _ (hk b hb)
  unfold RE at *
  simp only [e _ 0 (by decide)]
  exact h
def RF (N : Nat) (F : Nat → Nat → Nat → Int32) (m : Nat → Int32) (a18 : Nat → Int32) (a33 : Nat → Int32) (a34 : Nat → Int32) (a35 : Nat → Int32) : Prop := ∀ i j : Nat, i < N → j < 8 → F i 2 j = a33 (8 * i + j) ∧
  ((¬ (m j).toInt = 0 ∨ ¬ (a18 i).toInt = -1) → (¬ (F i 0 j).toInt = 0 ↔ ¬ (a35 (8 * i + j)).toInt = 0) ∧ (¬ (F i 0 j).toInt = 0 → F i 1 j = a34 (8 * i + j))) ∧
  ((m j).toInt = 0 → (a18 i).toInt = -1 → (F i 0 j).toInt = 0)
theorem RF.fF {N : Nat} {F : Nat → Nat → Nat → Int32} {m : Nat → Int32} {a18 : Nat → Int32} {a33 : Nat → Int32} {a34 : Nat → Int32} {a35 : Nat → Int32} (h : RF N F m a18 a33 a34 a35) (r : Nat) (k : Nat) (v : Nat → Int32) (hk : ∀ b : Nat, b ∈ [0, 1, 2] → b ≠ k) : RF N (u2 F r k v) m a18 a33 a34 a35 := by
  have e : ∀ a b : Nat, b ∈ [0, 1, 2] → u2 F r k v a b = F a b := fun a b hb => u2_n2 _ _ _ _ (hk b hb)
  unfold RF at *
  simp only [e _ 0 (by decide), e _ 1 (by decide), e _ 2 (by decide)]
  exact h
def RS (N : Nat) (pb : Nat → Int) (kp : Int) (G : Nat → Nat → Int32) (F : Nat → Nat → Nat → Int32) (o : Int32) (a13 : Nat → Int32) (a36 : Nat → Int32) (a37 : Nat → Int32) (a38 : Nat → Int32) (a39 : Nat → Int32) (a40 : Nat → Int32) (a41 : Nat → Int32) (a42 : Nat → Int32) (a43 : Nat → Int32) : Prop := ∀ i : Nat, i < N → RS1 (pb i) kp (G i) (F i) o (a13 i) (a36 i) (fun k => a37 (24 * i + k)) (fun k => a38 (24 * i + k)) (a39 i) (fun k => a40 (24 * i + k)) (fun k => a41 (24 * i + k)) (fun k => a42 (24 * i + k)) (fun k => a43 (24 * i + k))
theorem RS.fG {N : Nat} {pb : Nat → Int} {kp : Int} {G : Nat → Nat → Int32} {F : Nat → Nat → Nat → Int32} {o : Int32} {a13 : Nat → Int32} {a36 : Nat → Int32} {a37 : Nat → Int32} {a38 : Nat → Int32} {a39 : Nat → Int32} {a40 : Nat → Int32} {a41 : Nat → Int32} {a42 : Nat → Int32} {a43 : Nat → Int32} (h : RS N pb kp G F o a13 a36 a37 a38 a39 a40 a41 a42 a43) (r : Nat) (k : Nat) (v : Int32) (hk : ∀ b : Nat, b ∈ [14, 15, 16] → b ≠ k) : RS N pb kp (u2 G r k v) F o a13 a36 a37 a38 a39 a40 a41 a42 a43 := by
  have e : ∀ a b : Nat, b ∈ [14, 15, 16] → u2 G r k v a b = G a b := fun a b hb => u2_n2 _ _ _ _ (hk b hb)
  unfold RS RS1 at *
  simp only [e _ 14 (by decide), e _ 15 (by decide), e _ 16 (by decide)]
  exact h
theorem RS.fF {N : Nat} {pb : Nat → Int} {kp : Int} {G : Nat → Nat → Int32} {F : Nat → Nat → Nat → Int32} {o : Int32} {a13 : Nat → Int32} {a36 : Nat → Int32} {a37 : Nat → Int32} {a38 : Nat → Int32} {a39 : Nat → Int32} {a40 : Nat → Int32} {a41 : Nat → Int32} {a42 : Nat → Int32} {a43 : Nat → Int32} (h : RS N pb kp G F o a13 a36 a37 a38 a39 a40 a41 a42 a43) (r : Nat) (k : Nat) (v : Nat → Int32) (hk : ∀ b : Nat, b ∈ [3, 4, 5, 6, 7, 8] → b ≠ k) : RS N pb kp G (u2 F r k v) o a13 a36 a37 a38 a39 a40 a41 a42 a43 := by
  have e : ∀ a b : Nat, b ∈ [3, 4, 5, 6, 7, 8] → u2 F r k v a b = F a b := fun a b hb => u2_n2 _ _ _ _ (hk b hb)
  unfold RS RS1 at *
  simp only [e _ 3 (by decide), e _ 4 (by decide), e _ 5 (by decide), e _ 6 (by decide), e _ 7 (by decide), e _ 8 (by decide)]
  exact h
def RP (N : Nat) (G : Nat → Nat → Int32) (K : Nat → Nat → Option Nat) : Prop := ∀ i : Nat, i < N → K i 2 = nxk K i (i + 1) (N - (i + 1)) ∧ (∀ g : Nat, K i 0 = some g → K i 4 = nxk K g (i + 1) (N - (i + 1))) ∧ K i 3 = lsk K i N ∧ (G i 13).toInt = (cnk K i N : Int)
theorem RP.fG {N : Nat} {G : Nat → Nat → Int32} {K : Nat → Nat → Option Nat} (h : RP N G K) (r : Nat) (k : Nat) (v : Int32) (hk : ∀ b : Nat, b ∈ [13] → b ≠ k) : RP N (u2 G r k v) K := by
  have e : ∀ a b : Nat, b ∈ [13] → u2 G r k v a b = G a b := fun a b hb => u2_n2 _ _ _ _ (hk b hb)
  unfold RP at *
  simp only [e _ 13 (by decide)]
  exact h
def RN (G : Nat → Nat → Int32) : Prop := ∀ i : Nat, G i 0 = Int32.ofNat i ∧ (G i 22).toInt = 1048576
theorem RN.fG {G : Nat → Nat → Int32} (h : RN G) (r : Nat) (k : Nat) (v : Int32) (hk : ∀ b : Nat, b ∈ [0, 22] → b ≠ k) : RN (u2 G r k v) := by
  have e : ∀ a b : Nat, b ∈ [0, 22] → u2 G r k v a b = G a b := fun a b hb => u2_n2 _ _ _ _ (hk b hb)
  unfold RN at *
  simp only [e _ 0 (by decide), e _ 22 (by decide)]
  exact h
def RT (N : Nat) (T : Nat → Option Nat) (G : Nat → Nat → Int32) (a10 : Nat → Int32) : Prop := (∀ t : Nat, t < 6 → (T t).elim (-1) Int32.ofNat = a10 t) ∧ (∀ t i : Nat, T t = some i → i < N ∧ t < 6 ∧ (G i 3).toInt = (t : Int)) ∧ ∀ i : Nat, i < N → 0 ≤ (G i 3).toInt → T (G i 3).toInt.toNat = some i
theorem RT.fG {N : Nat} {T : Nat → Option Nat} {G : Nat → Nat → Int32} {a10 : Nat → Int32} (h : RT N T G a10) (r : Nat) (k : Nat) (v : Int32) (hk : ∀ b : Nat, b ∈ [3] → b ≠ k) : RT N T (u2 G r k v) a10 := by
  have e : ∀ a b : Nat, b ∈ [3] → u2 G r k v a b = G a b := fun a b hb => u2_n2 _ _ _ _ (hk b hb)
  unfold RT at *
  simp only [e _ 3 (by decide)]
  exact h
def RLg (n : Nat → Int32) (f : Nat → Nat → Int32) (qn : Nat → Int32) (a49 : Nat → Int32) (a50 : Nat → Int32) (a51 : Nat → Int32) (a52 : Nat → Int32) (a55 : Nat → Int32) (a56 : Nat → Int32) (a57 : Nat → Int32) (a58 : Nat → Int32) (a59 : Nat → Int32) : Prop := ((n 16).toInt = 4 * min (qn 45).toInt 1000 ∧ ∀ i : Nat, (i : Int) < min (qn 45).toInt 1000 → f 29 (4 * i) = a49 i ∧ f 29 (4 * i + 1) = a50 i ∧ f 29 (4 * i + 2) = a51 i ∧ f 29 (4 * i + 3) = a52 i) ∧
  ((n 19).toInt = 4 * min (qn 47).toInt 600 ∧ ∀ i : Nat, (i : Int) < min (qn 47).toInt 600 → f 30 (4 * i) = a55 i ∧ f 30 (4 * i + 1) = a56 i ∧ f 30 (4 * i + 2) = a57 i ∧ f 30 (4 * i + 3) = a58 i) ∧
  ((n 21).toInt = min (qn 48).toInt 2000 ∧ ∀ i : Nat, (i : Int) < min (qn 48).toInt 2000 → f 31 i = a59 i)
theorem RLg.fn {n : Nat → Int32} {f : Nat → Nat → Int32} {qn : Nat → Int32} {a49 : Nat → Int32} {a50 : Nat → Int32} {a51 : Nat → Int32} {a52 : Nat → Int32} {a55 : Nat → Int32} {a56 : Nat → Int32} {a57 : Nat → Int32} {a58 : Nat → Int32} {a59 : Nat → Int32} (h : RLg n f qn a49 a50 a51 a52 a55 a56 a57 a58 a59) (k : Nat) (v : Int32) (hk : ∀ b : Nat, b ∈ [16, 19, 21] → b ≠ k) : RLg (u1 n k v) f qn a49 a50 a51 a52 a55 a56 a57 a58 a59 := by
  have e : ∀ b : Nat, b ∈ [16, 19, 21] → u1 n k v b = n b := fun b hb => u1_ne _ _ (hk b hb)
  unfold RLg at *
  simp only [e 16 (by decide), e 19 (by decide), e 21 (by decide)]
  exact h
theorem RLg.ff {n : Nat → Int32} {f : Nat → Nat → Int32} {qn : Nat → Int32} {a49 : Nat → Int32} {a50 : Nat → Int32} {a51 : Nat → Int32} {a52 : Nat → Int32} {a55 : Nat → Int32} {a56 : Nat → Int32} {a57 : Nat → Int32} {a58 : Nat → Int32} {a59 : Nat → Int32} (h : RLg n f qn a49 a50 a51 a52 a55 a56 a57 a58 a59) (k : Nat) (v : Nat → Int32) (hk : ∀ b : Nat, b ∈ [29, 30, 31] → b ≠ k) : RLg n (u1 f k v) qn a49 a50 a51 a52 a55 a56 a57 a58 a59 := by
  have e : ∀ b : Nat, b ∈ [29, 30, 31] → u1 f k v b = f b := fun b hb => u1_ne _ _ (hk b hb)
  unfold RLg at *
  simp only [e 29 (by decide), e 30 (by decide), e 31 (by decide)]
  exact h
def RU (kp : Int) (n : Nat → Int32) (qn : Nat → Int32) : Prop := (n 0 = qn 11 ∧ n 1 = qn 9 ∧ n 2 = qn 12 ∧ n 3 = qn 45 ∧ n 4 = qn 47 ∧ n 5 = qn 48) ∧ (0 ≤ (qn 11).toInt ∧ (qn 11).toInt ≤ 200) ∧ (1 ≤ (qn 9).toInt ∧ (qn 9).toInt ≤ 6) ∧ (0 ≤ (qn 45).toInt ∧ (qn 45).toInt ≤ kp) ∧ (0 ≤ (qn 47).toInt) ∧ (0 ≤ (qn 48).toInt ∧ (qn 48).toInt ≤ kp) ∧ (0 ≤ (qn 44).toInt ∧ (qn 44).toInt ≤ kp) ∧ ((n 15).toInt = 4000 ∧ (n 18).toInt = 2400 ∧ (n 20).toInt = 2000 ∧ (n 14).toInt = 1000 ∧ (n 17).toInt = 600)
theorem RU.fn {kp : Int} {n : Nat → Int32} {qn : Nat → Int32} (h : RU kp n qn) (k : Nat) (v : Int32) (hk : ∀ b : Nat, b ∈ [0, 1, 2, 3, 4, 5, 14, 15, 17, 18, 20] → b ≠ k) : RU kp (u1 n k v) qn := by
  have e : ∀ b : Nat, b ∈ [0, 1, 2, 3, 4, 5, 14, 15, 17, 18, 20] → u1 n k v b = n b := fun b hb => u1_ne _ _ (hk b hb)
  unfold RU at *
  simp only [e 0 (by decide), e 1 (by decide), e 2 (by decide), e 3 (by decide), e 4 (by decide), e 5 (by decide), e 14 (by decide), e 15 (by decide), e 17 (by decide), e 18 (by decide), e 20 (by decide)]
  exact h
def RX (N : Nat) (R : Nat) (G : Nat → Nat → Int32) (K : Nat → Nat → Option Nat) (F : Nat → Nat → Nat → Int32) (w : Int32) (a53 : Nat → Int32) (a54 : Nat → Int32) : Prop := (0 ≤ w.toInt ∧ w.toInt ≤ (R : Int)) ∧ (∀ k : Nat, (k : Int) < w.toInt → 0 ≤ (a53 k).toInt ∧ (a53 k).toInt < (N : Int) ∧ K (a53 k).toInt.toNat 0 = none) ∧
  ∀ i : Nat, i < N → K i 0 = none → (G i 22).toInt = 1048576 ∧ (0 ≤ (G i 23).toInt ∧ (G i 23).toInt ≤ (R : Int)) ∧ (List.range (G i 23).toInt.toNat).map (F i 9) = ((List.range w.toInt.toNat).filter (fun k => decide ((a53 k).toInt = (i : Int)))).map a54
theorem RX.fG {N : Nat} {R : Nat} {G : Nat → Nat → Int32} {K : Nat → Nat → Option Nat} {F : Nat → Nat → Nat → Int32} {w : Int32} {a53 : Nat → Int32} {a54 : Nat → Int32} (h : RX N R G K F w a53 a54) (r : Nat) (k : Nat) (v : Int32) (hk : ∀ b : Nat, b ∈ [22, 23] → b ≠ k) : RX N R (u2 G r k v) K F w a53 a54 := by
  have e : ∀ a b : Nat, b ∈ [22, 23] → u2 G r k v a b = G a b := fun a b hb => u2_n2 _ _ _ _ (hk b hb)
  unfold RX at *
  simp only [e _ 22 (by decide), e _ 23 (by decide)]
  exact h
theorem RX.fK {N : Nat} {R : Nat} {G : Nat → Nat → Int32} {K : Nat → Nat → Option Nat} {F : Nat → Nat → Nat → Int32} {w : Int32} {a53 : Nat → Int32} {a54 : Nat → Int32} (h : RX N R G K F w a53 a54) (r : Nat) (k : Nat) (v : Option Nat) (hk : ∀ b : Nat, b ∈ [0] → b ≠ k) : RX N R G (u2 K r k v) F w a53 a54 := by
  have e : ∀ a b : Nat, b ∈ [0] → u2 K r k v a b = K a b := fun a b hb => u2_n2 _ _ _ _ (hk b hb)
  unfold RX at *
  simp only [e _ 0 (by decide)]
  exact h
theorem RX.fF {N : Nat} {R : Nat} {G : Nat → Nat → Int32} {K : Nat → Nat → Option Nat} {F : Nat → Nat → Nat → Int32} {w : Int32} {a53 : Nat → Int32} {a54 : Nat → Int32} (h : RX N R G K F w a53 a54) (r : Nat) (k : Nat) (v : Nat → Int32) (hk : ∀ b : Nat, b ∈ [9] → b ≠ k) : RX N R G K (u2 F r k v) w a53 a54 := by
  have e : ∀ a b : Nat, b ∈ [9] → u2 F r k v a b = F a b := fun a b hb => u2_n2 _ _ _ _ (hk b hb)
  unfold RX at *
  simp only [e _ 9 (by decide)]
  exact h
def RZ (n : Nat → Int32) (f : Nat → Nat → Int32) (a0 : Nat → Int32) (a1 : Nat → Int32) (a2 : Nat → Int32) (a3 : Nat → Int32) (a4 : Nat → Int32) (a5 : Nat → Int32) (a6 : Nat → Int32) (a7 : Nat → Int32) (a8 : Nat → Int32) : Prop := (∀ j : Nat, j < 8 → f 0 j = a0 j ∧ f 1 j = a1 j ∧ n (6 + j) = a2 j ∧ 0 ≤ (a2 j).toInt ∧ (a2 j).toInt ≤ 24 ∧ 0 ≤ (a0 j).toInt ∧ (a0 j).toInt ≤ 4) ∧
  (∀ e j : Nat, e < 8 → j < 24 → (f (2 + 3 * e) j = a3 (24 * e + j) ∧ f (3 + 3 * e) j = a4 (24 * e + j) ∧ f (4 + 3 * e) j = a5 (24 * e + j)) ∧ (0 ≤ (a3 (24 * e + j)).toInt ∧ (a3 (24 * e + j)).toInt ≤ 12) ∧ ((a3 (24 * e + j)).toInt ≤ 5 → 0 ≤ (a4 (24 * e + j)).toInt ∧ (a4 (24 * e + j)).toInt < 8) ∧ ((a3 (24 * e + j)).toInt = 8 → 0 ≤ (a4 (24 * e + j)).toInt ∧ (a4 (24 * e + j)).toInt < 4) ∧ ((a3 (24 * e + j)).toInt = 9 → (j : Int) < (a5 (24 * e + j)).toInt ∧ (a5 (24 * e + j)).toInt ≤ 24)) ∧
  ∀ k : Nat, k < 17 → f 26 k = a6 k ∧ f 28 k = a7 k ∧ f 27 k = a8 k
theorem RA.cG {N : Nat} {G : Nat → Nat → Int32} {K : Nat → Nat → Option Nat} {a14 : Nat → Int32} {a15 : Nat → Int32} {a16 : Nat → Int32} {a17 : Nat → Int32} {a18 : Nat → Int32} {a20 : Nat → Int32} {a21 : Nat → Int32} {a22 : Nat → Int32} {a23 : Nat → Int32} {G' : Nat → Nat → Int32} (h : RA N G K a14 a15 a16 a17 a18 a20 a21 a22 a23) (e : ∀ a b : Nat, b ∈ [0, 1, 3, 4, 6, 7, 10, 11] → G' a b = G a b) : RA N G' K a14 a15 a16 a17 a18 a20 a21 a22 a23 := by
  unfold RA at *
  simp only [e _ 0 (by decide), e _ 1 (by decide), e _ 3 (by decide), e _ 4 (by decide), e _ 6 (by decide), e _ 7 (by decide), e _ 10 (by decide), e _ 11 (by decide)]
  exact h
theorem RB.cG {N : Nat} {G : Nat → Nat → Int32} {a13 : Nat → Int32} {a18 : Nat → Int32} {a19 : Nat → Int32} {G' : Nat → Nat → Int32} (h : RB N G a13 a18 a19) (e : ∀ a b : Nat, b ∈ [2, 5] → G' a b = G a b) : RB N G' a13 a18 a19 := by
  unfold RB at *
  simp only [e _ 2 (by decide), e _ 5 (by decide)]
  exact h
theorem RC.cG {N : Nat} {G : Nat → Nat → Int32} {a13 : Nat → Int32} {a24 : Nat → Int32} {a25 : Nat → Int32} {G' : Nat → Nat → Int32} (h : RC N G a13 a24 a25) (e : ∀ a b : Nat, b ∈ [6, 8, 9] → G' a b = G a b) : RC N G' a13 a24 a25 := by
  unfold RC at *
  simp only [e _ 6 (by decide), e _ 8 (by decide), e _ 9 (by decide)]
  exact h
theorem RD.cG {N : Nat} {bk : Nat → Nat → Prop} {G : Nat → Nat → Int32} {K : Nat → Nat → Option Nat} {a25 : Nat → Int32} {a26 : Nat → Int32} {a27 : Nat → Int32} {G' : Nat → Nat → Int32} (h : RD N bk G K a25 a26 a27) (e : ∀ a b : Nat, b ∈ [12] → G' a b = G a b) : RD N bk G' K a25 a26 a27 := by
  unfold RD at *
  simp only [e _ 12 (by decide)]
  exact h
theorem RE.cG {N : Nat} {G : Nat → Nat → Int32} {K : Nat → Nat → Option Nat} {a13 : Nat → Int32} {a28 : Nat → Int32} {a29 : Nat → Int32} {a30 : Nat → Int32} {a31 : Nat → Int32} {a32 : Nat → Int32} {G' : Nat → Nat → Int32} (h : RE N G K a13 a28 a29 a30 a31 a32) (e : ∀ a b : Nat, b ∈ [17, 18, 19, 20, 21] → G' a b = G a b) : RE N G' K a13 a28 a29 a30 a31 a32 := by
  unfold RE at *
  simp only [e _ 17 (by decide), e _ 18 (by decide), e _ 19 (by decide), e _ 20 (by decide), e _ 21 (by decide)]
  exact h
theorem RS.cG {N : Nat} {pb : Nat → Int} {kp : Int} {G : Nat → Nat → Int32} {F : Nat → Nat → Nat → Int32} {o : Int32} {a13 : Nat → Int32} {a36 : Nat → Int32} {a37 : Nat → Int32} {a38 : Nat → Int32} {a39 : Nat → Int32} {a40 : Nat → Int32} {a41 : Nat → Int32} {a42 : Nat → Int32} {a43 : Nat → Int32} {G' : Nat → Nat → Int32} (h : RS N pb kp G F o a13 a36 a37 a38 a39 a40 a41 a42 a43) (e : ∀ a b : Nat, b ∈ [14, 15, 16] → G' a b = G a b) : RS N pb kp G' F o a13 a36 a37 a38 a39 a40 a41 a42 a43 := by
  unfold RS RS1 at *
  simp only [e _ 14 (by decide), e _ 15 (by decide), e _ 16 (by decide)]
  exact h
theorem RP.cG {N : Nat} {G : Nat → Nat → Int32} {K : Nat → Nat → Option Nat} {G' : Nat → Nat → Int32} (h : RP N G K) (e : ∀ a b : Nat, b ∈ [13] → G' a b = G a b) : RP N G' K := by
  unfold RP at *
  simp only [e _ 13 (by decide)]
  exact h
theorem RN.cG {G : Nat → Nat → Int32} {G' : Nat → Nat → Int32} (h : RN G) (e : ∀ a b : Nat, b ∈ [0, 22] → G' a b = G a b) : RN G' := by
  unfold RN at *
  simp only [e _ 0 (by decide), e _ 22 (by decide)]
  exact h
theorem RT.cG {N : Nat} {T : Nat → Option Nat} {G : Nat → Nat → Int32} {a10 : Nat → Int32} {G' : Nat → Nat → Int32} (h : RT N T G a10) (e : ∀ a b : Nat, b ∈ [3] → G' a b = G a b) : RT N T G' a10 := by
  unfold RT at *
  simp only [e _ 3 (by decide)]
  exact h
theorem RX.cG {N : Nat} {R : Nat} {G : Nat → Nat → Int32} {K : Nat → Nat → Option Nat} {F : Nat → Nat → Nat → Int32} {w : Int32} {a53 : Nat → Int32} {a54 : Nat → Int32} {G' : Nat → Nat → Int32} (h : RX N R G K F w a53 a54) (e : ∀ a b : Nat, b ∈ [22, 23] → G' a b = G a b) : RX N R G' K F w a53 a54 := by
  unfold RX at *
  simp only [e _ 22 (by decide), e _ 23 (by decide)]
  exact h
theorem rt9_ne {K : Nat → Nat → Option Nat} (r k : Nat) (v : Option Nat) (hk : 1 ≠ k) (i : Nat) : rt9 (u2 K r k v) i = rt9 K i := by unfold rt9; rw [u2_n2 _ _ _ _ hk]
def cU9 (f : Nat → Int32) : Nat → Nat
  | 0 => 0
  | k + 1 => cU9 f k + (if f k = 0 then 0 else 1)
def Q6 (N : Nat) (a32 : Nat → Int32) (hm : Int32) : Prop := hm.toInt ≤ 3 * (cU9 a32 N : Int)
def Rel (R : Nat) (kp : Int) (pb : Nat → Int) (bk : Nat → Nat → Prop) (s : C9) (q : Q10) : Prop := (RU kp s.n q.n) ∧ (RZ s.n s.f (q.F 0) (q.F 1) (q.F 2) (q.F 3) (q.F 4) (q.F 5) (q.F 6) (q.F 7) (q.F 8)) ∧ (RLg s.n s.f q.n (q.F 49) (q.F 50) (q.F 51) (q.F 52) (q.F 55) (q.F 56) (q.F 57) (q.F 58) (q.F 59)) ∧ (RT ((Int.toNat (Int32.toInt (s.n 0)))) s.T s.G (q.F 10)) ∧ (RA ((Int.toNat (Int32.toInt (s.n 0)))) s.G s.K (q.F 14) (q.F 15) (q.F 16) (q.F 17) (q.F 18) (q.F 20) (q.F 21) (q.F 22) (q.F 23)) ∧ (RB ((Int.toNat (Int32.toInt (s.n 0)))) s.G (q.F 13) (q.F 18) (q.F 19)) ∧ (RC ((Int.toNat (Int32.toInt (s.n 0)))) s.G (q.F 13) (q.F 24) (q.F 25)) ∧ (RD ((Int.toNat (Int32.toInt (s.n 0)))) bk s.G s.K (q.F 25) (q.F 26) (q.F 27)) ∧ (RE ((Int.toNat (Int32.toInt (s.n 0)))) s.G s.K (q.F 13) (q.F 28) (q.F 29) (q.F 30) (q.F 31) (q.F 32)) ∧ (RF ((Int.toNat (Int32.toInt (s.n 0)))) s.F (q.F 0) (q.F 18) (q.F 33) (q.F 34) (q.F 35)) ∧ (RS ((Int.toNat (Int32.toInt (s.n 0)))) pb kp s.G s.F (q.n 44) (q.F 13) (q.F 36) (q.F 37) (q.F 38) (q.F 39) (q.F 40) (q.F 41) (q.F 42) (q.F 43)) ∧ (RP ((Int.toNat (Int32.toInt (s.n 0)))) s.G s.K) ∧ (RX ((Int.toNat (Int32.toInt (s.n 0)))) R s.G s.K s.F (q.n 46) (q.F 53) (q.F 54)) ∧ (Q6 ((Int.toNat (Int32.toInt (s.n 0)))) (q.F 32) (q.n 47)) ∧ (RN s.G)
theorem Rel.u {R : Nat} {kp : Int} {pb : Nat → Int} {bk : Nat → Nat → Prop} {s : C9} {q : Q10} (hh_ : Rel R kp pb bk s q) : RU kp s.n q.n := hh_.1
theorem Rel.z {R : Nat} {kp : Int} {pb : Nat → Int} {bk : Nat → Nat → Prop} {s : C9} {q : Q10} (hh_ : Rel R kp pb bk s q) : RZ s.n s.f (q.F 0) (q.F 1) (q.F 2) (q.F 3) (q.F 4) (q.F 5) (q.F 6) (q.F 7) (q.F 8) := hh_.2.1
theorem Rel.l {R : Nat} {kp : Int} {pb : Nat → Int} {bk : Nat → Nat → Prop} {s : C9} {q : Q10} (hh_ : Rel R kp pb bk s q) : RLg s.n s.f q.n (q.F 49) (q.F 50) (q.F 51) (q.F 52) (q.F 55) (q.F 56) (q.F 57) (q.F 58) (q.F 59) := hh_.2.2.1
theorem Rel.t {R : Nat} {kp : Int} {pb : Nat → Int} {bk : Nat → Nat → Prop} {s : C9} {q : Q10} (hh_ : Rel R kp pb bk s q) : RT ((Int.toNat (Int32.toInt (s.n 0)))) s.T s.G (q.F 10) := hh_.2.2.2.1
theorem Rel.a {R : Nat} {kp : Int} {pb : Nat → Int} {bk : Nat → Nat → Prop} {s : C9} {q : Q10} (hh_ : Rel R kp pb bk s q) : RA ((Int.toNat (Int32.toInt (s.n 0)))) s.G s.K (q.F 14) (q.F 15) (q.F 16) (q.F 17) (q.F 18) (q.F 20) (q.F 21) (q.F 22) (q.F 23) := hh_.2.2.2.2.1
theorem Rel.b {R : Nat} {kp : Int} {pb : Nat → Int} {bk : Nat → Nat → Prop} {s : C9} {q : Q10} (hh_ : Rel R kp pb bk s q) : RB ((Int.toNat (Int32.toInt (s.n 0)))) s.G (q.F 13) (q.F 18) (q.F 19) := hh_.2.2.2.2.2.1
theorem Rel.c {R : Nat} {kp : Int} {pb : Nat → Int} {bk : Nat → Nat → Prop} {s : C9} {q : Q10} (hh_ : Rel R kp pb bk s q) : RC ((Int.toNat (Int32.toInt (s.n 0)))) s.G (q.F 13) (q.F 24) (q.F 25) := hh_.2.2.2.2.2.2.1
theorem Rel.d {R : Nat} {kp : Int} {pb : Nat → Int} {bk : Nat → Nat → Prop} {s : C9} {q : Q10} (hh_ : Rel R kp pb bk s q) : RD ((Int.toNat (Int32.toInt (s.n 0)))) bk s.G s.K (q.F 25) (q.F 26) (q.F 27) := hh_.2.2.2.2.2.2.2.1
theorem Rel.e {R : Nat} {kp : Int} {pb : Nat → Int} {bk : Nat → Nat → Prop} {s : C9} {q : Q10} (hh_ : Rel R kp pb bk s q) : RE ((Int.toNat (Int32.toInt (s.n 0)))) s.G s.K (q.F 13) (q.F 28) (q.F 29) (q.F 30) (q.F 31) (q.F 32) := hh_.2.2.2.2.2.2.2.2.1
theorem Rel.f {R : Nat} {kp : Int} {pb : Nat → Int} {bk : Nat → Nat → Prop} {s : C9} {q : Q10} (hh_ : Rel R kp pb bk s q) : RF ((Int.toNat (Int32.toInt (s.n 0)))) s.F (q.F 0) (q.F 18) (q.F 33) (q.F 34) (q.F 35) := hh_.2.2.2.2.2.2.2.2.2.1
theorem Rel.g {R : Nat} {kp : Int} {pb : Nat → Int} {bk : Nat → Nat → Prop} {s : C9} {q : Q10} (hh_ : Rel R kp pb bk s q) : RS ((Int.toNat (Int32.toInt (s.n 0)))) pb kp s.G s.F (q.n 44) (q.F 13) (q.F 36) (q.F 37) (q.F 38) (q.F 39) (q.F 40) (q.F 41) (q.F 42) (q.F 43) := hh_.2.2.2.2.2.2.2.2.2.2.1
theorem Rel.p {R : Nat} {kp : Int} {pb : Nat → Int} {bk : Nat → Nat → Prop} {s : C9} {q : Q10} (hh_ : Rel R kp pb bk s q) : RP ((Int.toNat (Int32.toInt (s.n 0)))) s.G s.K := hh_.2.2.2.2.2.2.2.2.2.2.2.1
theorem Rel.x {R : Nat} {kp : Int} {pb : Nat → Int} {bk : Nat → Nat → Prop} {s : C9} {q : Q10} (hh_ : Rel R kp pb bk s q) : RX ((Int.toNat (Int32.toInt (s.n 0)))) R s.G s.K s.F (q.n 46) (q.F 53) (q.F 54) := hh_.2.2.2.2.2.2.2.2.2.2.2.2.1
theorem Rel.j {R : Nat} {kp : Int} {pb : Nat → Int} {bk : Nat → Nat → Prop} {s : C9} {q : Q10} (hh_ : Rel R kp pb bk s q) : Q6 ((Int.toNat (Int32.toInt (s.n 0)))) (q.F 32) (q.n 47) := hh_.2.2.2.2.2.2.2.2.2.2.2.2.2.1
theorem Rel.k {R : Nat} {kp : Int} {pb : Nat → Int} {bk : Nat → Nat → Prop} {s : C9} {q : Q10} (hh_ : Rel R kp pb bk s q) : RN s.G := hh_.2.2.2.2.2.2.2.2.2.2.2.2.2.2
abbrev pb0 (q : Q10) : Nat → Int := fun i => (q.F 20 i).toInt
abbrev bk0 (q : Q10) : Nat → Nat → Prop := fun g c => ¬ (q.F 24 g).toInt = 0 ∧ ((q.F 13 g).toInt = 2 ∨ (q.F 13 c).toInt = 3 ∨ (q.F 13 c).toInt = 4)
abbrev Rl (R : Nat) (kp : Int) (s : C9) (q : Q10) : Prop := Rel R kp (pb0 q) (bk0 q) s q

/- ---------- single fields ---------- -/
section
variable {N : Nat} {G : Nat → Nat → Int32} {K : Nat → Nat → Option Nat} {F : Nat → Nat → Nat → Int32} {pb pb' : Nat → Int} {bk bk' : Nat → Nat → Prop} {kp kp' : Int} {o : Int32} {m a10 a13 a14 a15 a16 a17 a18 a19 a20 a21 a22 a23 a24 a25 a26 a27 a28 a29 a30 a31 a32 a33 a34 a35 a36 a37 a38 a39 a40 a41 a42 a43 : Nat → Int32}
theorem upd_s (f : Nat → Int32) (i : Nat) (x : Int32) : upd f i x i = x := by simp [upd]
theorem upd_n (f : Nat → Int32) {i j : Nat} (x : Int32) (h : j ≠ i) : upd f i x j = f j := by simp [upd, h]
theorem RS.mono (h : RS N pb kp G F o a13 a36 a37 a38 a39 a40 a41 a42 a43) (hp : ∀ j : Nat, j < N → pb j ≤ pb' j) (hk : kp ≤ kp') : RS N pb' kp' G F o a13 a36 a37 a38 a39 a40 a41 a42 a43 := fun i hi => by
  obtain ⟨⟨h1, h2, h3, h4, h5, h6⟩, h7, h8, h9⟩ := h i hi
  have e := hp i hi
  exact ⟨⟨h1, h2, h3, by omega, h5, by omega⟩, h7, h8, fun q => ⟨⟨(h9 q).1.1, (h9 q).1.2.1, (h9 q).1.2.2.1, by have := (h9 q).1.2.2.2; omega⟩, (h9 q).2⟩⟩
theorem RD.mono (h : RD N bk G K a25 a26 a27) (hb : ∀ g c : Nat, bk g c → bk' g c) : RD N bk' G K a25 a26 a27 := fun i hi =>
  ⟨(h i hi).1, fun g e => ((h i hi).2 g e).imp id (fun q => q.imp (fun w => ⟨w.1, w.2.1, w.2.2.1, w.2.2.2.1, hb g i w.2.2.2.2⟩) id)⟩
theorem RB.sum (h : RB N G a13 a18 a19) (i : Nat) (v : Int32) : RB N (u2 G i 5 v) a13 a18 (upd a19 i v) := fun j hj => by
  obtain ⟨h1, h2, h3⟩ := h j hj
  rw [u2_n2 _ _ _ _ (show (2 : Nat) ≠ 5 by decide)]
  by_cases e : j = i
  · subst e; rw [u2_eq, upd_s]; exact ⟨h1, rfl, h3⟩
  · rw [u2_n1 _ _ _ e, upd_n _ _ e]; exact ⟨h1, h2, h3⟩
theorem RA.place (h : RA N G K a14 a15 a16 a17 a18 a20 a21 a22 a23) (i : Nat) {v : Int32} (hv : 0 ≤ v.toInt ∧ v.toInt ≤ 24) : RA N (u2 G i 6 v) K a14 a15 a16 a17 a18 (upd a20 i v) a21 a22 a23 := fun j hj => by
  have z := h j hj
  have e : ∀ a b : Nat, b ≠ 6 → u2 G i 6 v a b = G a b := fun a b hb => u2_n2 _ _ _ _ hb
  simp only [e _ 0 (by decide), e _ 1 (by decide), e _ 3 (by decide), e _ 4 (by decide), e _ 7 (by decide), e _ 10 (by decide), e _ 11 (by decide)]
  by_cases q : j = i
  · subst q; rw [u2_eq, upd_s]; exact ⟨⟨z.1.1, z.1.2.1, z.1.2.2.1, z.1.2.2.2.1, rfl, z.1.2.2.2.2.2⟩, z.2.1, z.2.2.1, z.2.2.2.1, z.2.2.2.2.1, hv⟩
  · rw [u2_n1 _ _ _ q, upd_n _ _ q]; exact z
theorem RA.ended (h : RA N G K a14 a15 a16 a17 a18 a20 a21 a22 a23) (i : Nat) (v : Int32) : RA N (u2 G i 7 v) K a14 a15 a16 a17 a18 a20 a21 (upd a22 i v) a23 := fun j hj => by
  have z := h j hj
  have e : ∀ a b : Nat, b ≠ 7 → u2 G i 7 v a b = G a b := fun a b hb => u2_n2 _ _ _ _ hb
  simp only [e _ 0 (by decide), e _ 1 (by decide), e _ 3 (by decide), e _ 4 (by decide), e _ 6 (by decide), e _ 10 (by decide), e _ 11 (by decide)]
  by_cases q : j = i
  · subst q; rw [u2_eq, upd_s]; exact ⟨⟨z.1.1, z.1.2.1, z.1.2.2.1, z.1.2.2.2.1, z.1.2.2.2.2.1, rfl, z.1.2.2.2.2.2.2⟩, z.2⟩
  · rw [u2_n1 _ _ _ q, upd_n _ _ q]; exact z
theorem RA.came (h : RA N G K a14 a15 a16 a17 a18 a20 a21 a22 a23) (i : Nat) (v : Int32) : RA N (u2 G i 4 v) K a14 a15 a16 a17 a18 a20 a21 a22 (upd a23 i v) := fun j hj => by
  have z := h j hj
  have e : ∀ a b : Nat, b ≠ 4 → u2 G i 4 v a b = G a b := fun a b hb => u2_n2 _ _ _ _ hb
  simp only [e _ 0 (by decide), e _ 1 (by decide), e _ 3 (by decide), e _ 6 (by decide), e _ 7 (by decide), e _ 10 (by decide), e _ 11 (by decide)]
  by_cases q : j = i
  · subst q; rw [u2_eq, upd_s]; exact ⟨⟨z.1.1, z.1.2.1, z.1.2.2.1, rfl, z.1.2.2.2.2⟩, z.2⟩
  · rw [u2_n1 _ _ _ q, upd_n _ _ q]; exact z
theorem RA.thr (h : RA N G K a14 a15 a16 a17 a18 a20 a21 a22 a23) (i : Nat) (v : Int32) : RA N (u2 G i 3 v) K a14 a15 a16 a17 (upd a18 i v) a20 a21 a22 a23 := fun j hj => by
  have z := h j hj
  have e : ∀ a b : Nat, b ≠ 3 → u2 G i 3 v a b = G a b := fun a b hb => u2_n2 _ _ _ _ hb
  simp only [e _ 0 (by decide), e _ 1 (by decide), e _ 4 (by decide), e _ 6 (by decide), e _ 7 (by decide), e _ 10 (by decide), e _ 11 (by decide)]
  by_cases q : j = i
  · subst q; rw [u2_eq, upd_s]; exact ⟨⟨z.1.1, z.1.2.1, rfl, z.1.2.2.2⟩, z.2⟩
  · rw [u2_n1 _ _ _ q, upd_n _ _ q]; exact z
theorem RC.place (h : RC N G a13 a24 a25) (i : Nat) {v : Int32} (hb : (a24 i).toInt = 0) : RC N (u2 G i 6 v) a13 a24 a25 := fun j hj => by
  have z := h j hj
  rw [u2_n2 _ _ _ _ (show (8 : Nat) ≠ 6 by decide), u2_n2 _ _ _ _ (show (9 : Nat) ≠ 6 by decide)]
  refine ⟨z.1, z.2.1, z.2.2.1, z.2.2.2.1, z.2.2.2.2.1, fun w => ?_⟩
  by_cases e : j = i
  · subst e; exact absurd hb w
  · rw [u2_n1 _ _ _ e]; exact z.2.2.2.2.2 w
/-- state and thread at once -/
theorem RB.st (h : RB N G a13 a18 a19) (i : Nat) {v t : Int32} (hv : 0 ≤ v.toInt ∧ v.toInt ≤ 4) (h1 : v.toInt = 1 → 0 ≤ t.toInt ∧ t.toInt < 6) (h2 : ¬ v.toInt = 1 → t = -1) : RB N (u2 G i 2 v) (upd a13 i v) (upd a18 i t) a19 := fun j hj => by
  obtain ⟨e1, e2, e3⟩ := h j hj
  rw [u2_n2 _ _ _ _ (show (5 : Nat) ≠ 2 by decide)]
  by_cases e : j = i
  · subst e; rw [u2_eq, upd_s, upd_s]; exact ⟨rfl, e2, hv, h1, h2⟩
  · rw [u2_n1 _ _ _ e, upd_n _ _ e, upd_n _ _ e]; exact ⟨e1, e2, e3⟩
end
/-- GOES_ON -/
theorem close_on {i : Nat} {s : C9} (h : (s.G i 2).toInt = 1) : k_close i (-1) s = (C9.mk s.n s.f s.T (u2 s.G i 6 (s.G i 6 + 1)) s.K s.F) := by
  have t : (-1 : Int32).toInt = -1 := by decide
  unfold k_close
  rw [if_pos t]
  have e : (u2 s.G i 6 (s.G i 6 + 1) i 2).toInt = 1 := by rw [u2_n2 _ _ _ _ (show (2 : Nat) ≠ 6 by decide)]; exact h
  unfold c_close d_close
  dsimp +instances only [c9n, c9f, c9T, c9G, c9K, c9F, q10F, q10n]
  rw [if_neg (by omega), if_neg (by omega)] <;> rfl
theorem on_sim {R : Nat} {kp : Int} {pb : Nat → Int} {s : C9} {q : Q10} {i : Nat} {v : Int32} (h : Rel R kp pb (bk0 q) s q) (hv : v.toInt = (i : Int)) (hi : i < (Int.toNat (Int32.toInt (s.n 0)))) (hb24 : (q.F 24 i).toInt = 0) (hp : (q.F 20 i).toInt < 24) (hpb : ∀ j : Nat, pb j ≤ if j = i then (q.F 20 i).toInt + 1 else (q.F 20 j).toInt) :
    Rl R kp (C9.mk s.n s.f s.T (u2 s.G i 6 (s.G i 6 + 1)) s.K s.F) (r_on v q) := by
  have ei := ix_nat hv
  have hA := h.a i hi
  have e6 : s.G i 6 = q.F 20 i := hA.1.2.2.2.2.1
  have hb := hA.2.2.2.2.2
  have e1 : (q.F 20 i + 1).toInt = (q.F 20 i).toInt + 1 := inc_toInt (by omega)
  unfold r_on
  rw [ei, e6]
  refine ⟨h.u, h.z, h.l, h.t.fG _ _ _ (by decide), h.a.place i (by omega), h.b.fG _ _ _ (by decide), h.c.place i hb24, h.d.fG _ _ _ (by decide), h.e.fG _ _ _ (by decide), h.f, RS.mono (h.g.fG _ _ _ (by decide)) (fun j hj => ?_) (Int.le_refl _), h.p.fG _ _ _ (by decide), h.x.fG _ _ _ (by decide), h.j, h.k.fG _ _ _ (by decide)⟩
  have z := hpb j
  show pb j ≤ (upd (q.F 20) i (q.F 20 i + 1) j).toInt
  by_cases e : j = i
  · subst e; rw [upd_s, e1]; rw [if_pos rfl] at z; exact z
  · rw [upd_n _ _ e]; rw [if_neg e] at z; exact z

/- ---------- reading and writing SLOTS ---------- -/
theorem wrOr_eq {w y : Nat → Int32} {x o : Int32} {j : Nat} (hx : x.toInt = (j : Int)) (hj : j < 8) : wrOr w y x o = if ¬ (w j).toInt = 0 then y j else o := by
  unfold wrOr
  rw [ix_nat hx]
  by_cases e : (w j).toInt = 0
  · rw [if_neg (by omega), if_neg (by omega)] <;> rfl
  · rw [if_pos ⟨by omega, by omega, e⟩, if_pos e] <;> rfl
theorem gvAt_eq {w : Nat → Int32} {x : Int32} {j : Nat} (hx : x.toInt = (j : Int)) (hj : j < 8) : gvAt w x = w j := by
  unfold gvAt
  rw [if_pos (by omega), ix_nat hx] <;> rfl
theorem inn_cut {b : Int32} {g : Nat → Int32} {x : Int32} {m : Nat} (hb : b.toInt = (m : Int)) : ∀ n : Nat, inn b g x (m + n) = inn b g x m
  | 0 => rfl
  | n + 1 => by rw [show m + (n + 1) = (m + n) + 1 by omega, inn_s, if_neg (by omega), inn_cut hb n] <;> rfl
/-- the innermost BINDING of a SLOT, on both sides -/
theorem inn_bind {b : Int32} {g : Nat → Int32} {F : Nat → Nat → Int32} {v x : Int32} {i m : Nat} (hv : v.toInt = (i : Int)) (hi : i < 200) (hb : b.toInt = (m : Int)) (hm : m ≤ 24) (hg : ∀ k : Nat, k < m → g k = F 37 (24 * i + k)) :
    ∀ n : Nat, n ≤ m → (inn b g x n = -1 ∧ rbind F v x n = -1) ∨ ∃ k : Nat, k < n ∧ inn b g x n = (k : Int) ∧ Int32.toNatClampNeg (rbind F v x n) = 24 * i + k ∧ (rbind F v x n).toInt = 24 * (i : Int) + k
  | 0, _ => Or.inl ⟨inn_0 _ _ _, rbind_0 _ _ _⟩
  | n + 1, h => by
    rw [inn_s, rbind_s]
    have z := ix24 (s := Int32.ofNat n) (j := n) hv hi (ofNat_toInt (by omega)) (by omega)
    rw [z.1, hg n (by omega)]
    by_cases e : (F 37 (24 * i + n)).toInt = x.toInt
    · rw [if_pos ⟨by omega, e⟩, if_pos e]
      exact Or.inr ⟨n, by omega, rfl, z.1, z.2⟩
    · rw [if_neg (fun q => e q.2), if_neg e]
      rcases inn_bind hv hi hb hm hg n (by omega) with q | ⟨k, q1, q2⟩
      · exact Or.inl q
      · exact Or.inr ⟨k, by omega, q2⟩
theorem bind_sim {R : Nat} {kp : Int} {pb : Nat → Int} {bk : Nat → Nat → Prop} {s : C9} {q : Q10} {i : Nat} {v x : Int32} (h : Rel R kp pb bk s q) (hv : v.toInt = (i : Int)) (hi : i < (Int.toNat (Int32.toInt (s.n 0)))) :
    (inn (s.G i 14) (s.F i 3) x 24 = -1 ∧ (r_binding v x q).toInt = -1) ∨ ∃ k : Nat, (k : Int) < (q.F 36 i).toInt ∧ k < 24 ∧ inn (s.G i 14) (s.F i 3) x 24 = (k : Int) ∧ Int32.toNatClampNeg (r_binding v x q) = 24 * i + k ∧ (r_binding v x q).toInt = 24 * (i : Int) + k := by
  have hu := h.u
  have hN : (Int.toNat (Int32.toInt (s.n 0))) ≤ 200 := by rw [hu.1.1]; have := hu.2.1; omega
  obtain ⟨⟨g1, g2, g3, -⟩, g7, -⟩ := h.g i hi
  obtain ⟨m, hm⟩ : ∃ m : Nat, (q.F 36 i).toInt = (m : Int) := ⟨(q.F 36 i).toInt.toNat, by omega⟩
  have hb : (s.G i 14).toInt = (m : Int) := by rw [g1]; exact hm
  have z := inn_cut (g := s.F i 3) (x := x) hb (24 - m)
  rw [show m + (24 - m) = 24 by omega] at z
  unfold r_binding
  rw [ix_nat hv, ix_nat hm, z]
  rcases inn_bind (F := q.F) (x := x) hv (by omega) hb (by omega) (fun k hk => (g7 k (by omega)).1) m (Nat.le_refl _) with w | ⟨k, k1, k2, k3⟩
  · refine Or.inl ⟨w.1, by rw [w.2]; decide⟩
  · exact Or.inr ⟨k, by omega, by omega, k2, k3⟩
theorem reads_sim {R : Nat} {kp : Int} {pb : Nat → Int} {bk : Nat → Nat → Prop} {s : C9} {q : Q10} {i j : Nat} {v x : Int32} (h : Rel R kp pb bk s q) (hv : v.toInt = (i : Int)) (hi : i < (Int.toNat (Int32.toInt (s.n 0)))) (hx : x.toInt = (j : Int)) (hj : j < 8) : k_read s i x = r_reads v x q := by
  have hu := h.u
  have hN : (Int.toNat (Int32.toInt (s.n 0))) ≤ 200 := by rw [hu.1.1]; have := hu.2.1; omega
  have ex : x.toInt.toNat = j := by omega
  obtain ⟨m1, m2, -, -, -, m3, m4⟩ := h.z.1 j hj
  obtain ⟨f1, f2, f3⟩ := h.f i j hi hj
  have hA := h.a i hi
  have hr : rt9 s.K i < (Int.toNat (Int32.toInt (s.n 0))) := hA.2.2.1.1
  have er : q.F 16 i = Int32.ofNat (rt9 s.K i) := hA.2.1.2.1.symm
  have hR : (q.F 16 i).toInt = (rt9 s.K i : Int) := by rw [er]; exact ofNat_toInt (by omega)
  obtain ⟨-, r2, -⟩ := h.f (rt9 s.K i) j hr hj
  have e8 := ix8 hv (by omega) hx hj
  have e8r := ix8 hR (by omega) hx hj
  unfold k_read r_reads
  rw [if_pos (by omega), ex, ix_nat hx, m1, m2, wrOr_eq hx hj, wrOr_eq hx hj, wrOr_eq hx hj, gvAt_eq hx hj, e8, ix_nat hv, e8r, f1]
  by_cases c1 : (q.F 0 j).toInt = 1
  · have n0 : ¬ (q.F 0 j).toInt = 0 := by omega
    rw [if_pos c1, if_neg n0, if_pos c1]
    have w := f2 (Or.inl n0)
    by_cases e : (s.F i 0 j).toInt = 0
    · rw [if_neg (show ¬ ¬ (s.F i 0 j).toInt = 0 from fun n => n e), if_neg (show ¬ ¬ (q.F 35 (8 * i + j)).toInt = 0 from fun n => (w.1.mpr n) e)] <;> rfl
    · rw [if_pos e, if_pos (w.1.mp e), w.2 e] <;> rfl
  · rw [if_neg c1]
    by_cases c2 : (q.F 0 j).toInt = 2
    · have n0 : ¬ (q.F 0 j).toInt = 0 := by omega
      rw [if_pos c2, if_neg n0, if_neg c1, if_pos c2]
      have w := r2 (Or.inl n0)
      by_cases e : (s.F (rt9 s.K i) 0 j).toInt = 0
      · rw [if_neg (show ¬ ¬ (s.F (rt9 s.K i) 0 j).toInt = 0 from fun n => n e), if_neg (show ¬ ¬ (q.F 35 (8 * rt9 s.K i + j)).toInt = 0 from fun n => (w.1.mpr n) e)] <;> rfl
      · rw [if_pos e, if_pos (w.1.mp e), w.2 e] <;> rfl
    · rw [if_neg c2]
      by_cases c3 : (q.F 0 j).toInt = 3
      · have n0 : ¬ (q.F 0 j).toInt = 0 := by omega
        rw [if_pos c3, if_neg n0, if_neg c1, if_neg c2, if_pos c3]
        unfold bdOr
        rcases bind_sim (x := x) h hv hi with w | ⟨k, k1, k2, k3, k4, k5⟩
        · rw [if_neg (show ¬ (0 ≤ inn (s.G i 14) (s.F i 3) x 24 ∧ inn (s.G i 14) (s.F i 3) x 24 < 24) by omega), if_pos w.2] <;> rfl
        · rw [if_pos (show (0 ≤ inn (s.G i 14) (s.F i 3) x 24 ∧ inn (s.G i 14) (s.F i 3) x 24 < 24) by omega), if_neg (show ¬ (r_binding v x q).toInt = -1 by omega), k3, k4]
          exact ((h.g i hi).2.1 k k1).2.1
      · rw [if_neg c3]
        by_cases c0 : (q.F 0 j).toInt = 0
        · rw [if_pos c0]
          by_cases ht : (q.F 18 i).toInt = -1
          · rw [if_neg (show ¬ ¬ (s.F i 0 j).toInt = 0 from fun n => n (f3 c0 ht)), if_neg (fun n => n.2 ht)] <;> rfl
          · have w := f2 (Or.inr ht)
            by_cases e : (s.F i 0 j).toInt = 0
            · rw [if_neg (show ¬ ¬ (s.F i 0 j).toInt = 0 from fun n => n e), if_neg (fun n => (w.1.mpr n.1) e)] <;> rfl
            · rw [if_pos e, if_pos ⟨w.1.mp e, ht⟩, w.2 e] <;> rfl
        · rw [if_neg c0, if_neg c1, if_neg c2, if_neg c3]
          have w := f2 (Or.inl c0)
          by_cases e : (s.F i 0 j).toInt = 0
          · rw [if_neg (show ¬ ¬ (s.F i 0 j).toInt = 0 from fun n => n e), if_neg (show ¬ ¬ (q.F 35 (8 * i + j)).toInt = 0 from fun n => (w.1.mpr n) e)] <;> rfl
          · rw [if_pos e, if_pos (w.1.mp e), w.2 e] <;> rfl

/- ---------- the rows of what was read, asked, done ---------- -/
theorem v1_v1 {α : Type} (f : Nat → α) (k : Nat) (v w : α) : u1 (u1 f k v) k w = u1 f k w := by
  funext j
  by_cases h : j = k
  · subst h; rw [u1_eq, u1_eq] <;> rfl
  · rw [u1_ne _ _ h, u1_ne _ _ h, u1_ne _ _ h] <;> rfl
def aN4 (us lm : Int32) : Int32 := aN (aN (aN (aN us lm) lm) lm) lm
def aF4 (us lm : Int32) (g : Nat → Int32) (a b c d : Int32) : Nat → Int32 := aF (aN (aN (aN us lm) lm) lm) lm (aF (aN (aN us lm) lm) lm (aF (aN us lm) lm (aF us lm g a) b) c) d
theorem k_led_eq {kn kl kf : Nat} (hk : kl ≠ kn) (a b c d : Int32) (s : C9) : k_led kn kl kf a b c d s = (C9.mk (u1 s.n kn (aN4 (s.n kn) (s.n kl))) (u1 s.f kf (aF4 (s.n kn) (s.n kl) (s.f kf) a b c d)) s.T s.G s.K s.F) := by
  unfold k_led k_add aN4 aF4
  dsimp +instances only [c9n, c9f, c9T, c9G, c9K, c9F, q10F, q10n]
  simp only [u1_eq, u1_ne _ _ hk, v1_v1]
theorem aN_in {us lm : Int32} (h : us.toInt < lm.toInt) : aN us lm = us + 1 ∧ (aN us lm).toInt = us.toInt + 1 := by
  have hl := Int32.toInt_lt lm
  unfold aN
  rw [if_pos h]
  exact ⟨rfl, inc_toInt (by omega)⟩
theorem aN_out {us lm : Int32} (h : ¬ us.toInt < lm.toInt) : aN us lm = us := by unfold aN; rw [if_neg h]
theorem aF_in {us lm : Int32} {g : Nat → Int32} {v : Int32} {m : Nat} (h : us.toInt < lm.toInt) (hm : us.toInt = (m : Int)) : aF us lm g v = upd g m v := by unfold aF; rw [if_pos h, ix_nat hm]
theorem aF_out {us lm : Int32} {g : Nat → Int32} {v : Int32} (h : ¬ us.toInt < lm.toInt) : aF us lm g v = g := by unfold aF; rw [if_neg h]
def Row4 (us : Int32) (g : Nat → Int32) (c : Int32) (L : Int) (b0 b1 b2 b3 : Nat → Int32) : Prop := us.toInt = 4 * min c.toInt L ∧ ∀ i : Nat, (i : Int) < min c.toInt L → g (4 * i) = b0 i ∧ g (4 * i + 1) = b1 i ∧ g (4 * i + 2) = b2 i ∧ g (4 * i + 3) = b3 i
theorem Row4.add {us lm c : Int32} {g : Nat → Int32} {L : Int} {b0 b1 b2 b3 : Nat → Int32} (h : Row4 us g c L b0 b1 b2 b3) (hl : lm.toInt = 4 * L) (h0 : 0 ≤ c.toInt) (h1 : c.toInt < L) (x y z w : Int32) :
    Row4 (aN4 us lm) (aF4 us lm g x y z w) (c + 1) L (upd b0 (Int32.toNatClampNeg c) x) (upd b1 (Int32.toNatClampNeg c) y) (upd b2 (Int32.toNatClampNeg c) z) (upd b3 (Int32.toNatClampNeg c) w) := by
  obtain ⟨h2, h3⟩ := h
  have hll := Int32.toInt_lt lm
  obtain ⟨m, hm⟩ : ∃ m : Nat, c.toInt = (m : Int) := ⟨c.toInt.toNat, by omega⟩
  have e1 : (c + 1).toInt = c.toInt + 1 := inc_toInt (by omega)
  have u0 : us.toInt = ((4 * m : Nat) : Int) := by omega
  have n1 := (aN_in (us := us) (lm := lm) (by omega)).2
  have n2 := (aN_in (us := aN us lm) (lm := lm) (by omega)).2
  have n3 := (aN_in (us := aN (aN us lm) lm) (lm := lm) (by omega)).2
  have n4 := (aN_in (us := aN (aN (aN us lm) lm) lm) (lm := lm) (by omega)).2
  unfold Row4 aN4 aF4
  rw [aF_in (m := 4 * m + 3) (by omega) (by omega), aF_in (m := 4 * m + 2) (by omega) (by omega), aF_in (m := 4 * m + 1) (by omega) (by omega), aF_in (m := 4 * m) (by omega) (by omega), ix_nat hm]
  refine ⟨by omega, fun i hi => ?_⟩
  by_cases e : i = m
  · subst e
    simp only [upd_at]
    simp
  · have z3 := h3 i (by omega)
    have k1 : ∀ a b : Nat, a < 4 → b < 4 → 4 * i + a ≠ 4 * m + b := fun a b ha hb => by omega
    have w0 : ∀ b : Nat, b < 4 → 4 * i ≠ 4 * m + b := fun b hb => by omega
    rw [upd_n _ _ e, upd_n _ _ e, upd_n _ _ e, upd_n _ _ e]
    simp only [upd_at]
    rw [if_neg (w0 3 (by omega)), if_neg (w0 2 (by omega)), if_neg (w0 1 (by omega)), if_neg (show 4 * i ≠ 4 * m by omega), if_neg (k1 1 3 (by omega) (by omega)), if_neg (k1 1 2 (by omega) (by omega)), if_neg (k1 1 1 (by omega) (by omega)), if_neg (show 4 * i + 1 ≠ 4 * m by omega), if_neg (k1 2 3 (by omega) (by omega)), if_neg (k1 2 2 (by omega) (by omega)), if_neg (k1 2 1 (by omega) (by omega)), if_neg (show 4 * i + 2 ≠ 4 * m by omega), if_neg (k1 3 3 (by omega) (by omega)), if_neg (k1 3 2 (by omega) (by omega)), if_neg (k1 3 1 (by omega) (by omega)), if_neg (show 4 * i + 3 ≠ 4 * m by omega)]
    exact z3
theorem Row4.full {us lm c : Int32} {g : Nat → Int32} {L : Int} {b0 b1 b2 b3 : Nat → Int32} (h : Row4 us g c L b0 b1 b2 b3) (hl : lm.toInt = 4 * L) (h1 : L ≤ c.toInt) (hc : c.toInt < 2147483647) (x y z w : Int32) :
    Row4 (aN4 us lm) (aF4 us lm g x y z w) (c + 1) L b0 b1 b2 b3 := by
  obtain ⟨h2, h3⟩ := h
  have e1 : (c + 1).toInt = c.toInt + 1 := inc_toInt hc
  have n1 : aN us lm = us := aN_out (by omega)
  unfold Row4 aN4 aF4
  rw [n1, n1, n1, n1, aF_out (by omega), aF_out (by omega), aF_out (by omega), aF_out (by omega)]
  exact ⟨by omega, fun i hi => h3 i (by omega)⟩
section
variable {n qn : Nat → Int32} {f : Nat → Nat → Int32} {a49 a50 a51 a52 a55 a56 a57 a58 a59 : Nat → Int32}
theorem RLg.seen (h : RLg n f qn a49 a50 a51 a52 a55 a56 a57 a58 a59) (hl : (n 15).toInt = 4000) (h0 : 0 ≤ (qn 45).toInt) (h1 : (qn 45).toInt < 1000) (x y z w : Int32) :
    RLg (u1 n 16 (aN4 (n 16) (n 15))) (u1 f 29 (aF4 (n 16) (n 15) (f 29) x y z w)) (upn qn 45 (qn 45 + 1)) (upd a49 (Int32.toNatClampNeg (qn 45)) x) (upd a50 (Int32.toNatClampNeg (qn 45)) y) (upd a51 (Int32.toNatClampNeg (qn 45)) z) (upd a52 (Int32.toNatClampNeg (qn 45)) w) a55 a56 a57 a58 a59 := by
  have r := Row4.add (lm := n 15) h.1 (by omega) h0 h1 x y z w
  unfold Row4 at r
  unfold RLg
  rw [u1_eq, u1_eq, u1_ne _ _ (show 19 ≠ 16 by decide), u1_ne _ _ (show 21 ≠ 16 by decide), u1_ne _ _ (show 30 ≠ 29 by decide), u1_ne _ _ (show 31 ≠ 29 by decide)]
  exact ⟨r, h.2⟩
theorem RLg.seenF (h : RLg n f qn a49 a50 a51 a52 a55 a56 a57 a58 a59) (hl : (n 15).toInt = 4000) (h1 : 1000 ≤ (qn 45).toInt) (hc : (qn 45).toInt < 2147483647) (x y z w : Int32) :
    RLg (u1 n 16 (aN4 (n 16) (n 15))) (u1 f 29 (aF4 (n 16) (n 15) (f 29) x y z w)) (upn qn 45 (qn 45 + 1)) a49 a50 a51 a52 a55 a56 a57 a58 a59 := by
  have r := Row4.full (lm := n 15) h.1 (by omega) h1 hc x y z w
  unfold Row4 at r
  unfold RLg
  rw [u1_eq, u1_eq, u1_ne _ _ (show 19 ≠ 16 by decide), u1_ne _ _ (show 21 ≠ 16 by decide), u1_ne _ _ (show 30 ≠ 29 by decide), u1_ne _ _ (show 31 ≠ 29 by decide)]
  exact ⟨r, h.2⟩
theorem RLg.asked (h : RLg n f qn a49 a50 a51 a52 a55 a56 a57 a58 a59) (hl : (n 18).toInt = 2400) (h0 : 0 ≤ (qn 47).toInt) (h1 : (qn 47).toInt < 600) (x y z w : Int32) :
    RLg (u1 n 19 (aN4 (n 19) (n 18))) (u1 f 30 (aF4 (n 19) (n 18) (f 30) x y z w)) (upn qn 47 (qn 47 + 1)) a49 a50 a51 a52 (upd a55 (Int32.toNatClampNeg (qn 47)) x) (upd a56 (Int32.toNatClampNeg (qn 47)) y) (upd a57 (Int32.toNatClampNeg (qn 47)) z) (upd a58 (Int32.toNatClampNeg (qn 47)) w) a59 := by
  have r := Row4.add (lm := n 18) h.2.1 (by omega) h0 h1 x y z w
  unfold Row4 at r
  unfold RLg
  rw [u1_eq, u1_eq, u1_ne _ _ (show 16 ≠ 19 by decide), u1_ne _ _ (show 21 ≠ 19 by decide), u1_ne _ _ (show 29 ≠ 30 by decide), u1_ne _ _ (show 31 ≠ 30 by decide)]
  exact ⟨h.1, r, h.2.2⟩
theorem RLg.askedF (h : RLg n f qn a49 a50 a51 a52 a55 a56 a57 a58 a59) (hl : (n 18).toInt = 2400) (h1 : 600 ≤ (qn 47).toInt) (hc : (qn 47).toInt < 2147483647) (x y z w : Int32) :
    RLg (u1 n 19 (aN4 (n 19) (n 18))) (u1 f 30 (aF4 (n 19) (n 18) (f 30) x y z w)) (upn qn 47 (qn 47 + 1)) a49 a50 a51 a52 a55 a56 a57 a58 a59 := by
  have r := Row4.full (lm := n 18) h.2.1 (by omega) h1 hc x y z w
  unfold Row4 at r
  unfold RLg
  rw [u1_eq, u1_eq, u1_ne _ _ (show 16 ≠ 19 by decide), u1_ne _ _ (show 21 ≠ 19 by decide), u1_ne _ _ (show 29 ≠ 30 by decide), u1_ne _ _ (show 31 ≠ 30 by decide)]
  exact ⟨h.1, r, h.2.2⟩
theorem RLg.turn (h : RLg n f qn a49 a50 a51 a52 a55 a56 a57 a58 a59) (hl : (n 20).toInt = 2000) (h0 : 0 ≤ (qn 48).toInt) (h1 : (qn 48).toInt < 2000) (x : Int32) :
    RLg (u1 n 21 (aN (n 21) (n 20))) (u1 f 31 (aF (n 21) (n 20) (f 31) x)) (upn qn 48 (qn 48 + 1)) a49 a50 a51 a52 a55 a56 a57 a58 (upd a59 (Int32.toNatClampNeg (qn 48)) x) := by
  obtain ⟨h2, h3, h4, h5⟩ := h
  obtain ⟨m, hm⟩ : ∃ m : Nat, (qn 48).toInt = (m : Int) := ⟨(qn 48).toInt.toNat, by omega⟩
  have e1 : (qn 48 + 1).toInt = (qn 48).toInt + 1 := inc_toInt (by omega)
  have n1 := (aN_in (us := n 21) (lm := n 20) (by omega)).2
  unfold RLg
  rw [u1_eq, u1_eq, u1_ne _ _ (show 16 ≠ 21 by decide), u1_ne _ _ (show 19 ≠ 21 by decide), u1_ne _ _ (show 29 ≠ 31 by decide), u1_ne _ _ (show 30 ≠ 31 by decide), aF_in (m := m) (by omega) (by omega), ix_nat hm]
  refine ⟨h2, h3, ?_, fun i hi => ?_⟩
  · show (aN (n 21) (n 20)).toInt = min (qn 48 + 1).toInt 2000
    omega
  · have hi : (i : Int) < min (qn 48 + 1).toInt 2000 := hi
    by_cases e : i = m
    · subst e; rw [upd_s, upd_s] <;> rfl
    · rw [upd_n _ _ e, upd_n _ _ e]; exact h5 i (by omega)
theorem RLg.turnF (h : RLg n f qn a49 a50 a51 a52 a55 a56 a57 a58 a59) (hl : (n 20).toInt = 2000) (h1 : 2000 ≤ (qn 48).toInt) (hc : (qn 48).toInt < 2147483647) (x : Int32) :
    RLg (u1 n 21 (aN (n 21) (n 20))) (u1 f 31 (aF (n 21) (n 20) (f 31) x)) (upn qn 48 (qn 48 + 1)) a49 a50 a51 a52 a55 a56 a57 a58 a59 := by
  obtain ⟨h2, h3, h4, h5⟩ := h
  have e1 : (qn 48 + 1).toInt = (qn 48).toInt + 1 := inc_toInt hc
  unfold RLg
  rw [u1_eq, u1_eq, u1_ne _ _ (show 16 ≠ 21 by decide), u1_ne _ _ (show 19 ≠ 21 by decide), u1_ne _ _ (show 29 ≠ 31 by decide), u1_ne _ _ (show 30 ≠ 31 by decide), aF_out (by omega), aN_out (by omega)]
  refine ⟨h2, h3, ?_, fun i hi => ?_⟩
  · show (n 21).toInt = min (qn 48 + 1).toInt 2000
    omega
  · have hi : (i : Int) < min (qn 48 + 1).toInt 2000 := hi
    exact h5 i (by omega)
end

/- ---------- BINDINGS and TRIES of one RUN ---------- -/
theorem u2_same {α : Type} {G : Nat → Nat → α} {i k : Nat} {v : α} (h : G i k = v) : u2 G i k v = G := by rw [← h, u2_id] <;> rfl
theorem sco14 (G : Nat → Nat → Int32) (i : Nat) (x : Int32) : u2 (u2 (u2 G i 14 x) i 15 (G i 15)) i 16 (G i 16) = u2 G i 14 x := by
  rw [u2_same (show u2 G i 14 x i 15 = G i 15 from u2_n2 _ _ _ _ (by decide)), u2_same (show u2 G i 14 x i 16 = G i 16 from u2_n2 _ _ _ _ (by decide))] <;> rfl
theorem sco15 (G : Nat → Nat → Int32) (i : Nat) (x : Int32) : u2 (u2 (u2 G i 14 (G i 14)) i 15 x) i 16 (G i 16) = u2 G i 15 x := by
  rw [u2_id, u2_same (show u2 G i 15 x i 16 = G i 16 from u2_n2 _ _ _ _ (by decide))] <;> rfl
theorem sco1516 (G : Nat → Nat → Int32) (i : Nat) (x y : Int32) : u2 (u2 (u2 G i 14 (G i 14)) i 15 x) i 16 y = u2 (u2 G i 15 x) i 16 y := by rw [u2_id] <;> rfl
theorem sco1415 (G : Nat → Nat → Int32) (i : Nat) (x y : Int32) : u2 (u2 (u2 G i 14 x) i 15 y) i 16 (G i 16) = u2 (u2 G i 14 x) i 15 y := by
  rw [u2_same (show u2 (u2 G i 14 x) i 15 y i 16 = G i 16 by rw [u2_n2 _ _ _ _ (by decide), u2_n2 _ _ _ _ (by decide)] <;> rfl)] <;> rfl
theorem sco0 (G : Nat → Nat → Int32) (i : Nat) : u2 (u2 (u2 G i 14 (G i 14)) i 15 (G i 15)) i 16 (G i 16) = G := by rw [u2_id, u2_id, u2_id] <;> rfl
section
variable {p p' kp kp' : Int} {g : Nat → Int32} {B : Nat → Nat → Int32} {o o' st b36 b39 : Int32} {b37 b38 b40 b41 b42 b43 : Nat → Int32}
theorem RS1.mono (h : RS1 p kp g B o st b36 b37 b38 b39 b40 b41 b42 b43) (hp : p ≤ p') (hk : kp ≤ kp') : RS1 p' kp' g B o st b36 b37 b38 b39 b40 b41 b42 b43 := by
  obtain ⟨⟨h1, h2, h3, h4, h5, h6⟩, h7, h8, h9⟩ := h
  exact ⟨⟨h1, h2, h3, by omega, h5, by omega⟩, h7, h8, fun q => ⟨⟨(h9 q).1.1, (h9 q).1.2.1, (h9 q).1.2.2.1, by have := (h9 q).1.2.2.2; omega⟩, (h9 q).2⟩⟩
/-- the reference's counter of BINDINGS goes on -/
theorem RS1.opened (h : RS1 p kp g B o st b36 b37 b38 b39 b40 b41 b42 b43) (ho : o.toInt ≤ o'.toInt) : RS1 p kp g B o' st b36 b37 b38 b39 b40 b41 b42 b43 := by
  obtain ⟨h1, h7, h8, h9⟩ := h
  exact ⟨h1, fun k hk => ⟨(h7 k hk).1, (h7 k hk).2.1, (h7 k hk).2.2.1, by have := (h7 k hk).2.2.2; omega⟩, h8, fun q => ⟨(h9 q).1, fun t ht => ⟨⟨((h9 q).2 t ht).1.1, ((h9 q).2 t ht).1.2.1, ((h9 q).2 t ht).1.2.2.1, by have := ((h9 q).2 t ht).1.2.2.2.1; omega, ((h9 q).2 t ht).1.2.2.2.2⟩, ((h9 q).2 t ht).2⟩⟩⟩
/-- a BINDING comes -/
theorem RS1.bind (h : RS1 p kp g B o st b36 b37 b38 b39 b40 b41 b42 b43) {m : Nat} (hm : b36.toInt = (m : Int)) (h24 : m < 24) (hp : b36.toInt + 1 ≤ p') (hpp : p ≤ p') (ho : o'.toInt = o.toInt + 1) (v x : Int32) :
    RS1 p' kp (u1 g 14 (b36 + 1)) (u1 (u1 (u1 B 3 (upd (B 3) m v)) 4 (upd (B 4) m x)) 5 (upd (B 5) m (g 16))) o' st (b36 + 1) (upd b37 m v) (upd b38 m x) b39 b40 b41 (upd b42 m o) b43 := by
  obtain ⟨⟨h1, h2, h3, h4, h5, h6⟩, h7, h8, h9⟩ := h
  have e1 : (b36 + 1).toInt = b36.toInt + 1 := inc_toInt (by omega)
  have g16 : u1 g 14 (b36 + 1) 16 = g 16 := u1_ne _ _ (by decide)
  have g15 : u1 g 14 (b36 + 1) 15 = g 15 := u1_ne _ _ (by decide)
  have c3 : u1 (u1 (u1 B 3 (upd (B 3) m v)) 4 (upd (B 4) m x)) 5 (upd (B 5) m (g 16)) 3 = upd (B 3) m v := by rw [u1_ne _ _ (by decide), u1_ne _ _ (by decide), u1_eq] <;> rfl
  have c4 : u1 (u1 (u1 B 3 (upd (B 3) m v)) 4 (upd (B 4) m x)) 5 (upd (B 5) m (g 16)) 4 = upd (B 4) m x := by rw [u1_ne _ _ (by decide), u1_eq] <;> rfl
  have c5 : u1 (u1 (u1 B 3 (upd (B 3) m v)) 4 (upd (B 4) m x)) 5 (upd (B 5) m (g 16)) 5 = upd (B 5) m (g 16) := u1_eq _ _ _
  have c6 : ∀ k : Nat, 6 ≤ k → u1 (u1 (u1 B 3 (upd (B 3) m v)) 4 (upd (B 4) m x)) 5 (upd (B 5) m (g 16)) k = B k := fun k hk => by rw [u1_ne _ _ (by omega), u1_ne _ _ (by omega), u1_ne _ _ (by omega)] <;> rfl
  unfold RS1
  rw [u1_eq, g16, g15, c3, c4, c5, c6 6 (by omega), c6 7 (by omega), c6 8 (by omega)]
  refine ⟨⟨rfl, by omega, by omega, by omega, h5, h6⟩, fun k hk => ?_, fun k l hkl hl => ?_, fun q => ⟨⟨(h9 q).1.1, (h9 q).1.2.1, (h9 q).1.2.2.1, by have := (h9 q).1.2.2.2; omega⟩, fun t ht => ?_⟩⟩
  · by_cases e : k = m
    · subst e; rw [upd_s, upd_s, upd_s, upd_s, upd_s, upd_s]; exact ⟨rfl, rfl, Int.le_refl _, by omega⟩
    · rw [upd_n _ _ e, upd_n _ _ e, upd_n _ _ e, upd_n _ _ e, upd_n _ _ e, upd_n _ _ e]
      have z := h7 k (by omega)
      exact ⟨z.1, z.2.1, z.2.2.1, by omega⟩
  · have ek : k ≠ m := by omega
    rw [upd_n _ _ ek, upd_n _ _ ek]
    by_cases e : l = m
    · subst e; rw [upd_s, upd_s]; have z := h7 k (by omega); exact ⟨z.2.2.1, z.2.2.2⟩
    · rw [upd_n _ _ e, upd_n _ _ e]; exact h8 k l hkl (by omega)
  · have z := (h9 q).2 t ht
    refine ⟨⟨z.1.1, z.1.2.1, z.1.2.2.1, by have := z.1.2.2.2.1; omega, z.1.2.2.2.2⟩, fun k hk => ?_⟩
    by_cases e : k = m
    · subst e; rw [upd_s, upd_s]
      have z1 := z.1.2.2.1
      have z2 := z.1.2.2.2.1
      exact ⟨⟨fun _ => z2, fun _ => z1⟩, fun _ => z2⟩
    · rw [upd_n _ _ e, upd_n _ _ e]; exact z.2 k (by omega)
/-- fewer BINDINGS -/
theorem RS1.less (h : RS1 p kp g B o st b36 b37 b38 b39 b40 b41 b42 b43) {b : Int32} (h0 : 0 ≤ b.toInt) (hb : b.toInt ≤ b36.toInt) : RS1 p kp (u1 g 14 b) B o st b b37 b38 b39 b40 b41 b42 b43 := by
  obtain ⟨⟨h1, h2, h3, h4, h5, h6⟩, h7, h8, h9⟩ := h
  unfold RS1
  rw [u1_eq, u1_ne _ _ (show 16 ≠ 14 by decide), u1_ne _ _ (show 15 ≠ 14 by decide)]
  exact ⟨⟨rfl, h0, by omega, by omega, h5, h6⟩, fun k hk => h7 k (by omega), fun k l hkl hl => h8 k l hkl (by omega), fun q => ⟨(h9 q).1, fun t ht => ⟨((h9 q).2 t ht).1, fun k hk => ((h9 q).2 t ht).2 k (by omega)⟩⟩⟩
/-- fewer TRIES -/
theorem RS1.lessT (h : RS1 p kp g B o st b36 b37 b38 b39 b40 b41 b42 b43) (hs : ¬ (st.toInt = 3 ∨ st.toInt = 4)) {b : Int32} (h0 : 0 ≤ b.toInt) (hb : b.toInt ≤ b39.toInt) : RS1 p kp (u1 g 15 b) B o st b36 b37 b38 b b40 b41 b42 b43 := by
  obtain ⟨⟨h1, h2, h3, h4, h5, h6⟩, h7, h8, h9⟩ := h
  have z := h9 hs
  unfold RS1
  rw [u1_eq, u1_ne _ _ (show 16 ≠ 15 by decide), u1_ne _ _ (show 14 ≠ 15 by decide)]
  exact ⟨⟨h1, h2, h3, h4, h5, h6⟩, h7, h8, fun _ => ⟨⟨rfl, h0, by omega, by omega⟩, fun t ht => z.2 t (by omega)⟩⟩
/-- a TRY comes -/
theorem RS1.try_ (h : RS1 p kp g B o st b36 b37 b38 b39 b40 b41 b42 b43) (hs : ¬ (st.toInt = 3 ∨ st.toInt = 4)) {m : Nat} (hm : b39.toInt = (m : Int)) (h24 : m < 24) (hp : b39.toInt + 1 ≤ p') (hpp : p ≤ p') (hk : kp + 1 ≤ kp') (hkk : kp' ≤ 2147483647) {a b : Int32} (hb1 : b36.toInt ≤ b.toInt) (hb2 : (m : Int) < b.toInt) (hb3 : b.toInt ≤ 24) :
    RS1 p' kp' (u1 (u1 g 15 (b39 + 1)) 16 (g 16 + 1)) (u1 (u1 (u1 B 6 (upd (B 6) m a)) 7 (upd (B 7) m b)) 8 (upd (B 8) m (g 16))) o st b36 b37 b38 (b39 + 1) (upd b40 m a) (upd b41 m b) b42 (upd b43 m o) := by
  obtain ⟨⟨h1, h2, h3, h4, h5, h6⟩, h7, h8, h9⟩ := h
  have z := h9 hs
  have e1 : (b39 + 1).toInt = b39.toInt + 1 := inc_toInt (by omega)
  have e2 : (g 16 + 1).toInt = (g 16).toInt + 1 := inc_toInt (by omega)
  have g14 : u1 (u1 g 15 (b39 + 1)) 16 (g 16 + 1) 14 = g 14 := by rw [u1_ne _ _ (by decide), u1_ne _ _ (by decide)] <;> rfl
  have g15 : u1 (u1 g 15 (b39 + 1)) 16 (g 16 + 1) 15 = b39 + 1 := by rw [u1_ne _ _ (by decide), u1_eq] <;> rfl
  have c6 : u1 (u1 (u1 B 6 (upd (B 6) m a)) 7 (upd (B 7) m b)) 8 (upd (B 8) m (g 16)) 6 = upd (B 6) m a := by rw [u1_ne _ _ (by decide), u1_ne _ _ (by decide), u1_eq] <;> rfl
  have c7 : u1 (u1 (u1 B 6 (upd (B 6) m a)) 7 (upd (B 7) m b)) 8 (upd (B 8) m (g 16)) 7 = upd (B 7) m b := by rw [u1_ne _ _ (by decide), u1_eq] <;> rfl
  have c8 : u1 (u1 (u1 B 6 (upd (B 6) m a)) 7 (upd (B 7) m b)) 8 (upd (B 8) m (g 16)) 8 = upd (B 8) m (g 16) := u1_eq _ _ _
  have c3 : ∀ k : Nat, k < 6 → u1 (u1 (u1 B 6 (upd (B 6) m a)) 7 (upd (B 7) m b)) 8 (upd (B 8) m (g 16)) k = B k := fun k hk => by rw [u1_ne _ _ (by omega), u1_ne _ _ (by omega), u1_ne _ _ (by omega)] <;> rfl
  unfold RS1
  rw [u1_eq, g14, g15, c6, c7, c8, c3 3 (by omega), c3 4 (by omega), c3 5 (by omega)]
  refine ⟨⟨h1, h2, h3, by omega, by omega, by omega⟩, fun k hk => ?_, h8, fun _ => ⟨⟨rfl, by omega, by omega, by omega⟩, fun t ht => ?_⟩⟩
  · have w := h7 k hk
    exact ⟨w.1, w.2.1, by omega, w.2.2.2⟩
  · by_cases e : t = m
    · subst e
      rw [upd_s, upd_s, upd_s, upd_s, upd_s, upd_s]
      refine ⟨⟨rfl, rfl, by omega, Int.le_refl _, hb2, hb3⟩, fun k hk => ?_⟩
      have w := h7 k hk
      exact ⟨⟨fun q => by omega, fun q => by omega⟩, fun q => by omega⟩
    · rw [upd_n _ _ e, upd_n _ _ e, upd_n _ _ e, upd_n _ _ e, upd_n _ _ e, upd_n _ _ e]
      have w := z.2 t (by omega)
      exact ⟨⟨w.1.1, w.1.2.1, by omega, w.1.2.2.2⟩, w.2⟩
/-- a BINDING's value -/
theorem RS1.value (h : RS1 p kp g B o st b36 b37 b38 b39 b40 b41 b42 b43) (m : Nat) (x : Int32) : RS1 p kp g (u1 B 4 (upd (B 4) m x)) o st b36 b37 (upd b38 m x) b39 b40 b41 b42 b43 := by
  obtain ⟨h1, h7, h8, h9⟩ := h
  unfold RS1
  rw [u1_eq, u1_ne _ _ (show 3 ≠ 4 by decide), u1_ne _ _ (show 5 ≠ 4 by decide), u1_ne _ _ (show 6 ≠ 4 by decide), u1_ne _ _ (show 7 ≠ 4 by decide), u1_ne _ _ (show 8 ≠ 4 by decide)]
  refine ⟨h1, fun k hk => ?_, h8, h9⟩
  have z := h7 k hk
  by_cases e : k = m
  · subst e; rw [upd_s, upd_s]; exact ⟨z.1, rfl, z.2.2⟩
  · rw [upd_n _ _ e, upd_n _ _ e]; exact z
/-- the RUN is over -/
theorem RS1.over (h : RS1 p kp g B o st b36 b37 b38 b39 b40 b41 b42 b43) {st' : Int32} (hs : st'.toInt = 3 ∨ st'.toInt = 4) (hp : 0 ≤ p') (y c39 : Int32) : RS1 p' kp (u1 (u1 g 14 0) 15 y) B o st' 0 b37 b38 c39 b40 b41 b42 b43 := by
  obtain ⟨⟨h1, h2, h3, h4, h5, h6⟩, h7, h8, h9⟩ := h
  have t : (0 : Int32).toInt = 0 := by decide
  unfold RS1
  rw [u1_ne _ _ (show 14 ≠ 15 by decide), u1_eq, u1_ne _ _ (show 16 ≠ 15 by decide), u1_ne _ _ (show 16 ≠ 14 by decide)]
  exact ⟨⟨rfl, by omega, by omega, by omega, h5, h6⟩, fun k hk => by omega, fun k l _ hl => by omega, fun q => absurd hs q⟩
end
theorem row_s (a : Nat → Int32) (i m : Nat) (x : Int32) : (fun k => upd a (24 * i + m) x (24 * i + k)) = upd (fun k => a (24 * i + k)) m x := by
  funext k
  unfold upd
  by_cases e : k = m
  · subst e; rw [if_pos rfl, if_pos rfl] <;> rfl
  · rw [if_neg (by omega), if_neg e] <;> rfl
theorem row_n (a : Nat → Int32) {i j m : Nat} (x : Int32) (hm : m < 24) (h : j ≠ i) {k : Nat} (hk : k < 24) : upd a (24 * i + m) x (24 * j + k) = a (24 * j + k) := upd_n _ _ (by omega)

/- ---------- the STEPS of one RUN ---------- -/
section
variable {p p' kp kp' : Int} {g : Nat → Int32} {B : Nat → Nat → Int32} {o o' st b36 b39 : Int32} {b37 b38 b40 b41 b42 b43 c37 c38 c40 c41 c42 c43 : Nat → Int32}
theorem RS1.congr (h : RS1 p kp g B o st b36 b37 b38 b39 b40 b41 b42 b43) (e37 : ∀ k : Nat, k < 24 → c37 k = b37 k) (e38 : ∀ k : Nat, k < 24 → c38 k = b38 k) (e40 : ∀ k : Nat, k < 24 → c40 k = b40 k) (e41 : ∀ k : Nat, k < 24 → c41 k = b41 k) (e42 : ∀ k : Nat, k < 24 → c42 k = b42 k) (e43 : ∀ k : Nat, k < 24 → c43 k = b43 k) :
    RS1 p kp g B o st b36 c37 c38 b39 c40 c41 c42 c43 := by
  obtain ⟨h1, h7, h8, h9⟩ := h
  have h24 := h1.2.2.1
  refine ⟨h1, fun k hk => ?_, fun k l hkl hl => ?_, fun q => ⟨(h9 q).1, fun t ht => ?_⟩⟩
  · rw [e37 k (by omega), e38 k (by omega), e42 k (by omega)]; exact h7 k hk
  · rw [e42 k (by omega), e42 l (by omega)]; exact h8 k l hkl hl
  · have z := (h9 q).1.2.2.1
    rw [e40 t (by omega), e41 t (by omega), e43 t (by omega)]
    refine ⟨((h9 q).2 t ht).1, fun k hk => ?_⟩
    rw [e42 k (by omega)]; exact ((h9 q).2 t ht).2 k hk
end
section
variable {N : Nat} {G G' : Nat → Nat → Int32} {K : Nat → Nat → Option Nat} {F F' : Nat → Nat → Nat → Int32} {pb pb' : Nat → Int} {kp kp' : Int} {o o' : Int32} {a13 a36 a37 a38 a39 a40 a41 a42 a43 c13 c36 c37 c38 c39 c40 c41 c42 c43 a28 a29 a30 a31 a32 a0 a1 a2 a3 a4 a5 a6 a7 a8 n qn : Nat → Int32} {f : Nat → Nat → Int32}
theorem RS.set (h : RS N pb kp G F o a13 a36 a37 a38 a39 a40 a41 a42 a43) (i : Nat)
    (hn : RS1 (pb' i) kp' (G' i) (F' i) o' (c13 i) (c36 i) (fun k => c37 (24 * i + k)) (fun k => c38 (24 * i + k)) (c39 i) (fun k => c40 (24 * i + k)) (fun k => c41 (24 * i + k)) (fun k => c42 (24 * i + k)) (fun k => c43 (24 * i + k)))
    (hG : ∀ j : Nat, j ≠ i → G' j = G j) (hF : ∀ j : Nat, j ≠ i → F' j = F j) (h13 : ∀ j : Nat, j ≠ i → c13 j = a13 j) (h36 : ∀ j : Nat, j ≠ i → c36 j = a36 j) (h39 : ∀ j : Nat, j ≠ i → c39 j = a39 j)
    (e37 : ∀ j k : Nat, j ≠ i → k < 24 → c37 (24 * j + k) = a37 (24 * j + k)) (e38 : ∀ j k : Nat, j ≠ i → k < 24 → c38 (24 * j + k) = a38 (24 * j + k)) (e40 : ∀ j k : Nat, j ≠ i → k < 24 → c40 (24 * j + k) = a40 (24 * j + k)) (e41 : ∀ j k : Nat, j ≠ i → k < 24 → c41 (24 * j + k) = a41 (24 * j + k)) (e42 : ∀ j k : Nat, j ≠ i → k < 24 → c42 (24 * j + k) = a42 (24 * j + k)) (e43 : ∀ j k : Nat, j ≠ i → k < 24 → c43 (24 * j + k) = a43 (24 * j + k))
    (hp : ∀ j : Nat, j < N → j ≠ i → pb j ≤ pb' j) (hk : kp ≤ kp') (ho : o.toInt ≤ o'.toInt) : RS N pb' kp' G' F' o' c13 c36 c37 c38 c39 c40 c41 c42 c43 := fun j hj => by
  by_cases e : j = i
  · subst e; exact hn
  · rw [hG j e, hF j e, h13 j e, h36 j e, h39 j e]
    exact (((h j hj).mono (hp j hj e) hk).opened ho).congr (fun k hk => e37 j k e hk) (fun k hk => e38 j k e hk) (fun k hk => e40 j k e hk) (fun k hk => e41 j k e hk) (fun k hk => e42 j k e hk) (fun k hk => e43 j k e hk)
theorem RZ.fn (h : RZ n f a0 a1 a2 a3 a4 a5 a6 a7 a8) (k : Nat) (v : Int32) (hk : k < 6 ∨ 14 ≤ k) : RZ (u1 n k v) f a0 a1 a2 a3 a4 a5 a6 a7 a8 := ⟨fun j hj => by rw [u1_ne _ _ (by omega)]; exact h.1 j hj, h.2⟩
theorem RZ.ff (h : RZ n f a0 a1 a2 a3 a4 a5 a6 a7 a8) (k : Nat) (v : Nat → Int32) (hk : 29 ≤ k) : RZ n (u1 f k v) a0 a1 a2 a3 a4 a5 a6 a7 a8 :=
  ⟨fun j hj => by rw [u1_ne _ _ (show 0 ≠ k by omega), u1_ne _ _ (show 1 ≠ k by omega)]; exact h.1 j hj, fun e j he hj => by rw [u1_ne _ _ (show 2 + 3 * e ≠ k by omega), u1_ne _ _ (show 3 + 3 * e ≠ k by omega), u1_ne _ _ (show 4 + 3 * e ≠ k by omega)]; exact h.2.1 e j he hj, fun j hj => by rw [u1_ne _ _ (show 26 ≠ k by omega), u1_ne _ _ (show 27 ≠ k by omega), u1_ne _ _ (show 28 ≠ k by omega)]; exact h.2.2 j hj⟩
theorem RE.own (h : RE N G K a13 a28 a29 a30 a31 a32) (i k : Nat) (v : Int32) (hs : ¬ (a13 i).toInt = 4) : RE N (u2 G i k v) K a13 a28 a29 a30 a31 a32 := fun j hj => by
  by_cases e : j = i
  · subst e; exact ⟨fun q => absurd q hs, (h j hj).2⟩
  · rw [u2_n1 _ _ _ e]; exact h j hj
theorem RU.mono (h : RU kp n qn) (hk : kp ≤ kp') : RU kp' n qn := by
  obtain ⟨h1, h2, h3, h4, h5, h6, h7, h8⟩ := h
  exact ⟨h1, h2, h3, by omega, h5, by omega, by omega, h8⟩
theorem RU.turn (h : RU kp n qn) (hk : kp ≤ 2000000000) (x : Int32) : RU (kp + 1) (u1 (u1 n 21 x) 5 (n 5 + 1)) (upn qn 48 (qn 48 + 1)) := by
  obtain ⟨⟨c0, c1, c2, c3, c4, c5⟩, h2, h3, h4, h5, h6, h7, h8⟩ := h
  have e1 : (qn 48 + 1).toInt = (qn 48).toInt + 1 := inc_toInt (by omega)
  refine ⟨⟨c0, c1, c2, c3, c4, ?_⟩, h2, h3, ⟨h4.1, by show (qn 45).toInt ≤ _; omega⟩, h5, ⟨by show 0 ≤ (qn 48 + 1).toInt; omega, by show (qn 48 + 1).toInt ≤ _; omega⟩, ⟨h7.1, by show (qn 44).toInt ≤ _; omega⟩, h8⟩
  show n 5 + 1 = qn 48 + 1
  rw [c5] <;> rfl
theorem RU.seen (h : RU kp n qn) (hk : kp ≤ 2000000000) (x : Int32) : RU (kp + 1) (u1 (u1 n 16 x) 3 (n 3 + 1)) (upn qn 45 (qn 45 + 1)) := by
  obtain ⟨⟨c0, c1, c2, c3, c4, c5⟩, h2, h3, h4, h5, h6, h7, h8⟩ := h
  have e1 : (qn 45 + 1).toInt = (qn 45).toInt + 1 := inc_toInt (by omega)
  refine ⟨⟨c0, c1, c2, ?_, c4, c5⟩, h2, h3, ⟨by show 0 ≤ (qn 45 + 1).toInt; omega, by show (qn 45 + 1).toInt ≤ _; omega⟩, h5, ⟨h6.1, by show (qn 48).toInt ≤ _; omega⟩, ⟨h7.1, by show (qn 44).toInt ≤ _; omega⟩, h8⟩
  show n 3 + 1 = qn 45 + 1
  rw [c3] <;> rfl
theorem RU.opened (h : RU kp n qn) (hk : kp ≤ 2000000000) : RU (kp + 1) n (upn qn 44 (qn 44 + 1)) := by
  obtain ⟨c, h2, h3, h4, h5, h6, h7, h8⟩ := h
  have e1 : (qn 44 + 1).toInt = (qn 44).toInt + 1 := inc_toInt (by omega)
  exact ⟨c, h2, h3, ⟨h4.1, by show (qn 45).toInt ≤ _; omega⟩, h5, ⟨h6.1, by show (qn 48).toInt ≤ _; omega⟩, ⟨by show 0 ≤ (qn 44 + 1).toInt; omega, by show (qn 44 + 1).toInt ≤ _; omega⟩, h8⟩
end
section
variable {R : Nat} {kp : Int} {pb : Nat → Int} {bk : Nat → Nat → Prop} {s : C9} {q : Q10} {i : Nat} {v : Int32}
theorem Rel.N200 (h : Rel R kp pb bk s q) : (Int.toNat (Int32.toInt (s.n 0))) ≤ 200 := by have hu := h.u; rw [hu.1.1]; have := hu.2.1; omega
theorem Rel.mono (h : Rel R kp pb bk s q) {kp' : Int} (hk : kp ≤ kp') : Rel R kp' pb bk s q := ⟨h.u.mono hk, h.z, h.l, h.t, h.a, h.b, h.c, h.d, h.e, h.f, h.g.mono (fun _ _ => Int.le_refl _) hk, h.p, h.x, h.j, h.k⟩
theorem Rel.num (h : Rel R kp pb bk s q) (hi : i < (Int.toNat (Int32.toInt (s.n 0)))) (hv : v.toInt = (i : Int)) : s.G i 0 = v := by
  rw [(h.a i hi).1.1]
  have := h.N200
  exact i_inj (by rw [ofNat_toInt (by omega)]; exact hv.symm)
/-- what a turn writes down first -/
def q_note (v : Int32) (q : Q10) : Q10 :=
  if (q.n 48).toInt < 2000 then ⟨upF q.F 59 (upd (q.F 59) (Int32.toNatClampNeg (q.n 48)) (256 * v + q.F 18 (Int32.toNatClampNeg v))), upn q.n 48 (q.n 48 + 1)⟩ else ⟨q.F, upn q.n 48 (q.n 48 + 1)⟩
theorem r_turn_eq (v : Int32) (q : Q10) : r_turn v q = c_turn v (q_note v q) := by
  unfold r_turn q_note
  dsimp +instances only [c9n, c9f, c9T, c9G, c9K, c9F, q10F, q10n]
  by_cases e : (q.n 48).toInt < 2000
  · rw [if_pos e, if_pos e] <;> rfl
  · rw [if_neg e, if_neg e] <;> rfl
theorem note_sim (h : Rl R kp s q) (hk : kp ≤ 2000000000) (hv : v.toInt = (i : Int)) (hi : i < (Int.toNat (Int32.toInt (s.n 0)))) (hs : ¬ (q.F 13 i).toInt = 4) : Rl R (kp + 1) (k_note i s) (q_note v q) := by
  have ev := h.num hi hv
  have e3 : s.G i 3 = q.F 18 i := (h.a i hi).1.2.2.1
  have hu := h.u
  have hlim := hu.2.2.2.2.2.2.2
  have hc := hu.2.2.2.2.2.1
  unfold k_note k_clrF k_add q_note
  dsimp +instances only [c9n, c9f, c9T, c9G, c9K, c9F, q10F, q10n]
  rw [ev, e3, ix_nat hv, u1_ne s.n (aN (s.n 21) (s.n 20)) (show 5 ≠ 21 by decide)]
  have hE := (((((h.e.own i 17 (-1) hs).own i 18 (-1) hs).own i 19 (-1) hs).own i 20 0 hs).own i 21 0 hs)
  have hX := h.x
  by_cases e : (q.n 48).toInt < 2000
  · rw [if_pos e]
    exact ⟨hu.turn hk _, ((h.z.fn _ _ (by omega)).fn _ _ (by omega)).ff _ _ (by omega), (h.l.turn hlim.2.2.1 hc.1 e _).fn _ _ (by decide), ((((h.t.fG _ _ _ (by decide)).fG _ _ _ (by decide)).fG _ _ _ (by decide)).fG _ _ _ (by decide)).fG _ _ _ (by decide), ((((h.a.fG _ _ _ (by decide)).fG _ _ _ (by decide)).fG _ _ _ (by decide)).fG _ _ _ (by decide)).fG _ _ _ (by decide), ((((h.b.fG _ _ _ (by decide)).fG _ _ _ (by decide)).fG _ _ _ (by decide)).fG _ _ _ (by decide)).fG _ _ _ (by decide), ((((h.c.fG _ _ _ (by decide)).fG _ _ _ (by decide)).fG _ _ _ (by decide)).fG _ _ _ (by decide)).fG _ _ _ (by decide), ((((h.d.fG _ _ _ (by decide)).fG _ _ _ (by decide)).fG _ _ _ (by decide)).fG _ _ _ (by decide)).fG _ _ _ (by decide), hE, h.f, (((((h.g.mono (fun _ _ => Int.le_refl _) (by omega)).fG _ _ _ (by decide)).fG _ _ _ (by decide)).fG _ _ _ (by decide)).fG _ _ _ (by decide)).fG _ _ _ (by decide), ((((h.p.fG _ _ _ (by decide)).fG _ _ _ (by decide)).fG _ _ _ (by decide)).fG _ _ _ (by decide)).fG _ _ _ (by decide), ((((h.x.fG _ _ _ (by decide)).fG _ _ _ (by decide)).fG _ _ _ (by decide)).fG _ _ _ (by decide)).fG _ _ _ (by decide), h.j, ((((h.k.fG _ _ _ (by decide)).fG _ _ _ (by decide)).fG _ _ _ (by decide)).fG _ _ _ (by decide)).fG _ _ _ (by decide)⟩
  · rw [if_neg e]
    exact ⟨hu.turn hk _, ((h.z.fn _ _ (by omega)).fn _ _ (by omega)).ff _ _ (by omega), (h.l.turnF hlim.2.2.1 (by omega) (by omega) _).fn _ _ (by decide), ((((h.t.fG _ _ _ (by decide)).fG _ _ _ (by decide)).fG _ _ _ (by decide)).fG _ _ _ (by decide)).fG _ _ _ (by decide), ((((h.a.fG _ _ _ (by decide)).fG _ _ _ (by decide)).fG _ _ _ (by decide)).fG _ _ _ (by decide)).fG _ _ _ (by decide), ((((h.b.fG _ _ _ (by decide)).fG _ _ _ (by decide)).fG _ _ _ (by decide)).fG _ _ _ (by decide)).fG _ _ _ (by decide), ((((h.c.fG _ _ _ (by decide)).fG _ _ _ (by decide)).fG _ _ _ (by decide)).fG _ _ _ (by decide)).fG _ _ _ (by decide), ((((h.d.fG _ _ _ (by decide)).fG _ _ _ (by decide)).fG _ _ _ (by decide)).fG _ _ _ (by decide)).fG _ _ _ (by decide), hE, h.f, (((((h.g.mono (fun _ _ => Int.le_refl _) (by omega)).fG _ _ _ (by decide)).fG _ _ _ (by decide)).fG _ _ _ (by decide)).fG _ _ _ (by decide)).fG _ _ _ (by decide), ((((h.p.fG _ _ _ (by decide)).fG _ _ _ (by decide)).fG _ _ _ (by decide)).fG _ _ _ (by decide)).fG _ _ _ (by decide), ((((h.x.fG _ _ _ (by decide)).fG _ _ _ (by decide)).fG _ _ _ (by decide)).fG _ _ _ (by decide)).fG _ _ _ (by decide), h.j, ((((h.k.fG _ _ _ (by decide)).fG _ _ _ (by decide)).fG _ _ _ (by decide)).fG _ _ _ (by decide)).fG _ _ _ (by decide)⟩
theorem plus_sim (h : Rel R kp pb bk s q) (hv : v.toInt = (i : Int)) (hi : i < (Int.toNat (Int32.toInt (s.n 0)))) (b : Int32) : Rel R kp pb bk (C9.mk s.n s.f s.T (u2 s.G i 5 (s.G i 5 + b)) s.K s.F) ⟨upF q.F 19 (upd (q.F 19) (Int32.toNatClampNeg v) (q.F 19 (Int32.toNatClampNeg v) + b)), q.n⟩ := by
  have e5 : s.G i 5 = q.F 19 i := (h.b i hi).2.1
  rw [ix_nat hv, e5]
  exact ⟨h.u, h.z, h.l, h.t.fG _ _ _ (by decide), h.a.fG _ _ _ (by decide), h.b.sum i _, h.c.fG _ _ _ (by decide), h.d.fG _ _ _ (by decide), h.e.fG _ _ _ (by decide), h.f, h.g.fG _ _ _ (by decide), h.p.fG _ _ _ (by decide), h.x.fG _ _ _ (by decide), h.j, h.k.fG _ _ _ (by decide)⟩
end

section
variable {R : Nat} {kp : Int} {pb : Nat → Int} {bk : Nat → Nat → Prop} {s : C9} {q : Q10} {i : Nat} {v : Int32}
/-- how far a RUN's BINDINGS and TRIES may reach before its place goes on -/
abbrev pbi (i : Nat) (q : Q10) : Nat → Int := fun j => if j = i then (q.F 20 i).toInt + 1 else (q.F 20 j).toInt
theorem pbi_le (i : Nat) (q : Q10) (j : Nat) : pb0 q j ≤ pbi i q j := by
  show (q.F 20 j).toInt ≤ if j = i then (q.F 20 i).toInt + 1 else (q.F 20 j).toInt
  by_cases e : j = i
  · rw [if_pos e, e]; omega
  · rw [if_neg e]; exact Int.le_refl _
theorem Rel.pbi (h : Rl R kp s q) (i : Nat) : Rel R kp (pbi i q) (bk0 q) s q := ⟨h.u, h.z, h.l, h.t, h.a, h.b, h.c, h.d, h.e, h.f, h.g.mono (fun j _ => pbi_le i q j) (Int.le_refl _), h.p, h.x, h.j, h.k⟩
theorem reading_sim (h : Rel R kp pb bk s q) (hk : kp ≤ 2000000000) (hv : v.toInt = (i : Int)) (hi : i < (Int.toNat (Int32.toInt (s.n 0)))) {x : Int32} {j : Nat} (hx : x.toInt = (j : Int)) (hj : j < 8) :
    Rel R (kp + 1) pb bk (k_reading i x s).1 (r_adds v x q) ∧ (k_reading i x s).2 = -1 := by
  have ev := h.num hi hv
  have er := reads_sim h hv hi hx hj
  have e5 : s.G i 5 = q.F 19 i := (h.b i hi).2.1
  have e6 : s.G i 6 = q.F 20 i := (h.a i hi).1.2.2.2.2.1
  have hu := h.u
  have hlim := hu.2.2.2.2.2.2.2
  have hc := hu.2.2.2.1
  refine ⟨?_, rfl⟩
  unfold k_reading r_adds
  dsimp +instances only [c9n, c9f, c9T, c9G, c9K, c9F, q10F, q10n]
  rw [k_led_eq (by decide), er, ix_nat hv, e5]
  dsimp +instances only [c9n, c9f, c9T, c9G, c9K, c9F, q10F, q10n]
  rw [u1_ne s.n _ (show 3 ≠ 16 by decide), u2_n2 _ _ _ _ (show (0 : Nat) ≠ 5 by decide), u2_n2 _ _ _ _ (show (6 : Nat) ≠ 5 by decide), ev, e6]
  by_cases e : (q.n 45).toInt < 1000
  · rw [if_pos e]
    exact ⟨hu.seen hk _, ((h.z.fn _ _ (by omega)).fn _ _ (by omega)).ff _ _ (by omega), (h.l.seen hlim.1 hc.1 e _ _ _ _).fn _ _ (by decide), h.t.fG _ _ _ (by decide), h.a.fG _ _ _ (by decide), h.b.sum i _, h.c.fG _ _ _ (by decide), h.d.fG _ _ _ (by decide), h.e.fG _ _ _ (by decide), h.f, (h.g.mono (fun _ _ => Int.le_refl _) (by omega)).fG _ _ _ (by decide), h.p.fG _ _ _ (by decide), h.x.fG _ _ _ (by decide), h.j, h.k.fG _ _ _ (by decide)⟩
  · rw [if_neg e]
    exact ⟨hu.seen hk _, ((h.z.fn _ _ (by omega)).fn _ _ (by omega)).ff _ _ (by omega), (h.l.seenF hlim.1 (by omega) (by omega) _ _ _ _).fn _ _ (by decide), h.t.fG _ _ _ (by decide), h.a.fG _ _ _ (by decide), h.b.sum i _, h.c.fG _ _ _ (by decide), h.d.fG _ _ _ (by decide), h.e.fG _ _ _ (by decide), h.f, (h.g.mono (fun _ _ => Int.le_refl _) (by omega)).fG _ _ _ (by decide), h.p.fG _ _ _ (by decide), h.x.fG _ _ _ (by decide), h.j, h.k.fG _ _ _ (by decide)⟩
theorem u2_row {α : Type} (G : Nat → Nat → α) (i k : Nat) (v : α) : u2 G i k v i = u1 (G i) k v := by unfold u2; rw [u1_eq]
theorem bop_sim (h : Rl R kp s q) (hk : kp ≤ 2000000000) (hv : v.toInt = (i : Int)) (hi : i < (Int.toNat (Int32.toInt (s.n 0)))) (hp : (q.F 20 i).toInt < 24) {x : Int32} {j : Nat} (hx : x.toInt = (j : Int)) (hj : j < 8) (y : Int32) :
    ((q.F 0 j).toInt = 3 ∧ Rel R (kp + 1) (pbi i q) (bk0 q) (k_bind i x y s).1 (r_binds v x y q).1 ∧ (k_bind i x y s).2 = -1 ∧ (r_binds v x y q).2 = 1) ∨ (k_bind i x y s = (s, 5) ∧ r_binds v x y q = (q, 0)) := by
  have hu := h.u
  have hN := h.N200
  obtain ⟨m1, -⟩ := h.z.1 j hj
  have ex : x.toInt.toNat = j := by omega
  have hg := h.g i hi
  obtain ⟨⟨g1, g2, g3, g4, -⟩, -⟩ := id hg
  have g4 : (q.F 36 i).toInt ≤ (q.F 20 i).toInt := g4
  unfold k_bind r_binds
  rw [ex, ix_nat hx, m1]
  by_cases c : (q.F 0 j).toInt = 3
  · left
    rw [if_pos ⟨by omega, by omega, c⟩, if_pos c]
    obtain ⟨m, hm⟩ : ∃ m : Nat, (q.F 36 i).toInt = (m : Int) := ⟨(q.F 36 i).toInt.toNat, by omega⟩
    have e24 := (ix24 (s := q.F 36 i) (j := m) hv (by omega) hm (by omega)).1
    have eo : (q.n 44 + 1).toInt = (q.n 44).toInt + 1 := inc_toInt (by have := hu.2.2.2.2.2.2.1; omega)
    refine ⟨c, ?_, rfl, rfl⟩
    unfold k_bnd sco
    dsimp +instances only [c9n, c9f, c9T, c9G, c9K, c9F, q10F, q10n]
    have b1 : bnN (s.G i 14) = q.F 36 i + 1 := by unfold bnN; rw [g1, if_pos (by omega)]
    have b2 : ∀ (g : Nat → Int32) (w : Int32), bnF (s.G i 14) g w = upd g m w := fun g w => by unfold bnF; rw [g1, if_pos (by omega), ix_nat hm]
    rw [b1, b2, b2, b2, sco14, ix_nat hv, e24]
    have hS := hg.bind (p' := pbi i q i) hm (by omega) (by show _ ≤ if i = i then _ else _; rw [if_pos rfl]; omega) (pbi_le i q i) eo x y
    refine ⟨hu.opened hk, h.z, h.l, h.t.fG _ _ _ (by decide), h.a.fG _ _ _ (by decide), h.b.fG _ _ _ (by decide), h.c.fG _ _ _ (by decide), h.d.fG _ _ _ (by decide), h.e.fG _ _ _ (by decide), ((h.f.fF _ _ _ (by decide)).fF _ _ _ (by decide)).fF _ _ _ (by decide), ?_, h.p.fG _ _ _ (by decide), (((h.x.fG _ _ _ (by decide)).fF _ _ _ (by decide)).fF _ _ _ (by decide)).fF _ _ _ (by decide), h.j, h.k.fG _ _ _ (by decide)⟩
    refine h.g.set i ?_ (fun a ha => u2_n1 _ _ _ ha) (fun a ha => by dsimp +instances only [c9n, c9f, c9T, c9G, c9K, c9F, q10F, q10n]; rw [u2_n1 _ _ _ ha, u2_n1 _ _ _ ha, u2_n1 _ _ _ ha] <;> rfl) (fun _ _ => rfl) (fun a ha => upd_n _ _ ha) (fun _ _ => rfl) (fun a k ha hk => row_n _ _ (by omega) ha hk) (fun a k ha hk => row_n _ _ (by omega) ha hk) (fun _ _ _ _ => rfl) (fun _ _ _ _ => rfl) (fun a k ha hk => row_n _ _ (by omega) ha hk) (fun _ _ _ _ => rfl) (fun a _ _ => pbi_le i q a) (by omega) (by show (q.n 44).toInt ≤ (q.n 44 + 1).toInt; omega)
    have e37 := row_s (q.F 37) i m x
    have e38 := row_s (q.F 38) i m y
    have e42 := row_s (q.F 42) i m (q.n 44)
    show RS1 (pbi i q i) (kp + 1) (u2 s.G i 14 (q.F 36 i + 1) i) (u2 (u2 (u2 s.F i 3 _) i 4 _) i 5 _ i) (q.n 44 + 1) (q.F 13 i) (upd (q.F 36) i (q.F 36 i + 1) i) (fun k => upd (q.F 37) (24 * i + m) x (24 * i + k)) (fun k => upd (q.F 38) (24 * i + m) y (24 * i + k)) (q.F 39 i) _ _ (fun k => upd (q.F 42) (24 * i + m) (q.n 44) (24 * i + k)) _
    rw [e37, e38, e42, upd_s, u2_row, u2_row, u2_row, u2_row]
    exact hS.mono (Int.le_refl _) (by omega)
  · right
    rw [if_neg (fun z => c z.2.2), if_neg c]
    exact ⟨rfl, rfl⟩
end

section
variable {R : Nat} {kp : Int} {pb : Nat → Int} {bk : Nat → Nat → Prop} {s : C9} {q : Q10} {i : Nat} {v : Int32}
theorem free_sim (h : Rl R kp s q) (hv : v.toInt = (i : Int)) (hi : i < (Int.toNat (Int32.toInt (s.n 0)))) (a : Int32) :
    (frP (s.G i 14) (s.F i 3) a ∧ (r_frees v a q).2 = 1 ∧ Rl R kp (sco i (frN (s.G i 14) (s.F i 3) a) (s.G i 15) (s.G i 16) (C9.mk s.n s.f s.T s.G s.K (u2 s.F i 3 (s.F i 3)))) (r_frees v a q).1) ∨ (¬ frP (s.G i 14) (s.F i 3) a ∧ r_frees v a q = (q, 0) ∧ sco i (frN (s.G i 14) (s.F i 3) a) (s.G i 15) (s.G i 16) (C9.mk s.n s.f s.T s.G s.K (u2 s.F i 3 (s.F i 3))) = s) := by
  have hN := h.N200
  have hg := h.g i hi
  obtain ⟨⟨g1, g2, g3, g4, -⟩, g7, -⟩ := id hg
  obtain ⟨m, hm⟩ : ∃ m : Nat, (q.F 36 i).toInt = (m : Int) := ⟨(q.F 36 i).toInt.toNat, by omega⟩
  have ed : (q.F 36 i - 1).toInt = (q.F 36 i).toInt - 1 := dec_toInt (by omega)
  have hP : frP (s.G i 14) (s.F i 3) a ↔ 0 < m ∧ (q.F 37 (24 * i + (m - 1))).toInt = a.toInt := by
    unfold frP
    rw [g1]
    constructor
    · rintro ⟨z1, z2, z3⟩
      rw [ix_nat (i := m - 1) (by omega), (g7 (m - 1) (by omega)).1] at z3
      exact ⟨by omega, z3⟩
    · rintro ⟨z1, z2⟩
      rw [ix_nat (i := m - 1) (by omega), (g7 (m - 1) (by omega)).1]
      exact ⟨by omega, by omega, z2⟩
  have hX : 0 < m → (q.F 37 (Int32.toNatClampNeg (24 * v + q.F 36 (Int32.toNatClampNeg v) - 1))) = q.F 37 (24 * i + (m - 1)) := fun h0 => by
    rw [ix_nat hv]
    have e1 := (ix24 (s := q.F 36 i) (j := m) hv (by omega) hm (by omega)).2
    have e2 : (24 * v + q.F 36 i - 1).toInt = (24 * v + q.F 36 i).toInt - 1 := dec_toInt (by omega)
    rw [ix_nat (i := 24 * i + (m - 1)) (by omega)] <;> rfl
  unfold r_frees
  by_cases c : frP (s.G i 14) (s.F i 3) a
  · left
    have c' := hP.mp c
    refine ⟨c, ?_⟩
    rw [if_neg (show ¬ (q.F 36 (Int32.toNatClampNeg v)).toInt = 0 by rw [ix_nat hv]; omega), if_neg (show ¬ ¬ (q.F 37 (Int32.toNatClampNeg (24 * v + q.F 36 (Int32.toNatClampNeg v) - 1))).toInt = a.toInt from fun z => z (by rw [hX c'.1]; exact c'.2))]
    refine ⟨rfl, ?_⟩
    unfold sco frN
    dsimp +instances only [c9n, c9f, c9T, c9G, c9K, c9F, q10F, q10n]
    rw [if_pos c, sco14, g1, u2_id, ix_nat hv]
    refine ⟨h.u, h.z, h.l, h.t.fG _ _ _ (by decide), h.a.fG _ _ _ (by decide), h.b.fG _ _ _ (by decide), h.c.fG _ _ _ (by decide), h.d.fG _ _ _ (by decide), h.e.fG _ _ _ (by decide), h.f, ?_, h.p.fG _ _ _ (by decide), h.x.fG _ _ _ (by decide), h.j, h.k.fG _ _ _ (by decide)⟩
    refine h.g.set i ?_ (fun a ha => u2_n1 _ _ _ ha) (fun _ _ => rfl) (fun _ _ => rfl) (fun a ha => upd_n _ _ ha) (fun _ _ => rfl) (fun _ _ _ _ => rfl) (fun _ _ _ _ => rfl) (fun _ _ _ _ => rfl) (fun _ _ _ _ => rfl) (fun _ _ _ _ => rfl) (fun _ _ _ _ => rfl) (fun _ _ _ => Int.le_refl _) (Int.le_refl _) (Int.le_refl _)
    have z := hg.less (b := q.F 36 i - 1) (by omega) (by omega)
    show RS1 _ _ (u2 s.G i 14 (q.F 36 i - 1) i) _ _ _ (upd (q.F 36) i (q.F 36 i - 1) i) _ _ _ _ _ _ _
    rw [u2_row, upd_s]
    exact z
  · right
    refine ⟨c, ?_, ?_⟩
    · by_cases c0 : (q.F 36 (Int32.toNatClampNeg v)).toInt = 0
      · rw [if_pos c0] <;> rfl
      · rw [if_neg c0]
        rw [ix_nat hv] at c0
        have h0 : 0 < m := by omega
        rw [if_pos (show ¬ (q.F 37 (Int32.toNatClampNeg (24 * v + q.F 36 (Int32.toNatClampNeg v) - 1))).toInt = a.toInt from fun z => c (hP.mpr ⟨h0, by rw [← hX h0]; exact z⟩))] <;> rfl
    · unfold sco frN
      dsimp +instances only [c9n, c9f, c9T, c9G, c9K, c9F, q10F, q10n]
      rw [if_neg c, sco0, u2_id]
      rfl
theorem try_sim (h : Rl R kp s q) (hk : kp ≤ 2000000000) (hv : v.toInt = (i : Int)) (hi : i < (Int.toNat (Int32.toInt (s.n 0)))) (hs : (q.F 13 i).toInt = 1) (hp : (q.F 20 i).toInt < 24) {a b : Int32} (hb1 : (q.F 20 i).toInt < b.toInt) (hb2 : b.toInt ≤ 24) :
    Rel R (kp + 1) (pbi i q) (bk0 q) (C9.mk (sco i (s.G i 14) (bnN (s.G i 15)) (bnM (s.G i 15) (s.G i 16)) s).n (sco i (s.G i 14) (bnN (s.G i 15)) (bnM (s.G i 15) (s.G i 16)) s).f (sco i (s.G i 14) (bnN (s.G i 15)) (bnM (s.G i 15) (s.G i 16)) s).T (sco i (s.G i 14) (bnN (s.G i 15)) (bnM (s.G i 15) (s.G i 16)) s).G (sco i (s.G i 14) (bnN (s.G i 15)) (bnM (s.G i 15) (s.G i 16)) s).K (u2 (u2 (u2 s.F i 6 (bnF (s.G i 15) (s.F i 6) a)) i 7 (bnF (s.G i 15) (s.F i 7) b)) i 8 (bnF (s.G i 15) (s.F i 8) (s.G i 16))))
      ⟨upF (upF (upF (upF q.F 39 (upd (q.F 39) (Int32.toNatClampNeg v) (q.F 39 (Int32.toNatClampNeg v) + 1))) 40 (upd (q.F 40) (Int32.toNatClampNeg (24 * v + q.F 39 (Int32.toNatClampNeg v))) a)) 41 (upd (q.F 41) (Int32.toNatClampNeg (24 * v + q.F 39 (Int32.toNatClampNeg v))) b)) 43 (upd (q.F 43) (Int32.toNatClampNeg (24 * v + q.F 39 (Int32.toNatClampNeg v))) (q.n 44)), q.n⟩ := by
  have hN := h.N200
  have hg := h.g i hi
  obtain ⟨⟨g1, g2, g3, g4, -⟩, -, -, g9⟩ := id hg
  have hn : ¬ ((q.F 13 i).toInt = 3 ∨ (q.F 13 i).toInt = 4) := by omega
  obtain ⟨⟨t1, t2, t3, t4⟩, -⟩ := g9 hn
  have g4 : (q.F 36 i).toInt ≤ (q.F 20 i).toInt := g4
  have t4 : (q.F 39 i).toInt ≤ (q.F 20 i).toInt := t4
  obtain ⟨m, hm⟩ : ∃ m : Nat, (q.F 39 i).toInt = (m : Int) := ⟨(q.F 39 i).toInt.toNat, by omega⟩
  have e24 := (ix24 (s := q.F 39 i) (j := m) hv (by omega) hm (by omega)).1
  have b1 : bnN (s.G i 15) = q.F 39 i + 1 := by unfold bnN; rw [t1, if_pos (by omega)]
  have b3 : bnM (s.G i 15) (s.G i 16) = s.G i 16 + 1 := by unfold bnM; rw [t1, if_pos (by omega)]
  have b2 : ∀ (g : Nat → Int32) (w : Int32), bnF (s.G i 15) g w = upd g m w := fun g w => by unfold bnF; rw [t1, if_pos (by omega), ix_nat hm]
  unfold sco
  dsimp +instances only [c9n, c9f, c9T, c9G, c9K, c9F, q10F, q10n]
  rw [b1, b3, b2, b2, b2, sco1516, ix_nat hv, e24]
  have hS := hg.try_ (p' := pbi i q i) (kp' := kp + 1) hn hm (by omega) (by show _ ≤ if i = i then _ else _; rw [if_pos rfl]; omega) (pbi_le i q i) (Int.le_refl _) (by omega) (a := a) (b := b) (by omega) (by omega) hb2
  refine ⟨h.u.mono (by omega), h.z, h.l, (h.t.fG _ _ _ (by decide)).fG _ _ _ (by decide), (h.a.fG _ _ _ (by decide)).fG _ _ _ (by decide), (h.b.fG _ _ _ (by decide)).fG _ _ _ (by decide), (h.c.fG _ _ _ (by decide)).fG _ _ _ (by decide), (h.d.fG _ _ _ (by decide)).fG _ _ _ (by decide), (h.e.fG _ _ _ (by decide)).fG _ _ _ (by decide), ((h.f.fF _ _ _ (by decide)).fF _ _ _ (by decide)).fF _ _ _ (by decide), ?_, (h.p.fG _ _ _ (by decide)).fG _ _ _ (by decide), ((((h.x.fG _ _ _ (by decide)).fG _ _ _ (by decide)).fF _ _ _ (by decide)).fF _ _ _ (by decide)).fF _ _ _ (by decide), h.j, (h.k.fG _ _ _ (by decide)).fG _ _ _ (by decide)⟩
  refine h.g.set i ?_ (fun a ha => by dsimp +instances only [c9n, c9f, c9T, c9G, c9K, c9F, q10F, q10n]; rw [u2_n1 _ _ _ ha, u2_n1 _ _ _ ha] <;> rfl) (fun a ha => by dsimp +instances only [c9n, c9f, c9T, c9G, c9K, c9F, q10F, q10n]; rw [u2_n1 _ _ _ ha, u2_n1 _ _ _ ha, u2_n1 _ _ _ ha] <;> rfl) (fun _ _ => rfl) (fun _ _ => rfl) (fun a ha => upd_n _ _ ha) (fun _ _ _ _ => rfl) (fun _ _ _ _ => rfl) (fun a k ha hk => row_n _ _ (by omega) ha hk) (fun a k ha hk => row_n _ _ (by omega) ha hk) (fun _ _ _ _ => rfl) (fun a k ha hk => row_n _ _ (by omega) ha hk) (fun a _ _ => pbi_le i q a) (by omega) (Int.le_refl _)
  have e40 := row_s (q.F 40) i m a
  have e41 := row_s (q.F 41) i m b
  have e43 := row_s (q.F 43) i m (q.n 44)
  show RS1 (pbi i q i) (kp + 1) (u2 (u2 s.G i 15 (q.F 39 i + 1)) i 16 _ i) (u2 (u2 (u2 s.F i 6 _) i 7 _) i 8 _ i) (q.n 44) (q.F 13 i) (q.F 36 i) _ _ (upd (q.F 39) i (q.F 39 i + 1) i) (fun k => upd (q.F 40) (24 * i + m) a (24 * i + k)) (fun k => upd (q.F 41) (24 * i + m) b (24 * i + k)) _ (fun k => upd (q.F 43) (24 * i + m) (q.n 44) (24 * i + k))
  rw [e40, e41, e43, upd_s, u2_row, u2_row, u2_row, u2_row, u2_row]
  exact hS
theorem done_sim (h : Rl R kp s q) (hv : v.toInt = (i : Int)) (hi : i < (Int.toNat (Int32.toInt (s.n 0)))) (hs : (q.F 13 i).toInt = 1) :
    (s.G i 15 = q.F 39 i) ∧ (0 < (q.F 39 i).toInt → Rl R kp (sco i (s.G i 14) (ctN (s.G i 15)) (s.G i 16) s) ⟨upF q.F 39 (upd (q.F 39) (Int32.toNatClampNeg v) (q.F 39 (Int32.toNatClampNeg v) - 1)), q.n⟩) ∧ (¬ 0 < (q.F 39 i).toInt → sco i (s.G i 14) (ctN (s.G i 15)) (s.G i 16) s = s) := by
  have hN := h.N200
  have hg := h.g i hi
  obtain ⟨-, -, -, g9⟩ := id hg
  have hn : ¬ ((q.F 13 i).toInt = 3 ∨ (q.F 13 i).toInt = 4) := by omega
  obtain ⟨⟨t1, t2, t3, t4⟩, -⟩ := g9 hn
  refine ⟨t1, fun c => ?_, fun c => ?_⟩
  · have b1 : ctN (s.G i 15) = q.F 39 i - 1 := by unfold ctN; rw [t1, if_pos c]
    have ed : (q.F 39 i - 1).toInt = (q.F 39 i).toInt - 1 := dec_toInt (by omega)
    unfold sco
    try dsimp +instances only [c9n, c9f, c9T, c9G, c9K, c9F, q10F, q10n]
    rw [b1, sco15, ix_nat hv]
    refine ⟨h.u, h.z, h.l, h.t.fG _ _ _ (by decide), h.a.fG _ _ _ (by decide), h.b.fG _ _ _ (by decide), h.c.fG _ _ _ (by decide), h.d.fG _ _ _ (by decide), h.e.fG _ _ _ (by decide), h.f, ?_, h.p.fG _ _ _ (by decide), h.x.fG _ _ _ (by decide), h.j, h.k.fG _ _ _ (by decide)⟩
    refine h.g.set i ?_ (fun a ha => u2_n1 _ _ _ ha) (fun _ _ => rfl) (fun _ _ => rfl) (fun _ _ => rfl) (fun a ha => upd_n _ _ ha) (fun _ _ _ _ => rfl) (fun _ _ _ _ => rfl) (fun _ _ _ _ => rfl) (fun _ _ _ _ => rfl) (fun _ _ _ _ => rfl) (fun _ _ _ _ => rfl) (fun _ _ _ => Int.le_refl _) (Int.le_refl _) (Int.le_refl _)
    have z := hg.lessT hn (b := q.F 39 i - 1) (by omega) (by omega)
    show RS1 _ _ (u2 s.G i 15 (q.F 39 i - 1) i) _ _ _ _ _ _ (upd (q.F 39) i (q.F 39 i - 1) i) _ _ _ _
    rw [u2_row, upd_s]
    exact z
  · unfold sco ctN
    rw [t1, if_neg c, ← t1, sco0]
    rfl
end

section
variable {N : Nat} {F : Nat → Nat → Nat → Int32} {m a18 a33 a34 a35 : Nat → Int32}
theorem st8_eq {g : Nat → Int32} {x y : Int32} {j : Nat} (hx : x.toInt = (j : Int)) (hj : j < 8) : st8 g x y = upd g j y := by unfold st8; rw [if_pos (by omega), ix_nat hx]
theorem RF.write (h : RF N F m a18 a33 a34 a35) {r j : Nat} (hj : j < 8) (y : Int32) (hc : ¬ (m j).toInt = 0 ∨ ¬ (a18 r).toInt = -1) :
    RF N (u2 (u2 F r 0 (upd (F r 0) j 1)) r 1 (upd (F r 1) j y)) m a18 a33 (upd a34 (8 * r + j) y) (upd a35 (8 * r + j) 1) := fun i k hi hk => by
  have t1 : (1 : Int32).toInt = 1 := by decide
  have z := h i k hi hk
  have e2 : u2 (u2 F r 0 (upd (F r 0) j 1)) r 1 (upd (F r 1) j y) i 2 = F i 2 := by rw [u2_n2 _ _ _ _ (by decide), u2_n2 _ _ _ _ (by decide)] <;> rfl
  by_cases e : i = r
  · subst e
    have e0 : u2 (u2 F i 0 (upd (F i 0) j 1)) i 1 (upd (F i 1) j y) i 0 = upd (F i 0) j 1 := by rw [u2_n2 _ _ _ _ (by decide), u2_eq] <;> rfl
    have e1 : u2 (u2 F i 0 (upd (F i 0) j 1)) i 1 (upd (F i 1) j y) i 1 = upd (F i 1) j y := u2_eq _ _ _ _
    rw [e2, e0, e1]
    by_cases ek : k = j
    · subst ek
      rw [upd_s, upd_s, upd_s, upd_s]
      refine ⟨z.1, fun _ => ⟨⟨fun _ => by omega, fun _ => by omega⟩, fun _ => rfl⟩, fun q1 q2 => ?_⟩
      rcases hc with c | c
      · exact absurd q1 c
      · exact absurd q2 c
    · rw [upd_n _ _ ek, upd_n _ _ ek, upd_n _ _ (show 8 * i + k ≠ 8 * i + j by omega), upd_n _ _ (show 8 * i + k ≠ 8 * i + j by omega)]
      exact z
  · have e0 : u2 (u2 F r 0 (upd (F r 0) j 1)) r 1 (upd (F r 1) j y) i = F i := by rw [u2_n1 _ _ _ e, u2_n1 _ _ _ e]
    rw [e0, upd_n _ _ (show 8 * i + k ≠ 8 * r + j by omega), upd_n _ _ (show 8 * i + k ≠ 8 * r + j by omega)]
    exact z
end
section
variable {R : Nat} {kp : Int} {pb : Nat → Int} {bk : Nat → Nat → Prop} {s : C9} {q : Q10} {i : Nat} {v : Int32}
theorem write_sim (h : Rel R kp pb bk s q) (hv : v.toInt = (i : Int)) (hi : i < (Int.toNat (Int32.toInt (s.n 0)))) (hs : (q.F 13 i).toInt = 1) {x : Int32} {j : Nat} (hx : x.toInt = (j : Int)) (hj : j < 8) (y : Int32) :
    ((k_write i x y s).2 = -1 ∧ (r_writes v x y q).2 = 1 ∧ Rel R kp pb bk (k_write i x y s).1 (r_writes v x y q).1) ∨ (k_write i x y s = (s, 5) ∧ r_writes v x y q = (q, 0)) := by
  have hN := h.N200
  have ex : x.toInt.toNat = j := by omega
  obtain ⟨m1, -⟩ := h.z.1 j hj
  have hA := h.a i hi
  have hr : rt9 s.K i < (Int.toNat (Int32.toInt (s.n 0))) := hA.2.2.1.1
  have er : q.F 16 i = Int32.ofNat (rt9 s.K i) := hA.2.1.2.1.symm
  have hR : (q.F 16 i).toInt = (rt9 s.K i : Int) := by rw [er]; exact ofNat_toInt (by omega)
  have e8 := ix8 hv (by omega) hx hj
  have e8r := ix8 hR (by omega) hx hj
  have h18 := ((h.b i hi).2.2.2.1 hs).1
  unfold k_write r_writes
  rw [if_pos (show 0 ≤ x.toInt ∧ x.toInt < 8 by omega), ex, ix_nat hx, m1, ix_nat hv, e8, e8r]
  by_cases c2 : (q.F 0 j).toInt = 2
  · left
    have c3 : ¬ (q.F 0 j).toInt = 3 := by omega
    rw [if_pos c2, if_neg c3, if_pos c2]
    refine ⟨rfl, rfl, ?_⟩
    unfold k_mem
    dsimp +instances only [c9n, c9f, c9T, c9G, c9K, c9F, q10F, q10n]
    rw [st8_eq hx hj, st8_eq hx hj]
    exact ⟨h.u, h.z, h.l, h.t, h.a, h.b, h.c, h.d, h.e, h.f.write hj y (Or.inl (by omega)), (h.g.fF _ _ _ (by decide)).fF _ _ _ (by decide), h.p, (h.x.fF _ _ _ (by decide)).fF _ _ _ (by decide), h.j, h.k⟩
  · rw [if_neg c2]
    by_cases c3 : (q.F 0 j).toInt = 3
    · rw [if_pos c3, if_pos c3]
      rcases bind_sim (x := x) h hv hi with w | ⟨k, k1, k2, k3, k4, k5⟩
      · right
        rw [if_neg (show ¬ (0 ≤ inn (s.G i 14) (s.F i 3) x 24 ∧ inn (s.G i 14) (s.F i 3) x 24 < 24) by omega), if_pos w.2]
        refine ⟨?_, rfl⟩
        unfold k_rebind sco rbF
        dsimp +instances only [c9n, c9f, c9T, c9G, c9K, c9F, q10F, q10n]
        rw [if_neg (show ¬ (0 ≤ inn (s.G i 14) (s.F i 3) x 24 ∧ inn (s.G i 14) (s.F i 3) x 24 < 24) by omega), sco0, u2_id, u2_id]
        rfl
      · left
        rw [if_pos (show (0 ≤ inn (s.G i 14) (s.F i 3) x 24 ∧ inn (s.G i 14) (s.F i 3) x 24 < 24) by omega), if_neg (show ¬ (r_binding v x q).toInt = -1 by omega)]
        refine ⟨rfl, rfl, ?_⟩
        unfold k_rebind sco rbF
        dsimp +instances only [c9n, c9f, c9T, c9G, c9K, c9F, q10F, q10n]
        rw [if_pos (show (0 ≤ inn (s.G i 14) (s.F i 3) x 24 ∧ inn (s.G i 14) (s.F i 3) x 24 < 24) by omega), sco0, u2_id, k3, k4]
        refine ⟨h.u, h.z, h.l, h.t, h.a, h.b, h.c, h.d, h.e, h.f.fF _ _ _ (by decide), ?_, h.p, h.x.fF _ _ _ (by decide), h.j, h.k⟩
        refine h.g.set i ?_ (fun _ _ => rfl) (fun a ha => u2_n1 _ _ _ ha) (fun _ _ => rfl) (fun _ _ => rfl) (fun _ _ => rfl) (fun _ _ _ _ => rfl) (fun a b ha hb => row_n _ _ (by omega) ha hb) (fun _ _ _ _ => rfl) (fun _ _ _ _ => rfl) (fun _ _ _ _ => rfl) (fun _ _ _ _ => rfl) (fun _ _ _ => Int.le_refl _) (Int.le_refl _) (Int.le_refl _)
        have e38 := row_s (q.F 38) i k y
        have z := (h.g i hi).value k y
        show RS1 _ _ _ (u2 s.F i 4 _ i) _ _ _ _ (fun b => upd (q.F 38) (24 * i + k) y (24 * i + b)) _ _ _ _ _
        rw [e38, u2_row]
        exact z
    · left
      rw [if_neg c3, if_neg c3, if_neg c2]
      refine ⟨rfl, rfl, ?_⟩
      unfold k_mem
      dsimp +instances only [c9n, c9f, c9T, c9G, c9K, c9F, q10F, q10n]
      rw [st8_eq hx hj, st8_eq hx hj]
      exact ⟨h.u, h.z, h.l, h.t, h.a, h.b, h.c, h.d, h.e, h.f.write hj y (Or.inr (by omega)), (h.g.fF _ _ _ (by decide)).fF _ _ _ (by decide), h.p, (h.x.fF _ _ _ (by decide)).fF _ _ _ (by decide), h.j, h.k⟩
theorem map_snoc (g : Nat → Int32) (m : Nat) (b : Int32) : (List.range (m + 1)).map (upd g m b) = (List.range m).map g ++ [b] := by
  rw [List.range_succ, List.map_append, List.map_singleton, upd_s]
  congr 1
  apply List.map_congr_left
  intro k hk
  exact upd_n _ _ (by have := List.mem_range.mp hk; omega)
theorem filter_snoc (a g : Nat → Int32) (w i : Nat) (r b : Int32) :
    ((List.range (w + 1)).filter (fun k => decide ((upd a w r k).toInt = (i : Int)))).map (upd g w b) = ((List.range w).filter (fun k => decide ((a k).toInt = (i : Int)))).map g ++ (if r.toInt = (i : Int) then [b] else []) := by
  rw [List.range_succ, List.filter_append, List.map_append]
  have e1 : (List.range w).filter (fun k => decide ((upd a w r k).toInt = (i : Int))) = (List.range w).filter (fun k => decide ((a k).toInt = (i : Int))) := by
    apply List.filter_congr
    intro k hk
    rw [upd_n _ _ (by have := List.mem_range.mp hk; omega)] <;> rfl
  rw [e1]
  congr 1
  · apply List.map_congr_left
    intro k hk
    have := List.mem_range.mp (List.mem_filter.mp hk).1
    exact upd_n _ _ (by omega)
  · by_cases e : r.toInt = (i : Int)
    · rw [if_pos e, List.filter_cons_of_pos (by rw [upd_s]; exact decide_eq_true e), List.filter_nil, List.map_singleton, upd_s] <;> rfl
    · rw [if_neg e, List.filter_cons_of_neg (by rw [upd_s, decide_eq_false e]; simp), List.filter_nil, List.map_nil] <;> rfl
theorem remark_sim (h : Rel R kp pb bk s q) (hR : R + 1 ≤ 310000) (hv : v.toInt = (i : Int)) (hi : i < (Int.toNat (Int32.toInt (s.n 0)))) (b : Int32) :
    (q.n 46).toInt < 310000 ∧ Rel (R + 1) kp pb bk (k_rem (rt9 s.K i) b s) ⟨upF (upF q.F 53 (upd (q.F 53) (Int32.toNatClampNeg (q.n 46)) (q.F 16 (Int32.toNatClampNeg v)))) 54 (upd (q.F 54) (Int32.toNatClampNeg (q.n 46)) b), upn q.n 46 (q.n 46 + 1)⟩ := by
  have hN := h.N200
  have hA := h.a i hi
  have hr : rt9 s.K i < (Int.toNat (Int32.toInt (s.n 0))) := hA.2.2.1.1
  have hr0 : s.K (rt9 s.K i) 0 = none := hA.2.2.1.2
  have er : q.F 16 i = Int32.ofNat (rt9 s.K i) := hA.2.1.2.1.symm
  have hRt : (q.F 16 i).toInt = (rt9 s.K i : Int) := by rw [er]; exact ofNat_toInt (by omega)
  obtain ⟨x1, x2, x3⟩ := h.x
  obtain ⟨r1, r2, r3⟩ := x3 _ hr hr0
  obtain ⟨w, hw⟩ : ∃ w : Nat, (q.n 46).toInt = (w : Int) := ⟨(q.n 46).toInt.toNat, by omega⟩
  obtain ⟨m, hm⟩ : ∃ m : Nat, (s.G (rt9 s.K i) 23).toInt = (m : Int) := ⟨(s.G (rt9 s.K i) 23).toInt.toNat, by omega⟩
  have e46 : (q.n 46 + 1).toInt = (w : Int) + 1 := by rw [inc_toInt (by omega), hw] <;> rfl
  have n1 := aN_in (us := s.G (rt9 s.K i) 23) (lm := s.G (rt9 s.K i) 22) (by omega)
  refine ⟨by omega, ?_⟩
  unfold k_rem
  rw [aF_in (m := m) (by omega) hm, ix_nat hv, ix_nat hw]
  refine ⟨h.u, h.z, h.l, h.t.fG _ _ _ (by decide), h.a.fG _ _ _ (by decide), h.b.fG _ _ _ (by decide), h.c.fG _ _ _ (by decide), h.d.fG _ _ _ (by decide), h.e.fG _ _ _ (by decide), h.f.fF _ _ _ (by decide), (h.g.fG _ _ _ (by decide)).fF _ _ _ (by decide), h.p.fG _ _ _ (by decide), ?_, h.j, h.k.fG _ _ _ (by decide)⟩
  refine ⟨⟨by show 0 ≤ (q.n 46 + 1).toInt; omega, by show (q.n 46 + 1).toInt ≤ ((R + 1 : Nat) : Int); omega⟩, fun k hk => ?_, fun a ha h0 => ?_⟩
  · have hk : (k : Int) < (q.n 46 + 1).toInt := hk
    show 0 ≤ (upd (q.F 53) w (q.F 16 i) k).toInt ∧ (upd (q.F 53) w (q.F 16 i) k).toInt < _ ∧ s.K (upd (q.F 53) w (q.F 16 i) k).toInt.toNat 0 = none
    by_cases e : k = w
    · subst e; rw [upd_s, hRt]; exact ⟨by omega, by show (rt9 s.K i : Int) < ((s.n 0).toInt.toNat : Int); omega, by rw [Int.toNat_natCast]; exact hr0⟩
    · rw [upd_n _ _ e]; exact x2 k (by omega)
  · obtain ⟨y1, y2, y3⟩ := x3 a ha h0
    have eF := filter_snoc (q.F 53) (q.F 54) w a (q.F 16 i) b
    have ew : (q.n 46).toInt.toNat = w := by omega
    have ew1 : (q.n 46 + 1).toInt.toNat = w + 1 := by omega
    rw [ew] at y3
    show (u2 s.G (rt9 s.K i) 23 _ a 22).toInt = 1048576 ∧ (0 ≤ (u2 s.G (rt9 s.K i) 23 _ a 23).toInt ∧ (u2 s.G (rt9 s.K i) 23 _ a 23).toInt ≤ ((R + 1 : Nat) : Int)) ∧ (List.range (u2 s.G (rt9 s.K i) 23 _ a 23).toInt.toNat).map (u2 s.F (rt9 s.K i) 9 _ a 9) = ((List.range (q.n 46 + 1).toInt.toNat).filter (fun k => decide ((upd (q.F 53) w (q.F 16 i) k).toInt = (a : Int)))).map (upd (q.F 54) w b)
    rw [ew1, eF, ← y3, u2_n2 _ _ _ _ (show (22 : Nat) ≠ 23 by decide)]
    by_cases e : a = rt9 s.K i
    · subst e
      rw [u2_eq, u2_eq, if_pos hRt, show (aN (s.G (rt9 s.K i) 23) (s.G (rt9 s.K i) 22)).toInt.toNat = m + 1 by omega, map_snoc, show (s.G (rt9 s.K i) 23).toInt.toNat = m by omega]
      exact ⟨y1, ⟨by omega, by omega⟩, rfl⟩
    · rw [u2_n1 _ _ _ e, u2_n1 _ _ _ e, if_neg (by omega), List.append_nil]
      exact ⟨y1, ⟨y2.1, by omega⟩, rfl⟩
end

/- ---------- leaving a THREAD, asking HANDLERS ---------- -/
theorem leave_spec (i : Nat) (s : C9) (h3 : 0 ≤ (s.G i 3).toInt ∧ (s.G i 3).toInt < 6) :
    ∃ F' : Nat → Nat → Nat → Int32, k_leave i s = ⟨s.n, s.f, u1 s.T ((Int.toNat (Int32.toInt (s.G i 3)))) none, u2 s.G i 3 (-1), s.K, F'⟩ ∧ (∀ a : Nat, a ≠ i → F' a = s.F a) ∧ (∀ k : Nat, k ≠ 0 → F' i k = s.F i k) ∧ ∀ j : Nat, j < 8 → F' i 0 j = if (s.f 0 j).toInt = 0 then 0 else s.F i 0 j := by
  unfold k_leave
  dsimp +instances only [c9n, c9f, c9T, c9G, c9K, c9F, q10F, q10n]
  rw [if_pos h3]
  have key := itr_inv (P := fun r : C9 => ∃ F' : Nat → Nat → Nat → Int32, r = ⟨s.n, s.f, u1 s.T ((Int.toNat (Int32.toInt (s.G i 3)))) none, u2 s.G i 3 (-1), s.K, F'⟩ ∧ (∀ a : Nat, a ≠ i → F' a = s.F a) ∧ (∀ k : Nat, k ≠ 0 → F' i k = s.F i k) ∧ ∀ j : Nat, j < 8 → F' i 0 j = if (s.f 0 j).toInt = 0 then 0 else s.F i 0 j)
    (I := fun c (r : C9) => ∃ F' : Nat → Nat → Nat → Int32, r = ⟨s.n, s.f, u1 s.T ((Int.toNat (Int32.toInt (s.G i 3)))) none, u2 s.G i 3 (-1), s.K, F'⟩ ∧ (∀ a : Nat, a ≠ i → F' a = s.F a) ∧ (∀ k : Nat, k ≠ 0 → F' i k = s.F i k) ∧ ∀ j : Nat, j < 8 → F' i 0 j = if j < c ∧ (s.f 0 j).toInt = 0 then 0 else s.F i 0 j)
    (b := b_leave i) (fin := fun s => s) (N := 8)
    (fun r hr => by
      obtain ⟨F', e1, e2, e3, e4⟩ := hr
      refine ⟨F', e1, e2, e3, fun j hj => ?_⟩
      rw [e4 j hj]
      by_cases c : (s.f 0 j).toInt = 0
      · rw [if_pos ⟨hj, c⟩, if_pos c] <;> rfl
      · rw [if_neg (fun z => c z.2), if_neg c])
    (fun c r k hc hr hk => by
      obtain ⟨F', e1, e2, e3, e4⟩ := hr
      unfold b_leave
      rw [e1]
      dsimp +instances only [c9n, c9f, c9T, c9G, c9K, c9F, q10F, q10n]
      by_cases m : (s.f 0 c).toInt = 0
      · rw [if_pos m]
        refine hk _ ⟨u2 F' i 0 (st8 (F' i 0) (Int32.ofNat c) 0), rfl, fun a ha => by rw [u2_n1 _ _ _ ha]; exact e2 a ha, fun k hk => by rw [u2_n2 _ _ _ _ hk]; exact e3 k hk, fun j hj => ?_⟩
        rw [u2_eq, st8_eq (ofNat_toInt (by omega)) hc]
        by_cases e : j = c
        · subst e; rw [upd_s, if_pos ⟨by omega, m⟩] <;> rfl
        · rw [upd_n _ _ e, e4 j hj]
          by_cases z : j < c ∧ (s.f 0 j).toInt = 0
          · rw [if_pos z, if_pos ⟨by omega, z.2⟩] <;> rfl
          · rw [if_neg z, if_neg (fun w => z ⟨by omega, w.2⟩)] <;> rfl
      · rw [if_neg m]
        refine hk _ ⟨F', rfl, e2, e3, fun j hj => ?_⟩
        rw [e4 j hj]
        by_cases z : j < c ∧ (s.f 0 j).toInt = 0
        · rw [if_pos z, if_pos ⟨by omega, z.2⟩] <;> rfl
        · rw [if_neg z, if_neg (fun w => z ⟨by
            have : j ≠ c := fun e => m (by rw [← e]; exact w.2)
            omega, w.2⟩)])
    8 0 (C9.mk s.n s.f (u1 s.T ((Int.toNat (Int32.toInt (s.G i 3)))) none) (u2 s.G i 3 (-1)) s.K s.F) rfl ⟨s.F, rfl, fun _ _ => rfl, fun _ _ => rfl, fun j hj => by rw [if_neg (by omega)] <;> rfl⟩
  exact key
section
variable {N : Nat} {T : Nat → Option Nat} {G G' : Nat → Nat → Int32} {K : Nat → Nat → Option Nat} {F F' : Nat → Nat → Nat → Int32} {pb : Nat → Int} {kp : Int} {R : Nat} {o w : Int32} {m a10 a13 a18 a33 a34 a35 a36 a37 a38 a39 a40 a41 a42 a43 a53 a54 a28 a29 a30 a31 a32 a24 a25 : Nat → Int32}
theorem RS.cF (h : RS N pb kp G F o a13 a36 a37 a38 a39 a40 a41 a42 a43) (e : ∀ a k : Nat, 3 ≤ k → k ≤ 8 → F' a k = F a k) : RS N pb kp G F' o a13 a36 a37 a38 a39 a40 a41 a42 a43 := fun i hi => by
  have z := h i hi
  unfold RS1 at *
  simp only [e i 3 (by decide) (by decide), e i 4 (by decide) (by decide), e i 5 (by decide) (by decide), e i 6 (by decide) (by decide), e i 7 (by decide) (by decide), e i 8 (by decide) (by decide)]
  exact z
theorem RX.cF (h : RX N R G K F w a53 a54) (e : ∀ a : Nat, F' a 9 = F a 9) : RX N R G K F' w a53 a54 := ⟨h.1, h.2.1, fun i hi h0 => by rw [e i]; exact h.2.2 i hi h0⟩
theorem RF.leave (h : RF N F m a18 a33 a34 a35) (i : Nat) (e2 : ∀ a : Nat, a ≠ i → F' a = F a) (e3 : ∀ k : Nat, k ≠ 0 → F' i k = F i k) (e4 : ∀ j : Nat, j < 8 → F' i 0 j = if (m j).toInt = 0 then 0 else F i 0 j) (hon : ¬ (a18 i).toInt = -1) : RF N F' m (upd a18 i (-1)) a33 a34 a35 := fun a j ha hj => by
  have z := h a j ha hj
  by_cases e : a = i
  · subst e
    have t : (-1 : Int32).toInt = -1 := by decide
    have t0 : (0 : Int32).toInt = 0 := by decide
    rw [upd_s, e3 2 (by decide), e3 1 (by decide), e4 j hj]
    refine ⟨z.1, fun q => ?_, fun q _ => by rw [if_pos q, t0] <;> rfl⟩
    have hm : ¬ (m j).toInt = 0 := q.elim id (fun w => absurd t w)
    rw [if_neg hm]
    exact z.2.1 (Or.inl hm)
  · rw [upd_n _ _ e, e2 a e]; exact z
theorem RT.leave (h : RT N T G a10) {i t : Nat} (hi : i < N) (ht : (G i 3).toInt = (t : Int)) (h6 : t < 6) : RT N (u1 T t none) (u2 G i 3 (-1)) (upd a10 t (-1)) := by
  obtain ⟨h1, h2, h3⟩ := h
  have tm : (-1 : Int32).toInt = -1 := by decide
  refine ⟨fun b hb => ?_, fun b a hab => ?_, fun a ha h0 => ?_⟩
  · by_cases e : b = t
    · subst e; rw [u1_eq, upd_s]; rfl
    · rw [u1_ne _ _ e, upd_n _ _ e]; exact h1 b hb
  · by_cases e : b = t
    · subst e; rw [u1_eq] at hab; cases hab
    · rw [u1_ne _ _ e] at hab
      have z := h2 b a hab
      have : a ≠ i := fun q => by subst q; omega
      rw [u2_n1 _ _ _ this]; exact z
  · by_cases e : a = i
    · subst e; rw [u2_eq] at h0; omega
    · rw [u2_n1 _ _ _ e] at h0 ⊢
      have z := h3 a ha h0
      have z2 := (h2 _ _ z).2.2
      rw [u1_ne _ _ (fun q => by
        rw [q] at z
        have w := h3 i hi (by omega)
        rw [ht] at w
        rw [show ((t : Int)).toNat = t by omega, z] at w
        exact e (Option.some.inj w))]
      exact z
theorem RC.over (h : RC N G a13 a24 a25) (i : Nat) {st : Int32} (hs : st.toInt = 3 ∨ st.toInt = 4) (ht : (a25 i).toInt = 0) (hb : (a24 i).toInt = 0) (h9 : (G i 9).toInt = 0) : RC N G (upd a13 i st) a24 a25 := fun j hj => by
  have z := h j hj
  by_cases e : j = i
  · subst e; rw [upd_s]
    exact ⟨z.1, z.2.1, fun _ => ⟨fun q => absurd hb q, fun q => by omega⟩, fun q => by omega, fun _ => ⟨ht, hb, h9⟩, z.2.2.2.2.2⟩
  · rw [upd_n _ _ e]; exact z
theorem RE.over (h : RE N G K a13 a28 a29 a30 a31 a32) (i : Nat) {st : Int32} (hs : st.toInt = 3 ∨ st.toInt = 4) (h1 : ¬ (a13 i).toInt = 4) (h4 : st.toInt = 4 → G i 17 = a28 i ∧ G i 18 = a29 i ∧ G i 19 = a30 i ∧ G i 20 = a31 i ∧ (G i 21).toInt = 0 ∧ 0 ≤ (a28 i).toInt ∧ (a28 i).toInt ≤ 7) : RE N G K (upd a13 i st) a28 a29 a30 a31 a32 := fun j hj => by
  have z := h j hj
  by_cases e : j = i
  · subst e
    have hu : (a32 j).toInt = 0 := Classical.byContradiction (fun q => h1 (z.2 q).1)
    rw [upd_s]
    exact ⟨fun q => ⟨(h4 q).1, (h4 q).2.1, (h4 q).2.2.1, (h4 q).2.2.2.1, ⟨fun w => absurd (h4 q).2.2.2.2.1 w, fun w => absurd hu w⟩, (h4 q).2.2.2.2.2⟩, fun q => absurd hu q⟩
  · rw [upd_n _ _ e]
    refine ⟨z.1, fun q => ⟨(z.2 q).1, fun g hg => ?_⟩⟩
    by_cases eg : g = i
    · subst eg; rw [upd_s]; exact hs
    · rw [upd_n _ _ eg]; exact (z.2 q).2 g hg
theorem RE.ask (h : RE N G K a13 a28 a29 a30 a31 a32) {i : Nat} (h4 : (a13 i).toInt = 4) (hg : ∀ g : Nat, K i 0 = some g → (a13 g).toInt = 3 ∨ (a13 g).toInt = 4) : RE N (u2 G i 21 1) K a13 a28 a29 a30 a31 (upd a32 i 1) := fun j hj => by
  have t : (1 : Int32).toInt = 1 := by decide
  have z := h j hj
  rw [u2_n2 _ _ _ _ (show (17 : Nat) ≠ 21 by decide), u2_n2 _ _ _ _ (show (18 : Nat) ≠ 21 by decide), u2_n2 _ _ _ _ (show (19 : Nat) ≠ 21 by decide), u2_n2 _ _ _ _ (show (20 : Nat) ≠ 21 by decide)]
  by_cases e : j = i
  · subst e; rw [u2_eq, upd_s]
    exact ⟨fun q => ⟨(z.1 q).1, (z.1 q).2.1, (z.1 q).2.2.1, (z.1 q).2.2.2.1, ⟨fun _ => by omega, fun _ => by omega⟩, (z.1 q).2.2.2.2.2⟩, fun _ => ⟨h4, hg⟩⟩
  · rw [u2_n1 _ _ _ e, upd_n _ _ e]; exact z
end
theorem cU9_le (f : Nat → Int32) (k : Nat) : cU9 f k ≤ k := by
  induction k with
  | zero => exact Nat.le_refl _
  | succ k ih => unfold cU9; split <;> omega
theorem cU9_ge {f : Nat → Int32} {i : Nat} {x : Int32} (k : Nat) (h : k ≤ i) : cU9 (upd f i x) k = cU9 f k := by
  induction k with
  | zero => rfl
  | succ k ih => unfold cU9; rw [ih (by omega), upd_n _ _ (by omega)] <;> rfl
theorem cU9_set {f : Nat → Int32} {i : Nat} {x : Int32} (h0 : f i = 0) (hx : ¬ x = 0) (k : Nat) (h : i < k) : cU9 (upd f i x) k = cU9 f k + 1 := by
  induction k with
  | zero => omega
  | succ k ih =>
    unfold cU9
    by_cases e : i = k
    · subst e; rw [cU9_ge _ (Nat.le_refl _), upd_s, if_neg hx, if_pos h0] <;> rfl
    · rw [ih (by omega), upd_n _ _ (fun q => e q.symm)]; omega

section
variable {kp : Int} {n qn : Nat → Int32}
theorem RU.asked (h : RU kp n qn) (hc : (qn 47).toInt < 2147483647) (x : Int32) : RU kp (u1 (u1 n 19 x) 4 (n 4 + 1)) (upn qn 47 (qn 47 + 1)) := by
  obtain ⟨⟨c0, c1, c2, c3, c4, c5⟩, h2, h3, h4, h5, h6, h7, h8⟩ := h
  have e1 : (qn 47 + 1).toInt = (qn 47).toInt + 1 := inc_toInt hc
  refine ⟨⟨c0, c1, c2, c3, ?_, c5⟩, h2, h3, h4, by show 0 ≤ (qn 47 + 1).toInt; omega, h6, h7, h8⟩
  show n 4 + 1 = qn 47 + 1
  rw [c4] <;> rfl
end
theorem hAt_eq {g : Nat → Int32} {x : Int32} (h : 0 ≤ x.toInt ∧ x.toInt < 17) : hAt g x = g (Int32.toNatClampNeg x) := by unfold hAt; rw [if_pos h]
/-- what asking leaves as it was -/
def AskF (s s' : C9) (q q' : Q10) : Prop := (s'.G = s.G) ∧ (s'.K = s.K) ∧ (s'.T = s.T) ∧ (s'.F = s.F) ∧ (s'.n 0 = s.n 0) ∧ (s'.n 2 = s.n 2) ∧ (∀ k : Nat, k < 55 → q'.F k = q.F k) ∧ (q'.n 11 = q.n 11) ∧ (q'.n 12 = q.n 12)
theorem AskF.G {s s' : C9} {q q' : Q10} (hh_ : AskF s s' q q') : s'.G = s.G := hh_.1
theorem AskF.K {s s' : C9} {q q' : Q10} (hh_ : AskF s s' q q') : s'.K = s.K := hh_.2.1
theorem AskF.T {s s' : C9} {q q' : Q10} (hh_ : AskF s s' q q') : s'.T = s.T := hh_.2.2.1
theorem AskF.F {s s' : C9} {q q' : Q10} (hh_ : AskF s s' q q') : s'.F = s.F := hh_.2.2.2.1
theorem AskF.n0 {s s' : C9} {q q' : Q10} (hh_ : AskF s s' q q') : s'.n 0 = s.n 0 := hh_.2.2.2.2.1
theorem AskF.n2 {s s' : C9} {q q' : Q10} (hh_ : AskF s s' q q') : s'.n 2 = s.n 2 := hh_.2.2.2.2.2.1
theorem AskF.Q {s s' : C9} {q q' : Q10} (hh_ : AskF s s' q q') : ∀ k : Nat, k < 55 → q'.F k = q.F k := hh_.2.2.2.2.2.2.1
theorem AskF.q11 {s s' : C9} {q q' : Q10} (hh_ : AskF s s' q q') : q'.n 11 = q.n 11 := hh_.2.2.2.2.2.2.2.1
theorem AskF.q12 {s s' : C9} {q q' : Q10} (hh_ : AskF s s' q q') : q'.n 12 = q.n 12 := hh_.2.2.2.2.2.2.2.2
section
variable {R : Nat} {kp : Int} {pb : Nat → Int} {bk : Nat → Nat → Prop} {s : C9} {q : Q10} {i : Nat} {v : Int32}
theorem a_ask_sim {P : C9 → Q10 → Prop} {c : Nat} {o o' x : Int32} {b : Int} {s0 : C9} {q0 : Q10} {k : C9 × Int32 → C9} {k' : Q10 × Int32 → Q10} (h : Rel R kp pb bk s q) (hA : AskF s0 s q0 q) (hb : (q.n 47).toInt ≤ b) (hb2 : b + 1 ≤ 3 * (cU9 (q.F 32) ((Int.toNat (Int32.toInt (s.n 0)))) : Int)) (hi : i < (Int.toNat (Int32.toInt (s.n 0)))) (hv : v.toInt = (i : Int)) (hx : 0 ≤ x.toInt ∧ x.toInt < 17) (hc : c < 3) (ho : ¬ o.toInt = 0) (ho' : ¬ o'.toInt = 0)
    (hk : ∀ (s' : C9) (q' : Q10) (w w' : Int32), Rel R kp pb bk s' q' → AskF s0 s' q0 q' → (q'.n 47).toInt ≤ b + 1 → (¬ w.toInt = 0 ↔ ¬ w'.toInt = 0) → P (k (s', w)) (k' (q', w'))) : P (a_ask i c x (s, o) k) (a_asks v x c (q, o') k') := by
  have hN := h.N200
  have hu := h.u
  have hlim := hu.2.2.2.2.2.2.2
  have h47 := hu.2.2.2.2.1
  have hle := cU9_le (q.F 32) ((Int.toNat (Int32.toInt (s.n 0))))
  have ev := h.num hi hv
  have e17 : Int32.toNatClampNeg x < 17 := by show x.toInt.toNat < 17; omega
  obtain ⟨f1, f2, f3⟩ := h.z.2.2 _ e17
  have t1 : (1 : Int32).toInt = 1 := by decide
  have t0 : (0 : Int32).toInt = 0 := by decide
  have e47 : (q.n 47 + 1).toInt = (q.n 47).toInt + 1 := inc_toInt (by omega)
  unfold a_ask a_asks
  dsimp +instances only [c9n, c9f, c9T, c9G, c9K, c9F, q10F, q10n]
  rw [hAt_eq hx, hAt_eq hx, hAt_eq hx, f1, f2, f3]
  by_cases c6 : (q.F 6 (Int32.toNatClampNeg x)).toInt = 0
  · rw [if_neg (show ¬ ¬ (q.F 6 (Int32.toNatClampNeg x)).toInt = 0 from fun z => z c6), if_neg (show ¬ ¬ (q.F 6 (Int32.toNatClampNeg x)).toInt = 0 from fun z => z c6)]
    exact hk s q o o' h hA (by omega) ⟨fun _ => ho', fun _ => ho⟩
  · rw [if_pos c6, if_pos c6]
    have hJ : Q6 ((Int.toNat (Int32.toInt (s.n 0)))) (q.F 32) (q.n 47 + 1) := by unfold Q6; omega
    by_cases c7 : (q.F 7 (Int32.toNatClampNeg x)).toInt = 0
    · rw [if_neg (show ¬ ¬ (q.F 7 (Int32.toNatClampNeg x)).toInt = 0 from fun z => z c7), k_led_eq (by decide)]
      dsimp +instances only [c9n, c9f, c9T, c9G, c9K, c9F, q10F, q10n]
      rw [u1_ne s.n _ (show 4 ≠ 19 by decide), ev]
      by_cases e : (q.n 47).toInt < 600
      · rw [if_pos e, if_neg (show ¬ ¬ (q.F 7 (Int32.toNatClampNeg x)).toInt = 0 from fun z => z c7)]
        refine hk _ _ _ _ ⟨hu.asked (by omega) _, ((h.z.fn _ _ (by omega)).fn _ _ (by omega)).ff _ _ (by omega), (h.l.asked hlim.2.1 h47 e _ _ _ _).fn _ _ (by decide), h.t, h.a, h.b, h.c, h.d, h.e, h.f, h.g, h.p, h.x, hJ, h.k⟩ ⟨hA.G, hA.K, hA.T, hA.F, hA.n0, hA.n2, fun k hk => ?_, hA.q11, hA.q12⟩ (by show (q.n 47 + 1).toInt ≤ _; omega) ⟨fun z => absurd t0 z, fun z => absurd c7 z⟩
        rw [← hA.Q k hk]
        show upF (upF (upF (upF q.F 55 _) 56 _) 57 _) 58 _ k = q.F k
        rw [upF_lt _ _ (by omega), upF_lt _ _ (by omega), upF_lt _ _ (by omega), upF_lt _ _ (by omega)] <;> rfl
      · rw [if_neg e]
        exact hk _ _ _ _ ⟨hu.asked (by omega) _, ((h.z.fn _ _ (by omega)).fn _ _ (by omega)).ff _ _ (by omega), (h.l.askedF hlim.2.1 (by omega) (by omega) _ _ _ _).fn _ _ (by decide), h.t, h.a, h.b, h.c, h.d, h.e, h.f, h.g, h.p, h.x, hJ, h.k⟩ ⟨hA.G, hA.K, hA.T, hA.F, hA.n0, hA.n2, hA.Q, hA.q11, hA.q12⟩ (by show (q.n 47 + 1).toInt ≤ _; omega) ⟨fun z => absurd t0 z, fun z => absurd c7 z⟩
    · rw [if_pos c7, k_led_eq (by decide)]
      dsimp +instances only [c9n, c9f, c9T, c9G, c9K, c9F, q10F, q10n]
      rw [u1_ne s.n _ (show 4 ≠ 19 by decide), ev]
      by_cases e : (q.n 47).toInt < 600
      · rw [if_pos e, if_pos c7]
        refine hk _ _ _ _ ⟨hu.asked (by omega) _, ((h.z.fn _ _ (by omega)).fn _ _ (by omega)).ff _ _ (by omega), (h.l.asked hlim.2.1 h47 e _ _ _ _).fn _ _ (by decide), h.t, h.a, h.b, h.c, h.d, h.e, h.f, h.g, h.p, h.x, hJ, h.k⟩ ⟨hA.G, hA.K, hA.T, hA.F, hA.n0, hA.n2, fun k hk => ?_, hA.q11, hA.q12⟩ (by show (q.n 47 + 1).toInt ≤ _; omega) ⟨fun _ => c7, fun _ => by omega⟩
        rw [← hA.Q k hk]
        show upF (upF (upF (upF q.F 55 _) 56 _) 57 _) 58 _ k = q.F k
        rw [upF_lt _ _ (by omega), upF_lt _ _ (by omega), upF_lt _ _ (by omega), upF_lt _ _ (by omega)] <;> rfl
      · rw [if_neg e]
        exact hk _ _ _ _ ⟨hu.asked (by omega) _, ((h.z.fn _ _ (by omega)).fn _ _ (by omega)).ff _ _ (by omega), (h.l.askedF hlim.2.1 (by omega) (by omega) _ _ _ _).fn _ _ (by decide), h.t, h.a, h.b, h.c, h.d, h.e, h.f, h.g, h.p, h.x, hJ, h.k⟩ ⟨hA.G, hA.K, hA.T, hA.F, hA.n0, hA.n2, hA.Q, hA.q11, hA.q12⟩ (by show (q.n 47 + 1).toInt ≤ _; omega) ⟨fun _ => c7, fun _ => by omega⟩
theorem ask_sim (h : Rel R kp pb bk s q) (hi : i < (Int.toNat (Int32.toInt (s.n 0)))) (hv : v.toInt = (i : Int)) (h4 : (q.F 13 i).toInt = 4) (h0 : q.F 32 i = 0) (hg : ∀ g : Nat, s.K i 0 = some g → (q.F 13 g).toInt = 3 ∨ (q.F 13 g).toInt = 4) :
    Rel R kp pb bk (k_ask i s) (r_asks v q) ∧ AskF (C9.mk s.n s.f s.T (u2 s.G i 21 1) s.K s.F) (k_ask i s) ⟨upF q.F 32 (upd (q.F 32) i 1), q.n⟩ (r_asks v q) := by
  have hN := h.N200
  have t1 : (1 : Int32).toInt = 1 := by decide
  have n1 : ¬ (1 : Int32) = 0 := by decide
  have hc := cU9_set (x := 1) h0 n1 ((Int.toNat (Int32.toInt (s.n 0)))) hi
  have hj := h.j
  unfold Q6 at hj
  have e1 : s.G i 1 = q.F 14 i := (h.a i hi).1.2.1
  have b14 := (h.a i hi).2.2.2.1
  have hE := (h.e i hi).1 h4
  have e17 : s.G i 17 = q.F 28 i := hE.1
  have b28 := hE.2.2.2.2.2
  have h1 : Rel R kp pb bk (C9.mk s.n s.f s.T (u2 s.G i 21 1) s.K s.F) ⟨upF q.F 32 (upd (q.F 32) i 1), q.n⟩ := ⟨h.u, h.z, h.l, h.t.fG _ _ _ (by decide), h.a.fG _ _ _ (by decide), h.b.fG _ _ _ (by decide), h.c.fG _ _ _ (by decide), h.d.fG _ _ _ (by decide), h.e.ask h4 hg, h.f, h.g.fG _ _ _ (by decide), h.p.fG _ _ _ (by decide), h.x.fG _ _ _ (by decide), by show (q.n 47).toInt ≤ 3 * (cU9 (upd (q.F 32) i 1) ((Int.toNat (Int32.toInt (s.n 0)))) : Int); omega, h.k.fG _ _ _ (by decide)⟩
  unfold k_ask r_asks
  rw [ix_nat hv]
  refine itr_itr (P := fun r r' => Rel R kp pb bk r r' ∧ AskF (C9.mk s.n s.f s.T (u2 s.G i 21 1) s.K s.F) r ⟨upF q.F 32 (upd (q.F 32) i 1), q.n⟩ r')
    (I := fun c (p : C9 × Int32) (p' : Q10 × Int32) => Rel R kp pb bk p.1 p'.1 ∧ AskF (C9.mk s.n s.f s.T (u2 s.G i 21 1) s.K s.F) p.1 ⟨upF q.F 32 (upd (q.F 32) i 1), q.n⟩ p'.1 ∧ (p'.1.n 47).toInt ≤ (q.n 47).toInt + c ∧ (¬ p.2.toInt = 0 ↔ ¬ p'.2.toInt = 0)) (N := 3) (fun p p' hI => ⟨hI.1, hI.2.1⟩) ?_ 3 0 _ _ rfl ⟨h1, ⟨rfl, rfl, rfl, rfl, rfl, rfl, fun _ _ => rfl, rfl, rfl⟩, by show (q.n 47).toInt ≤ _; omega, ⟨fun _ => by omega, fun _ => by omega⟩⟩
  intro c p p' k k' hc3 hI hk
  obtain ⟨p1, p2⟩ := p
  obtain ⟨p1', p2'⟩ := p'
  obtain ⟨r1, r2, r3, r4⟩ := hI
  dsimp +instances only [c9n, c9f, c9T, c9G, c9K, c9F, q10F, q10n] at r1 r2 r3 r4
  unfold b_ask b_asks
  dsimp +instances only [c9n, c9f, c9T, c9G, c9K, c9F, q10F, q10n]
  by_cases z : p2.toInt = 0
  · have z' : p2'.toInt = 0 := Classical.byContradiction (fun w => (r4.mpr w) z)
    rw [if_neg (fun w => w z), if_neg (fun w => w z')]
    exact ⟨r1, r2⟩
  · have z' := r4.mp z
    rw [if_pos z, if_pos z']
    have hi' : i < (Int.toNat (Int32.toInt (p1.n 0))) := by rw [r2.n0]; exact hi
    have g1 : p1.G i 1 = q.F 14 i := by rw [r2.G]; show u2 s.G i 21 1 i 1 = _; rw [u2_n2 _ _ _ _ (by decide), e1]
    have g17 : p1.G i 17 = q.F 28 i := by rw [r2.G]; show u2 s.G i 21 1 i 17 = _; rw [u2_n2 _ _ _ _ (by decide), e17]
    have q14 : p1'.F 14 = q.F 14 := r2.Q 14 (by decide)
    have q28 : p1'.F 28 = q.F 28 := r2.Q 28 (by decide)
    have q32 : p1'.F 32 = upd (q.F 32) i 1 := r2.Q 32 (by decide)
    have hb2 : (q.n 47).toInt + c + 1 ≤ 3 * (cU9 (p1'.F 32) ((Int.toNat (Int32.toInt (p1.n 0)))) : Int) := by rw [q32, r2.n0]; show _ ≤ 3 * (cU9 (upd (q.F 32) i 1) ((Int.toNat (Int32.toInt (s.n 0)))) : Int); omega
    have kk : ∀ (s' : C9) (q' : Q10) (w w' : Int32), Rel R kp pb bk s' q' → AskF (C9.mk s.n s.f s.T (u2 s.G i 21 1) s.K s.F) s' ⟨upF q.F 32 (upd (q.F 32) i 1), q.n⟩ q' → (q'.n 47).toInt ≤ (q.n 47).toInt + c + 1 → (¬ w.toInt = 0 ↔ ¬ w'.toInt = 0) → Rel R kp pb bk (k (s', w)) (k' (q', w')) ∧ AskF (C9.mk s.n s.f s.T (u2 s.G i 21 1) s.K s.F) (k (s', w)) ⟨upF q.F 32 (upd (q.F 32) i 1), q.n⟩ (k' (q', w')) := fun s' q' w w' a1 a2 a3 a4 => hk (s', w) (q', w') ⟨a1, a2, by show (q'.n 47).toInt ≤ _; omega, a4⟩
    have t2 : (2 : Int32).toInt = 2 := by decide
    have oc : (Int32.ofNat c).toInt = (c : Int) := ofNat_toInt (by omega)
    rcases (show c = 0 ∨ c = 1 ∨ c = 2 by omega) with rfl | rfl | rfl
    · rw [if_pos rfl, if_pos rfl, g1, q14, ix_nat hv]
      have ex : hx32 (Int32.ofNat 0) (q.F 14 i) = q.F 14 i := by unfold hx32; rw [if_neg (by omega), if_pos ⟨by omega, b14⟩]
      rw [ex]
      exact a_ask_sim (P := fun r r' => Rel R kp pb bk r r' ∧ AskF (C9.mk s.n s.f s.T (u2 s.G i 21 1) s.K s.F) r ⟨upF q.F 32 (upd (q.F 32) i 1), q.n⟩ r') (x := q.F 14 i) r1 r2 r3 hb2 hi' hv (by omega) (by omega) z z' kk
    · rw [if_neg (by decide), if_neg (by decide), if_pos rfl, g17, q28, ix_nat hv]
      have ex : hx32 (Int32.ofNat 1) (q.F 28 i) = 8 + q.F 28 i := by unfold hx32; rw [if_neg (by omega), if_neg (by omega), if_pos ⟨by omega, by omega, by omega⟩]
      have e8 : (8 + q.F 28 i).toInt = 8 + (q.F 28 i).toInt := ar_add (by decide) rfl rfl (by omega)
      rw [ex]
      exact a_ask_sim (P := fun r r' => Rel R kp pb bk r r' ∧ AskF (C9.mk s.n s.f s.T (u2 s.G i 21 1) s.K s.F) r ⟨upF q.F 32 (upd (q.F 32) i 1), q.n⟩ r') (x := 8 + q.F 28 i) r1 r2 r3 hb2 hi' hv (by omega) (by omega) z z' kk
    · rw [if_neg (by decide), if_neg (by decide), if_neg (by decide)]
      have ex : hx32 (Int32.ofNat 2) (p1.G i 17) = 16 := by unfold hx32; rw [if_pos (by omega)]
      rw [ex]
      exact a_ask_sim (P := fun r r' => Rel R kp pb bk r r' ∧ AskF (C9.mk s.n s.f s.T (u2 s.G i 21 1) s.K s.F) r ⟨upF q.F 32 (upd (q.F 32) i 1), q.n⟩ r') (x := 16) r1 r2 r3 hb2 hi' hv (by decide) (by omega) z z' kk
end
