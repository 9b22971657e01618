/-- the class's state and the reference's, and loops, as plain functions -/
def u1 {α : Type} (f : Nat → α) (k : Nat) (v : α) : Nat → α := va_up f k v
theorem u1_eq {α : Type} (f : Nat → α) (k : Nat) (v : α) : u1 f k v k = v := va_up_self f k v
theorem u1_ne {α : Type} (f : Nat → α) {k j : Nat} (v : α) (h : j ≠ k) : u1 f k v j = f j := va_up_ne f v h
theorem u1_id {α : Type} (f : Nat → α) (k : Nat) : u1 f k (f k) = f := by
  funext j
  by_cases h : j = k
  · subst h; rw [u1_eq] <;> rfl
  · rw [u1_ne _ _ h] <;> rfl
def u2 {α : Type} (G : Nat → Nat → α) (i k : Nat) (v : α) : Nat → Nat → α := u1 G i (u1 (G i) k v)
theorem u2_eq {α : Type} (G : Nat → Nat → α) (i k : Nat) (v : α) : u2 G i k v i k = v := by unfold u2; rw [u1_eq, u1_eq]
theorem u2_n1 {α : Type} (G : Nat → Nat → α) {i a : Nat} (k : Nat) (v : α) (h : a ≠ i) : u2 G i k v a = G a := by unfold u2; rw [u1_ne _ _ h]
theorem u2_n2 {α : Type} (G : Nat → Nat → α) (i : Nat) {k b : Nat} (a : Nat) (v : α) (h : b ≠ k) : u2 G i k v a b = G a b := by
  unfold u2
  by_cases e : a = i
  · subst e; rw [u1_eq, u1_ne _ _ h] <;> rfl
  · rw [u1_ne _ _ e] <;> rfl
theorem u2_id {α : Type} (G : Nat → Nat → α) (i k : Nat) : u2 G i k (G i k) = G := by unfold u2; rw [u1_id, u1_id]
def upF (F : Nat → Nat → Int32) (k : Nat) (g : Nat → Int32) : Nat → Nat → Int32 := fun j => if j = k then g else F j
def upn (n : Nat → Int32) (k : Nat) (v : Int32) : Nat → Int32 := fun j => if j = k then v else n j
abbrev C9 : Type := (Nat → Int32) × (Nat → Nat → Int32) × (Nat → Option Nat) × (Nat → Nat → Int32) × (Nat → Nat → Option Nat) × (Nat → Nat → Nat → Int32)
def C9.n (s : C9) : Nat → Int32 := s.1
def C9.f (s : C9) : Nat → Nat → Int32 := s.2.1
def C9.T (s : C9) : Nat → Option Nat := s.2.2.1
def C9.G (s : C9) : Nat → Nat → Int32 := s.2.2.2.1
def C9.K (s : C9) : Nat → Nat → Option Nat := s.2.2.2.2.1
def C9.F (s : C9) : Nat → Nat → Nat → Int32 := s.2.2.2.2.2
abbrev C9.mk (n : Nat → Int32) (f : Nat → Nat → Int32) (T : Nat → Option Nat) (G : Nat → Nat → Int32) (K : Nat → Nat → Option Nat) (F : Nat → Nat → Nat → Int32) : C9 := (n, f, T, G, K, F)
theorem c9n (n : Nat → Int32) (f : Nat → Nat → Int32) (T : Nat → Option Nat) (G : Nat → Nat → Int32) (K : Nat → Nat → Option Nat) (F : Nat → Nat → Nat → Int32) : C9.n (C9.mk n f T G K F) = n := rfl
theorem c9f (n : Nat → Int32) (f : Nat → Nat → Int32) (T : Nat → Option Nat) (G : Nat → Nat → Int32) (K : Nat → Nat → Option Nat) (F : Nat → Nat → Nat → Int32) : C9.f (C9.mk n f T G K F) = f := rfl
theorem c9T (n : Nat → Int32) (f : Nat → Nat → Int32) (T : Nat → Option Nat) (G : Nat → Nat → Int32) (K : Nat → Nat → Option Nat) (F : Nat → Nat → Nat → Int32) : C9.T (C9.mk n f T G K F) = T := rfl
theorem c9G (n : Nat → Int32) (f : Nat → Nat → Int32) (T : Nat → Option Nat) (G : Nat → Nat → Int32) (K : Nat → Nat → Option Nat) (F : Nat → Nat → Nat → Int32) : C9.G (C9.mk n f T G K F) = G := rfl
theorem c9K (n : Nat → Int32) (f : Nat → Nat → Int32) (T : Nat → Option Nat) (G : Nat → Nat → Int32) (K : Nat → Nat → Option Nat) (F : Nat → Nat → Nat → Int32) : C9.K (C9.mk n f T G K F) = K := rfl
theorem c9F (n : Nat → Int32) (f : Nat → Nat → Int32) (T : Nat → Option Nat) (G : Nat → Nat → Int32) (K : Nat → Nat → Option Nat) (F : Nat → Nat → Nat → Int32) : C9.F (C9.mk n f T G K F) = F := rfl
theorem c9eta (s : C9) : s = C9.mk s.n s.f s.T s.G s.K s.F := rfl
abbrev Q10 : Type := (Nat → Nat → Int32) × (Nat → Int32)
def Q10.F (q : Q10) : Nat → Nat → Int32 := q.1
def Q10.n (q : Q10) : Nat → Int32 := q.2
abbrev Q10.mk (F : Nat → Nat → Int32) (n : Nat → Int32) : Q10 := (F, n)
theorem q10F (F : Nat → Nat → Int32) (n : Nat → Int32) : Q10.F (Q10.mk F n) = F := rfl
theorem q10n (F : Nat → Nat → Int32) (n : Nat → Int32) : Q10.n (Q10.mk F n) = n := rfl
/-- a loop that counts up; its body may end it -/
def itr {σ ρ : Type} (b : Nat → σ → (σ → ρ) → ρ) (fin : σ → ρ) (t k : Nat) (s : σ) : ρ :=
  match k with
  | 0 => fin s
  | k + 1 => b t s (fun s => itr b fin (t + 1) k s)
termination_by k
theorem itr_0 {σ ρ : Type} {b : Nat → σ → (σ → ρ) → ρ} {fin : σ → ρ} {t : Nat} {s : σ} : itr b fin t 0 s = fin s := by rw [itr] <;> rfl
theorem itr_s {σ ρ : Type} {b : Nat → σ → (σ → ρ) → ρ} {fin : σ → ρ} {t k : Nat} {s : σ} : itr b fin t (k + 1) s = b t s (itr b fin (t + 1) k) := by rw [itr] <;> rfl
theorem itr_go {σ ρ : Type} {b : Nat → σ → (σ → ρ) → ρ} {fin : σ → ρ} {t N : Nat} {s : σ} (h : t < N) : itr b fin t (N - t) s = b t s (itr b fin (t + 1) (N - (t + 1))) := by
  obtain ⟨k, hk⟩ : ∃ k, N - t = k + 1 := ⟨N - t - 1, by omega⟩
  rw [hk, show N - (t + 1) = k by omega, itr_s] <;> rfl
theorem itr_end {σ ρ : Type} {b : Nat → σ → (σ → ρ) → ρ} {fin : σ → ρ} {t N : Nat} {s : σ} (h : N ≤ t) : itr b fin t (N - t) s = fin s := by
  rw [show N - t = 0 by omega, itr_0] <;> rfl
/-- a loop that counts down to 0 -/
def dtr {σ ρ : Type} (b : Nat → σ → (σ → ρ) → ρ) (fin : σ → ρ) (k : Nat) (s : σ) : ρ :=
  match k with
  | 0 => fin s
  | k + 1 => b k s (fun s => dtr b fin k s)
termination_by k
theorem dtr_0 {σ ρ : Type} {b : Nat → σ → (σ → ρ) → ρ} {fin : σ → ρ} {s : σ} : dtr b fin 0 s = fin s := by rw [dtr] <;> rfl
theorem dtr_s {σ ρ : Type} {b : Nat → σ → (σ → ρ) → ρ} {fin : σ → ρ} {k : Nat} {s : σ} : dtr b fin (k + 1) s = b k s (dtr b fin k) := by rw [dtr] <;> rfl
/-- a loop along nextSibling -/
def cit {σ ρ : Type} (K : Nat → Nat → Option Nat) (b : Nat → σ → (σ → ρ) → ρ) (fin : σ → ρ) (k : Nat) (o : Option Nat) (s : σ) : ρ :=
  match k with
  | 0 => fin s
  | k + 1 => o.elim (fin s) (fun j => b j s (fun s => cit K b fin k (K j 4) s))
termination_by k
theorem cit_0 {σ ρ : Type} {K : Nat → Nat → Option Nat} {b : Nat → σ → (σ → ρ) → ρ} {fin : σ → ρ} {o : Option Nat} {s : σ} : cit K b fin 0 o s = fin s := by rw [cit] <;> rfl
theorem cit_n {σ ρ : Type} {K : Nat → Nat → Option Nat} {b : Nat → σ → (σ → ρ) → ρ} {fin : σ → ρ} {k : Nat} {s : σ} : cit K b fin (k + 1) none s = fin s := by rw [cit]; rfl
theorem cit_s {σ ρ : Type} {K : Nat → Nat → Option Nat} {b : Nat → σ → (σ → ρ) → ρ} {fin : σ → ρ} {k j : Nat} {s : σ} : cit K b fin (k + 1) (some j) s = b j s (cit K b fin k (K j 4)) := by rw [cit]; rfl
theorem cit_none {σ ρ : Type} {K : Nat → Nat → Option Nat} {b : Nat → σ → (σ → ρ) → ρ} {fin : σ → ρ} {s : σ} : cit K b fin 201 none s = fin s := by rw [show (201 : Nat) = 200 + 1 from rfl, cit_n] <;> rfl
theorem cit_fuel {σ ρ : Type} {K : Nat → Nat → Option Nat} {b : Nat → σ → (σ → ρ) → ρ} {fin : σ → ρ} {M : Nat} (h3 : ∀ i j : Nat, i < M → K i 4 = some j → j < M) (h4 : ∀ i j : Nat, i < M → K i 4 = some j → i < j) : ∀ (k l j : Nat), j < M → M - j ≤ k → M - j ≤ l → cit K b fin k (some j) = cit K b fin l (some j) := by
  intro k
  induction k with
  | zero => intro l j hj h _; omega
  | succ k ih =>
    intro l j hj h1 h2
    cases l with
    | zero => omega
    | succ l =>
      funext s
      rw [cit_s, cit_s]
      cases e : K j 4 with
      | none =>
        have : cit K b fin k none = cit K b fin l none := by
          funext s
          have z : ∀ m : Nat, cit K b fin m none s = fin s := fun m => by cases m with
            | zero => exact cit_0
            | succ m => exact cit_n
          rw [z k, z l] <;> rfl
        rw [this] <;> rfl
      | some j2 => rw [ih l j2 (h3 _ _ hj e) (by have := h4 _ _ hj e; omega) (by have := h4 _ _ hj e; omega)] <;> rfl
theorem cit_go {σ ρ : Type} {K : Nat → Nat → Option Nat} {b : Nat → σ → (σ → ρ) → ρ} {fin : σ → ρ} {M j : Nat} {s : σ} (h3 : ∀ i k j : Nat, i < M → K i k = some j → j < M) (h4 : ∀ i j : Nat, i < M → K i 4 = some j → i < j) (hM : M ≤ 200) (hj : j < M) : cit K b fin 201 (some j) s = b j s (cit K b fin 201 (K j 4)) := by
  rw [show (201 : Nat) = 200 + 1 from rfl, cit_s]
  cases e : K j 4 with
  | none =>
    have : cit K b fin 200 none = cit K b fin (200 + 1) none := by
      funext s
      rw [cit_n, show (200 : Nat) = 199 + 1 from rfl, cit_n] <;> rfl
    rw [this] <;> rfl
  | some j2 => rw [cit_fuel (M := M) (fun i j => h3 i 4 j) h4 200 (200 + 1) j2 (h3 _ _ _ hj e) (by omega) (by omega)] <;> rfl
theorem i_of {x : Int32} {k : Nat} (h : x.toInt = (k : Int)) : Int32.ofNat k = x := by
  have hx := Int32.toInt_lt x
  apply Int32.toInt_inj.mp
  rw [h, Int32.toInt_ofNat_of_lt (by omega)] <;> rfl
theorem ix_of {x : Int32} (h : 0 ≤ x.toInt) : Int32.ofNat (Int32.toNatClampNeg x) = x := i_of (show x.toInt = ((x.toInt.toNat : Nat) : Int) by omega)
theorem jx_of {x : Int32} (h : 0 ≤ x.toInt) : Int32.ofNat x.toInt.toNat = x := i_of (show x.toInt = ((x.toInt.toNat : Nat) : Int) by omega)
theorem nb1 : (vp_nar .boolean 1 : Int32) = 1 := by decide
theorem nb0 : (vp_nar .boolean 0 : Int32) = 0 := by decide
theorem ix_0 : Int32.toNatClampNeg 0 = 0 := by decide
