section P9b
variable {kc : Nat → ClassId} {ws : va_W} {ad ga gc : Nat → Nat} {M : Nat} {n : Nat → Int32} {f : Nat → Nat → Int32} {T : Nat → Option Nat} {G : Nat → Nat → Int32} {K : Nat → Nat → Option Nat} {F : Nat → Nat → Nat → Int32}
/-- one of the fixed cells (no ERRAND's) is another now -/
theorem Pic9.fx (h : Pic9 kc ws ad ga gc M n f T G K F) {j : Nat} (hj : j < 50) (hj2 : j < 4 ∨ 36 ≤ j) {ga' gc' : Nat → Nat} {n' : Nat → Int32} {f' : Nat → Nat → Int32} {T' : Nat → Option Nat} {x : Nat × va_E} (hx : x = fx9 kc ad ga' gc' M n' f' T' j)
    (ho : ∀ q : Nat, q < 50 → (q < 4 ∨ 36 ≤ q) → q ≠ j → fx9 kc ad ga' gc' M n' f' T' q = fx9 kc ad ga gc M n f T q) (hn : ∀ e : Nat, n' (6 + e) = n (6 + e) ∨ 8 ≤ e) (hf : ∀ q : Nat, 2 ≤ q → q < 26 → f' q = f q) (hga : ∀ q : Nat, 3 ≤ q → ga' q = ga q) (hgc : ∀ q : Nat, 3 ≤ q → gc' q = gc q) :
    Pic9 kc (ws.set j x) ad ga' gc' M n' f' T' G K F := by
  obtain ⟨h1, h2, h3, h4⟩ := h
  refine ⟨by rw [List.length_set]; exact h1, fun q hq hq2 => ?_, fun e he q hq => ?_, fun i2 hi2 q hq => ?_⟩
  · by_cases e : q = j
    · subst e
      rw [List.getElem?_set_self (by omega), hx]
    · rw [List.getElem?_set_ne (by omega), h2 q hq hq2, ho q hq hq2 e]
  · rw [List.getElem?_set_ne (by omega), h3 e he q hq]
    have e1 : n' (6 + e) = n (6 + e) := (hn e).resolve_right (by omega)
    have e2 : f' (2 + 3 * e) = f (2 + 3 * e) := hf _ (by omega) (by omega)
    have e3 : f' (3 + 3 * e) = f (3 + 3 * e) := hf _ (by omega) (by omega)
    have e4 : f' (4 + 3 * e) = f (4 + 3 * e) := hf _ (by omega) (by omega)
    unfold err9
    rw [e1, e2, e3, e4]
  · rw [List.getElem?_set_ne (by omega), h4 i2 hi2 q hq, hga _ (by omega), hgc _ (by omega)]
theorem s18 {q : Nat} (h : q < 50) (h2 : q < 4 ∨ 36 ≤ q) : q = 0 ∨ q = 1 ∨ q = 2 ∨ q = 3 ∨ q = 36 ∨ q = 37 ∨ q = 38 ∨ q = 39 ∨ q = 40 ∨ q = 41 ∨ q = 42 ∨ q = 43 ∨ q = 44 ∨ q = 45 ∨ q = 46 ∨ q = 47 ∨ q = 48 ∨ q = 49 := by omega
theorem Pic9.x9 (h : Pic9 kc ws ad ga gc M n f T G K F) (k p : Nat) (hk : k = 0 ∧ p = 5 ∨ k = 1 ∧ p = 7 ∨ k = 2 ∧ p = 8 ∨ k = 3 ∧ p = 10 ∨ k = 4 ∧ p = 12 ∨ k = 5 ∧ p = 14) (v : Int32) : Pic9 kc (ws.set 0 (ad 0, .inr (9, (x9L ad n).set p (.int v)))) ad ga gc M (u1 n k v) f T G K F := by
  refine h.fx (j := 0) (by omega) (by omega) ?_ (fun q hq hq2 hn => ?_) (fun e => Or.inl (u1_ne _ _ (by omega))) (fun _ _ _ => rfl) (fun _ _ => rfl) (fun _ _ => rfl)
  · rcases hk with ⟨rfl, rfl⟩ | ⟨rfl, rfl⟩ | ⟨rfl, rfl⟩ | ⟨rfl, rfl⟩ | ⟨rfl, rfl⟩ | ⟨rfl, rfl⟩ <;> rfl
  · have e : ∀ b : Nat, 6 ≤ b → u1 n k v b = n b := fun b hb => u1_ne _ _ (by omega)
    rcases s18 hq hq2 with rfl | rfl | rfl | rfl | rfl | rfl | rfl | rfl | rfl | rfl | rfl | rfl | rfl | rfl | rfl | rfl | rfl | rfl <;> simp [fx9, e] at hn ⊢
/-- manners, firsts, the HANDLERS' rows -/
theorem Pic9.fxA (h : Pic9 kc ws ad ga gc M n f T G K F) (j k : Nat) (hk : j = 1 ∧ k = 0 ∨ j = 2 ∧ k = 1 ∨ j = 37 ∧ k = 26 ∨ j = 38 ∧ k = 27 ∨ j = 39 ∧ k = 28) (g : Nat → Int32) {x : Nat × va_E} (hx : x = fx9 kc ad ga gc M n (u1 f k g) T j) : Pic9 kc (ws.set j x) ad ga gc M n (u1 f k g) T G K F := by
  refine h.fx (j := j) (by omega) (by omega) hx (fun q hq hq2 hn => ?_) (fun e => Or.inl rfl) (fun q h1 h2 => u1_ne _ _ (by omega)) (fun _ _ => rfl) (fun _ _ => rfl)
  have e : ∀ b : Nat, b ≠ k → u1 f k g b = f b := fun b hb => u1_ne _ _ hb
  rcases s18 hq hq2 with rfl | rfl | rfl | rfl | rfl | rfl | rfl | rfl | rfl | rfl | rfl | rfl | rfl | rfl | rfl | rfl | rfl | rfl <;> first | rfl | (simp only [fx9]; rw [e _ (by omega)])
theorem thA_up (ad : Nat → Nat) (T : Nat → Option Nat) (t : Nat) (o : Option Nat) : va_up (thA ad T) t (rA9 ad o) = thA ad (u1 T t o) := by
  funext q
  by_cases e : q = t
  · subst e
    rw [va_up_self]
    unfold thA
    rw [u1_eq]
  · rw [va_up_ne _ _ e]
    unfold thA
    rw [u1_ne _ _ e]
theorem Pic9.thr (h : Pic9 kc ws ad ga gc M n f T G K F) (t : Nat) (o : Option Nat) : Pic9 kc (ws.set 41 (ad 41, .inl (kc 3, 6, .inr (.inr (.inr (.inr (va_up (thA ad T) t (rA9 ad o)))))))) ad ga gc M n f (u1 T t o) G K F := by
  rw [thA_up]
  refine h.fx (j := 41) (by omega) (by omega) rfl (fun q hq hq2 hn => ?_) (fun e => Or.inl rfl) (fun _ _ _ => rfl) (fun _ _ => rfl) (fun _ _ => rfl)
  rcases s18 hq hq2 with rfl | rfl | rfl | rfl | rfl | rfl | rfl | rfl | rfl | rfl | rfl | rfl | rfl | rfl | rfl | rfl | rfl | rfl <;> first | rfl | exact absurd rfl hn
/-- the rows of readings (0), asked (1), turns (2): how many, and the array, which may be another -/
theorem Pic9.gr0 (h : Pic9 kc ws ad ga gc M n f T G K F) (a c : Nat) (u : Int32) (g : Nat → Int32) : Pic9 kc ((ws.set 43 (ad 43, .inr (0, [.int (n 15), .ref a, .int u]))).set 44 (a, .inl (kc 0, c, .inl g))) ad (u1 ga 0 a) (u1 gc 0 c) M (u1 n 16 u) (u1 f 29 g) T G K F := by
  obtain ⟨h1, h2, h3, h4⟩ := h
  refine ⟨by rw [List.length_set, List.length_set]; exact h1, fun q hq hq2 => ?_, fun e he q hq => ?_, fun i2 hi2 q hq => ?_⟩
  · by_cases e : q = 44
    · subst e; rw [List.getElem?_set_self (by rw [List.length_set]; omega)]; simp [fx9, u1_eq]
    · rw [List.getElem?_set_ne (by omega)]
      by_cases e' : q = 43
      · subst e'; rw [List.getElem?_set_self (by omega)]; simp [fx9, u1, va_up]
      · rw [List.getElem?_set_ne (by omega), h2 q hq hq2]
        rcases s18 hq hq2 with rfl | rfl | rfl | rfl | rfl | rfl | rfl | rfl | rfl | rfl | rfl | rfl | rfl | rfl | rfl | rfl | rfl | rfl <;> simp [fx9, x9L, u1, va_up] at e e' ⊢
  · rw [List.getElem?_set_ne (by omega), List.getElem?_set_ne (by omega), h3 e he q hq]
    unfold err9
    rw [u1_ne _ _ (show 6 + e ≠ 16 by omega), u1_ne _ _ (show 2 + 3 * e ≠ 29 by omega), u1_ne _ _ (show 3 + 3 * e ≠ 29 by omega), u1_ne _ _ (show 4 + 3 * e ≠ 29 by omega)]
  · rw [List.getElem?_set_ne (by omega), List.getElem?_set_ne (by omega), h4 i2 hi2 q hq, u1_ne _ _ (show 3 + i2 ≠ 0 by omega), u1_ne _ _ (show 3 + i2 ≠ 0 by omega)]
theorem Pic9.gr1 (h : Pic9 kc ws ad ga gc M n f T G K F) (a c : Nat) (u : Int32) (g : Nat → Int32) : Pic9 kc ((ws.set 46 (ad 46, .inr (0, [.int (n 18), .ref a, .int u]))).set 47 (a, .inl (kc 0, c, .inl g))) ad (u1 ga 1 a) (u1 gc 1 c) M (u1 n 19 u) (u1 f 30 g) T G K F := by
  obtain ⟨h1, h2, h3, h4⟩ := h
  refine ⟨by rw [List.length_set, List.length_set]; exact h1, fun q hq hq2 => ?_, fun e he q hq => ?_, fun i2 hi2 q hq => ?_⟩
  · by_cases e : q = 47
    · subst e; rw [List.getElem?_set_self (by rw [List.length_set]; omega)]; simp [fx9, u1_eq]
    · rw [List.getElem?_set_ne (by omega)]
      by_cases e' : q = 46
      · subst e'; rw [List.getElem?_set_self (by omega)]; simp [fx9, u1, va_up]
      · rw [List.getElem?_set_ne (by omega), h2 q hq hq2]
        rcases s18 hq hq2 with rfl | rfl | rfl | rfl | rfl | rfl | rfl | rfl | rfl | rfl | rfl | rfl | rfl | rfl | rfl | rfl | rfl | rfl <;> simp [fx9, x9L, u1, va_up] at e e' ⊢
  · rw [List.getElem?_set_ne (by omega), List.getElem?_set_ne (by omega), h3 e he q hq]
    unfold err9
    rw [u1_ne _ _ (show 6 + e ≠ 19 by omega), u1_ne _ _ (show 2 + 3 * e ≠ 30 by omega), u1_ne _ _ (show 3 + 3 * e ≠ 30 by omega), u1_ne _ _ (show 4 + 3 * e ≠ 30 by omega)]
  · rw [List.getElem?_set_ne (by omega), List.getElem?_set_ne (by omega), h4 i2 hi2 q hq, u1_ne _ _ (show 3 + i2 ≠ 1 by omega), u1_ne _ _ (show 3 + i2 ≠ 1 by omega)]
theorem Pic9.gr2 (h : Pic9 kc ws ad ga gc M n f T G K F) (a c : Nat) (u : Int32) (g : Nat → Int32) : Pic9 kc ((ws.set 48 (ad 48, .inr (0, [.int (n 20), .ref a, .int u]))).set 49 (a, .inl (kc 0, c, .inl g))) ad (u1 ga 2 a) (u1 gc 2 c) M (u1 n 21 u) (u1 f 31 g) T G K F := by
  obtain ⟨h1, h2, h3, h4⟩ := h
  refine ⟨by rw [List.length_set, List.length_set]; exact h1, fun q hq hq2 => ?_, fun e he q hq => ?_, fun i2 hi2 q hq => ?_⟩
  · by_cases e : q = 49
    · subst e; rw [List.getElem?_set_self (by rw [List.length_set]; omega)]; simp [fx9, u1_eq]
    · rw [List.getElem?_set_ne (by omega)]
      by_cases e' : q = 48
      · subst e'; rw [List.getElem?_set_self (by omega)]; simp [fx9, u1, va_up]
      · rw [List.getElem?_set_ne (by omega), h2 q hq hq2]
        rcases s18 hq hq2 with rfl | rfl | rfl | rfl | rfl | rfl | rfl | rfl | rfl | rfl | rfl | rfl | rfl | rfl | rfl | rfl | rfl | rfl <;> simp [fx9, x9L, u1, va_up] at e e' ⊢
  · rw [List.getElem?_set_ne (by omega), List.getElem?_set_ne (by omega), h3 e he q hq]
    unfold err9
    rw [u1_ne _ _ (show 6 + e ≠ 21 by omega), u1_ne _ _ (show 2 + 3 * e ≠ 31 by omega), u1_ne _ _ (show 3 + 3 * e ≠ 31 by omega), u1_ne _ _ (show 4 + 3 * e ≠ 31 by omega)]
  · rw [List.getElem?_set_ne (by omega), List.getElem?_set_ne (by omega), h4 i2 hi2 q hq, u1_ne _ _ (show 3 + i2 ≠ 2 by omega), u1_ne _ _ (show 3 + i2 ≠ 2 by omega)]
/-- an ERRAND's count, and its rows -/
theorem Pic9.er (h : Pic9 kc ws ad ga gc M n f T G K F) {e : Nat} (he : e < 8) {j : Nat} (hj : j < 4) {n' : Nat → Int32} {f' : Nat → Nat → Int32} {x : Nat × va_E} (hx : x = err9 kc ad n' f' e j) (ho : ∀ q : Nat, q < 4 → q ≠ j → err9 kc ad n' f' e q = err9 kc ad n f e q)
    (hn : ∀ q : Nat, q ≠ 6 + e → n' q = n q) (hf : ∀ q : Nat, q ≠ 2 + 3 * e → q ≠ 3 + 3 * e → q ≠ 4 + 3 * e → f' q = f q) : Pic9 kc (ws.set (4 + 4 * e + j) x) ad ga gc M n' f' T G K F := by
  obtain ⟨h1, h2, h3, h4⟩ := h
  refine ⟨by rw [List.length_set]; exact h1, fun q hq hq2 => ?_, fun e2 he2 q hq => ?_, fun i2 hi2 q hq => ?_⟩
  · rw [List.getElem?_set_ne (by omega), h2 q hq hq2]
    have a1 : ∀ b : Nat, b < 6 ∨ 14 ≤ b → n' b = n b := fun b hb => hn b (by omega)
    have a2 : ∀ b : Nat, b < 2 ∨ 26 ≤ b → f' b = f b := fun b hb => hf b (by omega) (by omega) (by omega)
    rcases s18 hq hq2 with rfl | rfl | rfl | rfl | rfl | rfl | rfl | rfl | rfl | rfl | rfl | rfl | rfl | rfl | rfl | rfl | rfl | rfl <;> simp [fx9, x9L, a1, a2]
  · by_cases ee : e2 = e
    · subst ee
      by_cases ej : q = j
      · subst ej; rw [List.getElem?_set_self (by omega), hx]
      · rw [List.getElem?_set_ne (by omega), h3 e2 he2 q hq, ho q hq ej]
    · rw [List.getElem?_set_ne (by omega), h3 e2 he2 q hq]
      unfold err9
      rw [hn (6 + e2) (by omega), hf (2 + 3 * e2) (by omega) (by omega) (by omega), hf (3 + 3 * e2) (by omega) (by omega) (by omega), hf (4 + 3 * e2) (by omega) (by omega) (by omega)]
  · rw [List.getElem?_set_ne (by omega), h4 i2 hi2 q hq]
theorem Pic9.erN (h : Pic9 kc ws ad ga gc M n f T G K F) {e : Nat} (he : e < 8) (v : Int32) : Pic9 kc (ws.set (4 + 4 * e) (ad (4 + 4 * e), .inr (1, [.ref (ad (4 + 4 * e + 1)), .ref (ad (4 + 4 * e + 2)), .ref (ad (4 + 4 * e + 3)), .int v]))) ad ga gc M (u1 n (6 + e) v) f T G K F := by
  refine h.er he (j := 0) (by omega) (by simp [err9, u1_eq]) (fun q hq hn => ?_) (fun q hq => u1_ne _ _ hq) (fun _ _ _ _ => rfl)
  rcases (show q = 0 ∨ q = 1 ∨ q = 2 ∨ q = 3 by omega) with rfl | rfl | rfl | rfl <;> first | rfl | exact absurd rfl hn
theorem Pic9.erA (h : Pic9 kc ws ad ga gc M n f T G K F) {e : Nat} (he : e < 8) (j : Nat) (hj : 1 ≤ j ∧ j < 4) (g : Nat → Int32) : Pic9 kc (ws.set (4 + 4 * e + j) (ad (4 + 4 * e + j), .inl (kc 0, 24, .inl g))) ad ga gc M n (u1 f (1 + j + 3 * e) g) T G K F := by
  have e1 : ∀ b : Nat, b ≠ 1 + j + 3 * e → u1 f (1 + j + 3 * e) g b = f b := fun b hb => u1_ne _ _ hb
  refine h.er he (j := j) (by omega) ?_ (fun q hq hn => ?_) (fun _ _ => rfl) (fun q h1 h2 h3 => u1_ne _ _ (by omega))
  · rcases (show j = 1 ∨ j = 2 ∨ j = 3 by omega) with rfl | rfl | rfl <;> simp [err9, u1, va_up]
  · rcases (show q = 0 ∨ q = 1 ∨ q = 2 ∨ q = 3 by omega) with rfl | rfl | rfl | rfl
    · rfl
    · show (ad _, _) = (ad _, _); rw [e1 _ (by omega)]
    · show (ad _, _) = (ad _, _); rw [e1 _ (by omega)]
    · show (ad _, _) = (ad _, _); rw [e1 _ (by omega)]
end P9b
