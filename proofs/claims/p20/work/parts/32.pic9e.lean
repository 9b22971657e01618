/-- a RUN is made: 16 cells behind the world -/
def adX (ad : Nat → Nat) (M : Nat) (q : Nat → Nat) : Nat → Nat := fun k => if k < 50 + 16 * M then ad k else q (k - (50 + 16 * M))
theorem adX_lt {ad : Nat → Nat} {M : Nat} {q : Nat → Nat} {k : Nat} (h : k < 50 + 16 * M) : adX ad M q k = ad k := by unfold adX; rw [if_pos h]
theorem adX_new {ad : Nat → Nat} {M : Nat} {q : Nat → Nat} (j : Nat) : adX ad M q (50 + 16 * M + j) = q j := by unfold adX; rw [if_neg (by omega)]; congr 1; omega
theorem adX_new0 {ad : Nat → Nat} {M : Nat} {q : Nat → Nat} : adX ad M q (50 + 16 * M) = q 0 := by unfold adX; rw [if_neg (by omega)]; congr 1; omega
def cells16 (kc : Nat → ClassId) (q : Nat → Nat) (v : Int32) : va_W := [(q 0, .inr (7, [.int v, .int 0, .int 0, .int 0, .int 0, .int 0, .int 0, .int 0, .int 0, .int 0, .ref (q 1), .ref (q 2), .ref (q 6), .ref (q 13), .ref (q 14)])),
  (q 1, .inr (4, [.null, .null, .int 0, .int 0, .int 0, .null, .null, .null, .int 0])), (q 2, .inr (6, [.ref (q 3), .ref (q 4), .ref (q 5)])), (q 3, .inl (kc 1, 8, .inl (fun _ => 0))), (q 4, .inl (kc 0, 8, .inl (fun _ => 0))), (q 5, .inl (kc 0, 8, .inl (fun _ => 0))),
  (q 6, .inr (8, [.ref (q 7), .ref (q 8), .ref (q 9), .int 0, .ref (q 10), .ref (q 11), .ref (q 12), .int 0, .int 0])), (q 7, .inl (kc 0, 24, .inl (fun _ => 0))), (q 8, .inl (kc 0, 24, .inl (fun _ => 0))), (q 9, .inl (kc 0, 24, .inl (fun _ => 0))), (q 10, .inl (kc 0, 24, .inl (fun _ => 0))), (q 11, .inl (kc 0, 24, .inl (fun _ => 0))), (q 12, .inl (kc 0, 24, .inl (fun _ => 0))),
  (q 13, .inr (2, [.int 0, .int 0, .int 0, .int 0, .int 0])), (q 14, .inr (0, [.int 1048576, .ref (q 15), .int 0])), (q 15, .inl (kc 0, 16, .inl (fun _ => 0)))]
section P9f
variable {kc : Nat → ClassId} {ws : va_W} {ad ga gc : Nat → Nat} {M : Nat} {n : Nat → Int32} {f : Nat → Nat → Int32} {T : Nat → Option Nat} {G : Nat → Nat → Int32} {K : Nat → Nat → Option Nat} {F : Nat → Nat → Nat → Int32} {R : Nat}
theorem rnA_push (q : Nat → Nat) : va_up (rnA ad M) M (some (q 0)) = rnA (adX ad M q) (M + 1) := by
  funext i
  by_cases e : i = M
  · subst e; rw [va_up_self]; unfold rnA; rw [if_pos (by omega), adX_new0]
  · rw [va_up_ne _ _ e]
    unfold rnA
    by_cases h : i < M
    · rw [if_pos h, if_pos (by omega), adX_lt (by omega)]
    · rw [if_neg h, if_neg (by omega)]
theorem rA9_push {o : Option Nat} (q : Nat → Nat) (h : ∀ j, o = some j → j < M) : rA9 (adX ad M q) o = rA9 ad o := by
  cases o with
  | none => rfl
  | some j => show some (adX ad M q (50 + 16 * j)) = some (ad (50 + 16 * j)); rw [adX_lt (by have := h j rfl; omega)]
theorem thA_push (q : Nat → Nat) (h : i2 M T) : thA (adX ad M q) T = thA ad T := by funext t; exact rA9_push q (h t)
theorem erA_push (q : Nat → Nat) : erA (adX ad M q) = erA ad := by
  funext e
  unfold erA
  by_cases h : e < 8
  · rw [if_pos h, if_pos h, adX_lt (by omega)]
  · rw [if_neg h, if_neg h]
theorem Pic9.push (h : Pic9 kc ws ad ga gc M n f T G K F) (h2 : i2 M T) (h3 : i3 M K) (q : Nat → Nat) (v : Int32) : Pic9 kc ((ws ++ cells16 kc q v).set 40 (ad 40, .inl (kc 3, 200, .inr (.inr (.inr (.inr (va_up (rnA ad M) M (some (q 0))))))))) (adX ad M q) (u1 ga (3 + M) (q 15)) (u1 gc (3 + M) 16) (M + 1) n f T (u1 G M (newG v)) (u1 K M (fun _ => none)) (u1 F M (fun _ _ => 0)) := by
  rw [rnA_push]
  obtain ⟨g1, g2, g3, g4⟩ := h
  have e : ∀ k : Nat, k < 50 → adX ad M q k = ad k := fun k hk => adX_lt (by omega)
  refine ⟨by rw [List.length_set, List.length_append, g1]; show _ + 16 = _; omega, fun j hj hj2 => ?_, fun b hb j hj => ?_, fun i hi j hj => ?_⟩
  · by_cases e40 : j = 40
    · subst e40
      rw [List.getElem?_set_self (by rw [List.length_append]; omega)]
      show some (ad 40, _) = some (adX ad M q 40, _)
      rw [e 40 (by omega)]
    · rw [List.getElem?_set_ne (by omega), List.getElem?_append_left (by omega), g2 j hj hj2]
      have t1 := thA_push (ad := ad) q h2
      have t2 := erA_push (ad := ad) (M := M) q
      have a0 : u1 ga (3 + M) (q 15) 0 = ga 0 := u1_ne _ _ (by omega)
      have a1 : u1 ga (3 + M) (q 15) 1 = ga 1 := u1_ne _ _ (by omega)
      have a2 : u1 ga (3 + M) (q 15) 2 = ga 2 := u1_ne _ _ (by omega)
      have a3 : u1 gc (3 + M) 16 0 = gc 0 := u1_ne _ _ (by omega)
      have a4 : u1 gc (3 + M) 16 1 = gc 1 := u1_ne _ _ (by omega)
      have a5 : u1 gc (3 + M) 16 2 = gc 2 := u1_ne _ _ (by omega)
      rcases s18 hj hj2 with rfl | rfl | rfl | rfl | rfl | rfl | rfl | rfl | rfl | rfl | rfl | rfl | rfl | rfl | rfl | rfl | rfl | rfl <;> simp [fx9, x9L, e, t1, t2, a0, a1, a2, a3, a4, a5] at e40 ⊢
  · rw [List.getElem?_set_ne (by omega), List.getElem?_append_left (by omega), g3 b hb j hj]
    unfold err9
    rw [e (4 + 4 * b) (by omega), e (4 + 4 * b + 1) (by omega), e (4 + 4 * b + 2) (by omega), e (4 + 4 * b + 3) (by omega)]
  · by_cases ei : i = M
    · subst ei
      rw [u1_eq, u1_eq, u1_eq, u1_eq, u1_eq, List.getElem?_set_ne (by omega), List.getElem?_append_right (by omega), show 50 + 16 * i + j - ws.length = j by omega]
      have a0 := adX_new0 (ad := ad) (M := i) (q := q)
      have a := fun j => adX_new (ad := ad) (M := i) (q := q) j
      rcases s16 hj with rfl | rfl | rfl | rfl | rfl | rfl | rfl | rfl | rfl | rfl | rfl | rfl | rfl | rfl | rfl | rfl <;> simp [blk9, cells16, runL, kinL, memL, scoL, fltL, newG, a, a0, rA9, va_rf]
    · have hiM : i < M := by omega
      rw [u1_ne _ _ (show 3 + i ≠ 3 + M by omega), u1_ne _ _ (show 3 + i ≠ 3 + M by omega), u1_ne _ _ ei, u1_ne _ _ ei, u1_ne _ _ ei, List.getElem?_set_ne (by omega), List.getElem?_append_left (by omega), g4 i hiM j hj]
      have a0 : adX ad M q (50 + 16 * i) = ad (50 + 16 * i) := adX_lt (by omega)
      have a : ∀ b : Nat, b < 16 → adX ad M q (50 + 16 * i + b) = ad (50 + 16 * i + b) := fun b hb => adX_lt (by omega)
      have r : ∀ b : Nat, rA9 (adX ad M q) (K i b) = rA9 ad (K i b) := fun b => rA9_push q (fun j hj => h3 i b j hiM hj)
      rcases s16 hj with rfl | rfl | rfl | rfl | rfl | rfl | rfl | rfl | rfl | rfl | rfl | rfl | rfl | rfl | rfl | rfl <;> simp [blk9, runL, kinL, memL, scoL, a, a0, r]
theorem S9_push : S9 (M + 1) (u1 gc (3 + M) 16) = S9 M gc + 16 := by
  unfold S9
  rw [u1_ne _ _ (show 0 ≠ 3 + M by omega), u1_ne _ _ (show 1 ≠ 3 + M by omega), u1_ne _ _ (show 2 ≠ 3 + M by omega)]
  show _ + (sum9 (fun i => u1 gc (3 + M) 16 (3 + i)) M + u1 gc (3 + M) 16 (3 + M)) = _
  rw [u1_eq, sum9_congr M (fun i hi => u1_ne gc 16 (show 3 + i ≠ 3 + M by omega))]
  omega
theorem I9.push0 (h : I9 M n f T gc G K F R) (hM : M < 200) (hn : (n 0).toInt = (M : Int)) (v : Int32) : i1 (M + 1) n ∧ i2 (M + 1) T ∧ i3 (M + 1) (u1 K M (fun _ => none)) ∧ i4 (M + 1) (u1 K M (fun _ => none)) ∧ i5 n (u1 K M (fun _ => none)) ∧ i6 n T (u1 G M (newG v)) ∧ i7 n (u1 G M (newG v)) ∧ i8 (M + 1) n (u1 gc (3 + M) 16) (u1 G M (newG v)) ∧ i9 (M + 1) (u1 gc (3 + M) 16) (u1 G M (newG v)) R := by
  obtain ⟨h1, h2, h3, h4, h5, h6, h7, h8, h9, -⟩ := h
  unfold i1 at h1
  refine ⟨?_, fun t j e => Nat.lt_succ_of_lt (h2 t j e), fun i k j hi e => ?_, fun i j hi e => ?_, fun i j hi e => ?_, fun i hi => ?_, fun i hi => ?_, ⟨fun q hq => ?_, fun q hq => ?_, fun i hi => ?_, h8.2.2.2⟩, ?_⟩
  · unfold i1; omega
  · by_cases ei : i = M
    · subst ei; rw [u1_eq] at e; cases e
    · rw [u1_ne _ _ ei] at e; exact Nat.lt_succ_of_lt (h3 i k j (by omega) e)
  · by_cases ei : i = M
    · subst ei; rw [u1_eq] at e; cases e
    · rw [u1_ne _ _ ei] at e; exact h4 i j (by omega) e
  · rw [u1_ne _ _ (show i ≠ M by omega)] at e; exact h5 i j hi e
  · rw [u1_ne _ _ (show i ≠ M by omega)]; exact h6 i hi
  · rw [u1_ne _ _ (show i ≠ M by omega)]; exact h7 i hi
  · by_cases e : q = 3 + M
    · subst e; rw [u1_eq]; omega
    · rw [u1_ne _ _ e]; exact h8.1 q (by omega)
  · rw [u1_ne _ _ (by omega)]; exact h8.2.1 q hq
  · by_cases e : i = M
    · subst e; rw [u1_eq]; show (1048576 : Int32).toInt = 1048576; decide
    · rw [u1_ne _ _ e]; exact h8.2.2.1 i (by omega)
  · unfold i9 at *
    show sum9 _ M + pot9 _ _ M ≤ _
    rw [sum9_congr M (fun i hi => show pot9 (u1 gc (3 + M) 16) (u1 G M (newG v)) i = pot9 gc G i by unfold pot9; rw [u1_ne _ _ (show 3 + i ≠ 3 + M by omega), u1_ne _ _ (show i ≠ M by omega)])]
    have z : pot9 (u1 gc (3 + M) 16) (u1 G M (newG v)) M = 16 := by
      unfold pot9; rw [u1_eq, u1_eq, show newG v 23 = 0 from rfl, show (0 : Int32).toInt = 0 by decide]; rfl
    omega
theorem I9.pushX (h : I9 M n f T gc G K F R) (hM : M < 200) (hn : (n 0).toInt = (M : Int)) : I9 (M + 1) n f T (u1 gc (3 + M) 16) G K F R := by
  have h10 := h.2.2.2.2.2.2.2.2.2.1
  have h11 := h.2.2.2.2.2.2.2.2.2.2
  have z := I9.push0 h hM hn (n 0)
  rw [h10.sameG hn, h10.sameK] at z
  exact ⟨z.1, z.2.1, z.2.2.1, z.2.2.2.1, z.2.2.2.2.1, z.2.2.2.2.2.1, z.2.2.2.2.2.2.1, z.2.2.2.2.2.2.2.1, z.2.2.2.2.2.2.2.2, h10.up, h11.push h10⟩
theorem i1.inc (h : i1 M n) {z : Int32} (hz : z.toInt = (n 0).toInt + 1) (hm : z.toInt ≤ (M : Int)) : i1 M (u1 n 0 z) := by unfold i1 at *; rw [u1_eq]; omega
theorem i5.inc (h : i5 n K) {z : Int32} {a : Nat} (hz : z.toInt = (n 0).toInt + 1) (ha : (a : Int) = (n 0).toInt) (hk : K a 3 = none) : i5 (u1 n 0 z) K := fun i j hi e => by
  rw [u1_eq] at hi ⊢
  by_cases q : i = a
  · subst q; rw [hk] at e; cases e
  · have := h i j (by omega) e; omega
theorem i6.inc (h : i6 n T G) {z : Int32} {a : Nat} (hz : z.toInt = (n 0).toInt + 1) (ha : (a : Int) = (n 0).toInt) (hk : (G a 3).toInt = -1) : i6 (u1 n 0 z) T G := fun i hi h1 h2 => by
  rw [u1_eq] at hi
  by_cases q : i = a
  · subst q; omega
  · exact h i (by omega) h1 h2
theorem i7.inc (h : i7 n G) {z : Int32} {a : Nat} (hz : z.toInt = (n 0).toInt + 1) (ha : (a : Int) = (n 0).toInt) (hk : (G a 2).toInt = 0) : i7 (u1 n 0 z) G := fun i hi h1 => by
  rw [u1_eq] at hi
  by_cases q : i = a
  · subst q; omega
  · exact h i (by omega) h1
theorem ap_l {x : va_W} {p : Nat} {c : Nat × va_E} (h : ws[p]? = some c) : (ws ++ x)[p]? = some c := by rw [List.getElem?_append_left (List.getElem?_eq_some_iff.mp h).1]; exact h
theorem ap_0 {x : va_W} {p : Nat} {c : Nat × va_E} (h : ws.length = p) : (ws ++ c :: x)[p]? = some c := by rw [List.getElem?_append_right (by omega), show p - ws.length = 0 by omega]; rfl
end P9f
/-- the frame rule where the callee's cells are the world's tail, or its head -/
theorem va_appR {A0 : Nat → Prop} {D : va_G} {cl : List vw_C} {ws wc w1 : va_W} {H H1 : Heap} (hP : va_P D cl (ws ++ wc) H) (hD : va_D A0 (ws ++ wc))
    (hk : ∀ q : Nat, q < H.size → ¬ va_A wc H.size q → H1[q]? = H[q]?) (hF : ∀ q, va_A wc H.size q → A0 q) (hP1 : va_P D cl w1 H1) (hD1 : va_D (va_A wc H.size) w1) : va_P D cl (ws ++ w1) H1 ∧ va_D A0 (ws ++ w1) := by
  have lift : ∀ (k : Nat) (q : Nat × va_E) (x : va_W), ws[k]? = some q → (ws ++ x)[k]? = some q := fun k q x hq => ap_l hq
  have apart : ∀ (k : Nat) (q : Nat × va_E), ws[k]? = some q → q.1 < H.size ∧ ¬ va_A wc H.size q.1 := by
    intro k q hq
    have hkl : k < ws.length := (List.getElem?_eq_some_iff.mp hq).1
    have h1 := lift k q wc hq
    have hl := (hP k q h1).lt
    refine ⟨hl, fun h => ?_⟩
    rcases h with ⟨k2, e, h⟩ | h
    · have h2 : (ws ++ wc)[ws.length + k2]? = some (q.1, e) := by rw [List.getElem?_append_right (Nat.le_add_right _ _), Nat.add_sub_cancel_left]; exact h
      have := hD.1 k (ws.length + k2) q (q.1, e) h1 h2 rfl
      omega
    · omega
  have what : ∀ (k : Nat) (q : Nat × va_E), (ws ++ w1)[k]? = some q → ws[k]? = some q ∨ ∃ j : Nat, k = ws.length + j ∧ w1[j]? = some q := by
    intro k q h
    by_cases hk : k < ws.length
    · left; rwa [List.getElem?_append_left hk] at h
    · right; exact ⟨k - ws.length, by omega, by rwa [List.getElem?_append_right (by omega)] at h⟩
  refine ⟨fun k q hq => ?_, fun i j x y hx hy hxy => ?_, fun k q hq => ?_⟩
  · rcases what k q hq with h | ⟨j, -, h⟩
    · obtain ⟨g1, g2⟩ := apart k q h
      exact (hP k q (lift k q wc h)).kept (hk q.1 g1 g2)
    · exact hP1 j q h
  · rcases what i x hx with h | ⟨a, ea, h⟩ <;> rcases what j y hy with g | ⟨b, eb, g⟩
    · exact hD.1 i j x y (lift i x wc h) (lift j y wc g) hxy
    · exact absurd (by rw [hxy]; exact hD1.2 b y g) (apart i x h).2
    · exact absurd (by rw [← hxy]; exact hD1.2 a x h) (apart j y g).2
    · have := hD1.1 a b x y h g hxy; omega
  · rcases what k q hq with h | ⟨j, -, h⟩
    · exact hD.2 k q (lift k q wc h)
    · exact hF q.1 (hD1.2 j q h)
theorem va_appL {A0 : Nat → Prop} {D : va_G} {cl : List vw_C} {ws wc w1 : va_W} {H H1 : Heap} (hP : va_P D cl (wc ++ ws) H) (hD : va_D A0 (wc ++ ws))
    (hk : ∀ q : Nat, q < H.size → ¬ va_A wc H.size q → H1[q]? = H[q]?) (hF : ∀ q, va_A wc H.size q → A0 q) (hP1 : va_P D cl w1 H1) (hD1 : va_D (va_A wc H.size) w1) : va_P D cl (w1 ++ ws) H1 ∧ va_D A0 (w1 ++ ws) := by
  have lift : ∀ (k : Nat) (q : Nat × va_E) (x : va_W), ws[k]? = some q → (x ++ ws)[x.length + k]? = some q := fun k q x hq => by rw [List.getElem?_append_right (Nat.le_add_right _ _), Nat.add_sub_cancel_left]; exact hq
  have apart : ∀ (k : Nat) (q : Nat × va_E), ws[k]? = some q → q.1 < H.size ∧ ¬ va_A wc H.size q.1 := by
    intro k q hq
    have h1 := lift k q wc hq
    have hl := (hP _ q h1).lt
    refine ⟨hl, fun h => ?_⟩
    rcases h with ⟨k2, e, h⟩ | h
    · have hk2 : k2 < wc.length := (List.getElem?_eq_some_iff.mp h).1
      have h2 : (wc ++ ws)[k2]? = some (q.1, e) := ap_l h
      have := hD.1 (wc.length + k) k2 q (q.1, e) h1 h2 rfl
      omega
    · omega
  have what : ∀ (k : Nat) (q : Nat × va_E), (w1 ++ ws)[k]? = some q → w1[k]? = some q ∨ ∃ j : Nat, k = w1.length + j ∧ ws[j]? = some q := by
    intro k q h
    by_cases hk : k < w1.length
    · left; rwa [List.getElem?_append_left hk] at h
    · right; exact ⟨k - w1.length, by omega, by rwa [List.getElem?_append_right (by omega)] at h⟩
  refine ⟨fun k q hq => ?_, fun i j x y hx hy hxy => ?_, fun k q hq => ?_⟩
  · rcases what k q hq with h | ⟨j, -, h⟩
    · exact hP1 k q h
    · obtain ⟨g1, g2⟩ := apart j q h
      exact (hP _ q (lift j q wc h)).kept (hk q.1 g1 g2)
  · rcases what i x hx with h | ⟨a, ea, h⟩ <;> rcases what j y hy with g | ⟨b, eb, g⟩
    · exact hD1.1 i j x y h g hxy
    · exact absurd (by rw [← hxy]; exact hD1.2 i x h) (apart b y g).2
    · exact absurd (by rw [hxy]; exact hD1.2 j y g) (apart a x h).2
    · have := hD.1 _ _ x y (lift a x wc h) (lift b y wc g) hxy; omega
  · rcases what k q hq with h | ⟨j, -, h⟩
    · exact hF q.1 (hD1.2 k q h)
    · exact hD.2 _ q (lift j q wc h)
