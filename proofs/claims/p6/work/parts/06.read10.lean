set_option maxHeartbeats 8000000 in
set_option maxRecDepth 100000 in
theorem c_X10_isRun (l : Launch) (dC : Nat → ClassId) (dI : Nat → Nat → Nat) (kp : Int) (h0 : Nat) (X : Nat → Nat) (C : Nat → ClassId) (F : Nat → Nat → Int32) (n : Nat → Int32) (v1 : Int32) (sz : Nat) (hI : I10 kp F n) : Met l yX10_isRun (.code yX10_isRun cX10_isRun 2 (some .boolean) :: gw) ({ frames := 0, cells := 0, slots := 0, locals := 0 }) (va_Pc [.ref h0, .int v1] (fun U => U.heap.size = sz ∧ va_P (dC, dI) vwCl (w10 h0 X C (F 0) (F 1) (F 2) (F 3) (F 4) (F 5) (F 6) (F 7) (F 8) (F 10) (F 13) (F 14) (F 15) (F 16) (F 17) (F 18) (F 19) (F 20) (F 21) (F 22) (F 23) (F 24) (F 25) (F 26) (F 27) (F 28) (F 29) (F 30) (F 31) (F 32) (F 33) (F 34) (F 35) (F 36) (F 37) (F 38) (F 39) (F 40) (F 41) (F 42) (F 43) (F 49) (F 50) (F 51) (F 52) (F 53) (F 54) (F 55) (F 56) (F 57) (F 58) (F 59) (n 9) (n 11) (n 12) (n 44) (n 45) (n 46) (n 47) (n 48)) U.heap ∧ va_K (dC, dI) vwCl (t10 C) U ∧ va_D (fun _ => True) (w10 h0 X C (F 0) (F 1) (F 2) (F 3) (F 4) (F 5) (F 6) (F 7) (F 8) (F 10) (F 13) (F 14) (F 15) (F 16) (F 17) (F 18) (F 19) (F 20) (F 21) (F 22) (F 23) (F 24) (F 25) (F 26) (F 27) (F 28) (F 29) (F 30) (F 31) (F 32) (F 33) (F 34) (F 35) (F 36) (F 37) (F 38) (F 39) (F 40) (F 41) (F 42) (F 43) (F 49) (F 50) (F 51) (F 52) (F 53) (F 54) (F 55) (F 56) (F 57) (F 58) (F 59) (n 9) (n 11) (n 12) (n 44) (n 45) (n 46) (n 47) (n 48)) ∧ nx U)) (va_Qi (fun (r : Int32) (u : Unit) => (r = 1 ∧ (0 ≤ v1.toInt ∧ v1.toInt < (n 11).toInt)) ∨ (r = 0 ∧ ¬ (0 ≤ v1.toInt ∧ v1.toInt < (n 11).toInt))) (fun _ t => va_P (dC, dI) vwCl (w10 h0 X C (F 0) (F 1) (F 2) (F 3) (F 4) (F 5) (F 6) (F 7) (F 8) (F 10) (F 13) (F 14) (F 15) (F 16) (F 17) (F 18) (F 19) (F 20) (F 21) (F 22) (F 23) (F 24) (F 25) (F 26) (F 27) (F 28) (F 29) (F 30) (F 31) (F 32) (F 33) (F 34) (F 35) (F 36) (F 37) (F 38) (F 39) (F 40) (F 41) (F 42) (F 43) (F 49) (F 50) (F 51) (F 52) (F 53) (F 54) (F 55) (F 56) (F 57) (F 58) (F 59) (n 9) (n 11) (n 12) (n 44) (n 45) (n 46) (n 47) (n 48)) t.heap ∧ va_D (va_A (w10 h0 X C (F 0) (F 1) (F 2) (F 3) (F 4) (F 5) (F 6) (F 7) (F 8) (F 10) (F 13) (F 14) (F 15) (F 16) (F 17) (F 18) (F 19) (F 20) (F 21) (F 22) (F 23) (F 24) (F 25) (F 26) (F 27) (F 28) (F 29) (F 30) (F 31) (F 32) (F 33) (F 34) (F 35) (F 36) (F 37) (F 38) (F 39) (F 40) (F 41) (F 42) (F 43) (F 49) (F 50) (F 51) (F 52) (F 53) (F 54) (F 55) (F 56) (F 57) (F 58) (F 59) (n 9) (n 11) (n 12) (n 44) (n 45) (n 46) (n 47) (n 48)) sz) (w10 h0 X C (F 0) (F 1) (F 2) (F 3) (F 4) (F 5) (F 6) (F 7) (F 8) (F 10) (F 13) (F 14) (F 15) (F 16) (F 17) (F 18) (F 19) (F 20) (F 21) (F 22) (F 23) (F 24) (F 25) (F 26) (F 27) (F 28) (F 29) (F 30) (F 31) (F 32) (F 33) (F 34) (F 35) (F 36) (F 37) (F 38) (F 39) (F 40) (F 41) (F 42) (F 43) (F 49) (F 50) (F 51) (F 52) (F 53) (F 54) (F 55) (F 56) (F 57) (F 58) (F 59) (n 9) (n 11) (n 12) (n 44) (n 45) (n 46) (n 47) (n 48))) (va_A (w10 h0 X C (F 0) (F 1) (F 2) (F 3) (F 4) (F 5) (F 6) (F 7) (F 8) (F 10) (F 13) (F 14) (F 15) (F 16) (F 17) (F 18) (F 19) (F 20) (F 21) (F 22) (F 23) (F 24) (F 25) (F 26) (F 27) (F 28) (F 29) (F 30) (F 31) (F 32) (F 33) (F 34) (F 35) (F 36) (F 37) (F 38) (F 39) (F 40) (F 41) (F 42) (F 43) (F 49) (F 50) (F 51) (F 52) (F 53) (F 54) (F 55) (F 56) (F 57) (F 58) (F 59) (n 9) (n 11) (n 12) (n 44) (n 45) (n 46) (n 47) (n 48)) sz)) 0 0 (va_A (w10 h0 X C (F 0) (F 1) (F 2) (F 3) (F 4) (F 5) (F 6) (F 7) (F 8) (F 10) (F 13) (F 14) (F 15) (F 16) (F 17) (F 18) (F 19) (F 20) (F 21) (F 22) (F 23) (F 24) (F 25) (F 26) (F 27) (F 28) (F 29) (F 30) (F 31) (F 32) (F 33) (F 34) (F 35) (F 36) (F 37) (F 38) (F 39) (F 40) (F 41) (F 42) (F 43) (F 49) (F 50) (F 51) (F 52) (F 53) (F 54) (F 55) (F 56) (F 57) (F 58) (F 59) (n 9) (n 11) (n 12) (n 44) (n 45) (n 46) (n 47) (n 48)) sz) := by
  refine Met.ofW (cc := cX10_isRun) (maxL := 2) (ret := (some .boolean)) (by decide) rfl ?_
  intro p e s m args below meth c s₁ B hml hv
  obtain ⟨rfl, hsz, hP, hK, hD0, hN⟩ := hv
  have hx := B.exec
  have hb := B.bytes
  have hr := B.returns
  have hts := atoms_spec (ws := .code yX10_isRun cX10_isRun 2 (some .boolean) :: gw) B.pre
  have hg : ∀ w ∈ gw, w.before _ s = true := fun w h => hts w (List.mem_cons_of_mem _ h)
  have hown : s.vm.findClass RX10 = some m.cls := findClass_of_methodNamed B.named
  have hlocks := B.notSynchronized
  subst hsz
  have hD := hD0.self (sz := s.heap.size)
  generalize hAe : va_A (w10 h0 X C (F 0) (F 1) (F 2) (F 3) (F 4) (F 5) (F 6) (F 7) (F 8) (F 10) (F 13) (F 14) (F 15) (F 16) (F 17) (F 18) (F 19) (F 20) (F 21) (F 22) (F 23) (F 24) (F 25) (F 26) (F 27) (F 28) (F 29) (F 30) (F 31) (F 32) (F 33) (F 34) (F 35) (F 36) (F 37) (F 38) (F 39) (F 40) (F 41) (F 42) (F 43) (F 49) (F 50) (F 51) (F 52) (F 53) (F 54) (F 55) (F 56) (F 57) (F 58) (F 59) (n 9) (n 11) (n 12) (n 44) (n 45) (n 46) (n 47) (n 48)) s.heap.size = A at hD ⊢
  have hA : ∀ q : Nat, s.heap.size ≤ q → A q := fun q h => by rw [← hAe]; exact Or.inr h
  have hS : va_S A s.heap s.heap [] := va_S.rf
  have hP : va_P (dC, dI) vwCl (w10 h0 X C (F 0) (F 1) (F 2) (F 3) (F 4) (F 5) (F 6) (F 7) (F 8) (F 10) (F 13) (F 14) (F 15) (F 16) (F 17) (F 18) (F 19) (F 20) (F 21) (F 22) (F 23) (F 24) (F 25) (F 26) (F 27) (F 28) (F 29) (F 30) (F 31) (F 32) (F 33) (F 34) (F 35) (F 36) (F 37) (F 38) (F 39) (F 40) (F 41) (F 42) (F 43) (F 49) (F 50) (F 51) (F 52) (F 53) (F 54) (F 55) (F 56) (F 57) (F 58) (F 59) (n 9) (n 11) (n 12) (n 44) (n 45) (n 46) (n 47) (n 48)) s.heap := hP
  have hl := lv_entry ([.ref h0, .int v1]) (n := 2) (Nat.le_of_ble_eq_true rfl)
  rw [lg_entry_eq]
  generalize (lg_sl ([.ref h0, .int v1]) ++ List.replicate (2 - (lg_sl ([.ref h0, .int v1])).length) Slot.unset).toArray = ls at hl ⊢
  have hl : lv_has ls 2 [(0, .ref h0), (1, .int v1)] := hl
  obtain ⟨b_1, b_2, b_3, b_4, b_5, b_6, b_7, b_8, b_9, b_10, b_11, b_12, i_13, i_14, i_15, i_16, i_17, i_18, i_19, j_20, j_21, j_22, j_23, j_24, j_25, j_26, j_27, j_28, j_29⟩ := id hI
  refine lv_iload_n hx hb dX10_isRun_0 rfl (lv_at hl 1 rfl) ?_
  refine lv_if_lt (tgt := 16) hx hb dX10_isRun_1 (by decide) (fun c_30 => ?_) (fun c_30 => ?_)
  · simp only [i_lt, i_le, i_eq, ti_0] at c_30
    refine lv_iconst (v := 0) hx hb dX10_isRun_16 (by decide) ?_
    exact W.zret (v := 0) hx hb hr rfl (fun t ht hW => ⟨⟨0, (), rfl, (Or.inr ⟨rfl, by have t_ := ti_0; omega⟩), by rw [ht]; exact hP, hD⟩, hS.F ht⟩) hS.2.2 dX10_isRun_17
  · simp only [i_lt, i_le, i_eq, ti_0] at c_30
    refine lv_iload_n hx hb dX10_isRun_4 rfl (lv_at hl 1 rfl) ?_
    refine lv_aload_n hx hb dX10_isRun_5 rfl (lv_at hl 0 rfl) ?_
    refine va_get (D := (dC, dI)) (ci := 10) (v := .int (n 11)) (C := RX10) (T := TX10) (N := 60) hx hb hg gb_10 hown hK hP 0 rfl rfl 11 (by decide) (hg _ gm_fieldLink_RX10_176_ErrandGuildModel_runs_I_) (fun _ h9 => h9) rfl dX10_isRun_6 ?_
    refine lv_icmp_ge (tgt := 16) hx hb dX10_isRun_9 (by decide) (fun c_31 => ?_) (fun c_31 => ?_)
    · simp only [i_lt, i_le, i_eq] at c_31
      refine lv_iconst (v := 0) hx hb dX10_isRun_16 (by decide) ?_
      exact W.zret (v := 0) hx hb hr rfl (fun t ht hW => ⟨⟨0, (), rfl, (Or.inr ⟨rfl, by have t_ := ti_0; omega⟩), by rw [ht]; exact hP, hD⟩, hS.F ht⟩) hS.2.2 dX10_isRun_17
    · simp only [i_lt, i_le, i_eq] at c_31
      refine lv_iconst (v := 1) hx hb dX10_isRun_12 (by decide) ?_
      refine lv_goto (tgt := 17) hx hb dX10_isRun_13 (by decide) ?_
      exact W.zret (v := 1) hx hb hr rfl (fun t ht hW => ⟨⟨1, (), rfl, (Or.inl ⟨rfl, by have t_ := ti_1; omega⟩), by rw [ht]; exact hP, hD⟩, hS.F ht⟩) hS.2.2 dX10_isRun_17

set_option maxHeartbeats 8000000 in
set_option maxRecDepth 100000 in
theorem c_X10_isOver (l : Launch) (dC : Nat → ClassId) (dI : Nat → Nat → Nat) (kp : Int) (h0 : Nat) (X : Nat → Nat) (C : Nat → ClassId) (F : Nat → Nat → Int32) (n : Nat → Int32) (v1 : Int32) (sz : Nat) (hI : I10 kp F n) (hr : 0 ≤ v1.toInt ∧ v1.toInt < 200) : Met l yX10_isOver (.code yX10_isOver cX10_isOver 2 (some .boolean) :: gw) ({ frames := 0, cells := 0, slots := 0, locals := 0 }) (va_Pc [.ref h0, .int v1] (fun U => U.heap.size = sz ∧ va_P (dC, dI) vwCl (w10 h0 X C (F 0) (F 1) (F 2) (F 3) (F 4) (F 5) (F 6) (F 7) (F 8) (F 10) (F 13) (F 14) (F 15) (F 16) (F 17) (F 18) (F 19) (F 20) (F 21) (F 22) (F 23) (F 24) (F 25) (F 26) (F 27) (F 28) (F 29) (F 30) (F 31) (F 32) (F 33) (F 34) (F 35) (F 36) (F 37) (F 38) (F 39) (F 40) (F 41) (F 42) (F 43) (F 49) (F 50) (F 51) (F 52) (F 53) (F 54) (F 55) (F 56) (F 57) (F 58) (F 59) (n 9) (n 11) (n 12) (n 44) (n 45) (n 46) (n 47) (n 48)) U.heap ∧ va_K (dC, dI) vwCl (t10 C) U ∧ va_D (fun _ => True) (w10 h0 X C (F 0) (F 1) (F 2) (F 3) (F 4) (F 5) (F 6) (F 7) (F 8) (F 10) (F 13) (F 14) (F 15) (F 16) (F 17) (F 18) (F 19) (F 20) (F 21) (F 22) (F 23) (F 24) (F 25) (F 26) (F 27) (F 28) (F 29) (F 30) (F 31) (F 32) (F 33) (F 34) (F 35) (F 36) (F 37) (F 38) (F 39) (F 40) (F 41) (F 42) (F 43) (F 49) (F 50) (F 51) (F 52) (F 53) (F 54) (F 55) (F 56) (F 57) (F 58) (F 59) (n 9) (n 11) (n 12) (n 44) (n 45) (n 46) (n 47) (n 48)) ∧ nx U)) (va_Qi (fun (r : Int32) (u : Unit) => (r = 1 ∧ True) ∨ (r = 0 ∧ True)) (fun _ t => va_P (dC, dI) vwCl (w10 h0 X C (F 0) (F 1) (F 2) (F 3) (F 4) (F 5) (F 6) (F 7) (F 8) (F 10) (F 13) (F 14) (F 15) (F 16) (F 17) (F 18) (F 19) (F 20) (F 21) (F 22) (F 23) (F 24) (F 25) (F 26) (F 27) (F 28) (F 29) (F 30) (F 31) (F 32) (F 33) (F 34) (F 35) (F 36) (F 37) (F 38) (F 39) (F 40) (F 41) (F 42) (F 43) (F 49) (F 50) (F 51) (F 52) (F 53) (F 54) (F 55) (F 56) (F 57) (F 58) (F 59) (n 9) (n 11) (n 12) (n 44) (n 45) (n 46) (n 47) (n 48)) t.heap ∧ va_D (va_A (w10 h0 X C (F 0) (F 1) (F 2) (F 3) (F 4) (F 5) (F 6) (F 7) (F 8) (F 10) (F 13) (F 14) (F 15) (F 16) (F 17) (F 18) (F 19) (F 20) (F 21) (F 22) (F 23) (F 24) (F 25) (F 26) (F 27) (F 28) (F 29) (F 30) (F 31) (F 32) (F 33) (F 34) (F 35) (F 36) (F 37) (F 38) (F 39) (F 40) (F 41) (F 42) (F 43) (F 49) (F 50) (F 51) (F 52) (F 53) (F 54) (F 55) (F 56) (F 57) (F 58) (F 59) (n 9) (n 11) (n 12) (n 44) (n 45) (n 46) (n 47) (n 48)) sz) (w10 h0 X C (F 0) (F 1) (F 2) (F 3) (F 4) (F 5) (F 6) (F 7) (F 8) (F 10) (F 13) (F 14) (F 15) (F 16) (F 17) (F 18) (F 19) (F 20) (F 21) (F 22) (F 23) (F 24) (F 25) (F 26) (F 27) (F 28) (F 29) (F 30) (F 31) (F 32) (F 33) (F 34) (F 35) (F 36) (F 37) (F 38) (F 39) (F 40) (F 41) (F 42) (F 43) (F 49) (F 50) (F 51) (F 52) (F 53) (F 54) (F 55) (F 56) (F 57) (F 58) (F 59) (n 9) (n 11) (n 12) (n 44) (n 45) (n 46) (n 47) (n 48))) (va_A (w10 h0 X C (F 0) (F 1) (F 2) (F 3) (F 4) (F 5) (F 6) (F 7) (F 8) (F 10) (F 13) (F 14) (F 15) (F 16) (F 17) (F 18) (F 19) (F 20) (F 21) (F 22) (F 23) (F 24) (F 25) (F 26) (F 27) (F 28) (F 29) (F 30) (F 31) (F 32) (F 33) (F 34) (F 35) (F 36) (F 37) (F 38) (F 39) (F 40) (F 41) (F 42) (F 43) (F 49) (F 50) (F 51) (F 52) (F 53) (F 54) (F 55) (F 56) (F 57) (F 58) (F 59) (n 9) (n 11) (n 12) (n 44) (n 45) (n 46) (n 47) (n 48)) sz)) 0 0 (va_A (w10 h0 X C (F 0) (F 1) (F 2) (F 3) (F 4) (F 5) (F 6) (F 7) (F 8) (F 10) (F 13) (F 14) (F 15) (F 16) (F 17) (F 18) (F 19) (F 20) (F 21) (F 22) (F 23) (F 24) (F 25) (F 26) (F 27) (F 28) (F 29) (F 30) (F 31) (F 32) (F 33) (F 34) (F 35) (F 36) (F 37) (F 38) (F 39) (F 40) (F 41) (F 42) (F 43) (F 49) (F 50) (F 51) (F 52) (F 53) (F 54) (F 55) (F 56) (F 57) (F 58) (F 59) (n 9) (n 11) (n 12) (n 44) (n 45) (n 46) (n 47) (n 48)) sz) := by
  refine Met.ofW (cc := cX10_isOver) (maxL := 2) (ret := (some .boolean)) (by decide) rfl ?_
  intro p e s m args below meth c s₁ B hml hv
  obtain ⟨rfl, hsz, hP, hK, hD0, hN⟩ := hv
  have hx := B.exec
  have hb := B.bytes
  have hr := B.returns
  have hts := atoms_spec (ws := .code yX10_isOver cX10_isOver 2 (some .boolean) :: gw) B.pre
  have hg : ∀ w ∈ gw, w.before _ s = true := fun w h => hts w (List.mem_cons_of_mem _ h)
  have hown : s.vm.findClass RX10 = some m.cls := findClass_of_methodNamed B.named
  have hlocks := B.notSynchronized
  subst hsz
  have hD := hD0.self (sz := s.heap.size)
  generalize hAe : va_A (w10 h0 X C (F 0) (F 1) (F 2) (F 3) (F 4) (F 5) (F 6) (F 7) (F 8) (F 10) (F 13) (F 14) (F 15) (F 16) (F 17) (F 18) (F 19) (F 20) (F 21) (F 22) (F 23) (F 24) (F 25) (F 26) (F 27) (F 28) (F 29) (F 30) (F 31) (F 32) (F 33) (F 34) (F 35) (F 36) (F 37) (F 38) (F 39) (F 40) (F 41) (F 42) (F 43) (F 49) (F 50) (F 51) (F 52) (F 53) (F 54) (F 55) (F 56) (F 57) (F 58) (F 59) (n 9) (n 11) (n 12) (n 44) (n 45) (n 46) (n 47) (n 48)) s.heap.size = A at hD ⊢
  have hA : ∀ q : Nat, s.heap.size ≤ q → A q := fun q h => by rw [← hAe]; exact Or.inr h
  have hS : va_S A s.heap s.heap [] := va_S.rf
  have hP : va_P (dC, dI) vwCl (w10 h0 X C (F 0) (F 1) (F 2) (F 3) (F 4) (F 5) (F 6) (F 7) (F 8) (F 10) (F 13) (F 14) (F 15) (F 16) (F 17) (F 18) (F 19) (F 20) (F 21) (F 22) (F 23) (F 24) (F 25) (F 26) (F 27) (F 28) (F 29) (F 30) (F 31) (F 32) (F 33) (F 34) (F 35) (F 36) (F 37) (F 38) (F 39) (F 40) (F 41) (F 42) (F 43) (F 49) (F 50) (F 51) (F 52) (F 53) (F 54) (F 55) (F 56) (F 57) (F 58) (F 59) (n 9) (n 11) (n 12) (n 44) (n 45) (n 46) (n 47) (n 48)) s.heap := hP
  have hl := lv_entry ([.ref h0, .int v1]) (n := 2) (Nat.le_of_ble_eq_true rfl)
  rw [lg_entry_eq]
  generalize (lg_sl ([.ref h0, .int v1]) ++ List.replicate (2 - (lg_sl ([.ref h0, .int v1])).length) Slot.unset).toArray = ls at hl ⊢
  have hl : lv_has ls 2 [(0, .ref h0), (1, .int v1)] := hl
  obtain ⟨b_1, b_2, b_3, b_4, b_5, b_6, b_7, b_8, b_9, b_10, b_11, b_12, i_13, i_14, i_15, i_16, i_17, i_18, i_19, j_20, j_21, j_22, j_23, j_24, j_25, j_26, j_27, j_28, j_29⟩ := id hI
  refine lv_aload_n hx hb dX10_isOver_0 rfl (lv_at hl 0 rfl) ?_
  refine va_get (D := (dC, dI)) (ci := 10) (v := .ref (X 13)) (C := RX10) (T := TX10) (N := 60) hx hb hg gb_10 hown hK hP 0 rfl rfl 13 (by decide) (hg _ gm_fieldLink_RX10_45_ErrandGuildModel_state_AI_) (fun _ h9 => h9) rfl dX10_isOver_1 ?_
  refine lv_iload_n hx hb dX10_isOver_4 rfl (lv_at hl 1 rfl) ?_
  refine va_iald (f := F 13) hx hb hK hP 11 10 rfl rfl (vp_in_iff.mpr ⟨by omega, by omega⟩) dX10_isOver_5 ?_
  refine lv_topi (fun z_30 ez_30 => ?_)
  have qz_30 := congrArg Int32.toInt ez_30
  have bz_30 := bd_at b_3 ez_30
  refine lv_iconst (v := 3) hx hb dX10_isOver_6 (by decide) ?_
  refine lv_icmp_eq (tgt := 20) hx hb dX10_isOver_7 (by decide) (fun c_31 => ?_) (fun c_31 => ?_)
  · simp only [i_lt, i_le, i_eq, ti_3] at c_31
    refine lv_iconst (v := 1) hx hb dX10_isOver_20 (by decide) ?_
    refine lv_goto (tgt := 25) hx hb dX10_isOver_21 (by decide) ?_
    exact W.zret (v := 1) hx hb hr rfl (fun t ht hW => ⟨⟨1, (), rfl, (Or.inl ⟨rfl, trivial⟩), by rw [ht]; exact hP, hD⟩, hS.F ht⟩) hS.2.2 dX10_isOver_25
  · simp only [i_lt, i_le, i_eq, ti_3] at c_31
    refine lv_aload_n hx hb dX10_isOver_10 rfl (lv_at hl 0 rfl) ?_
    refine va_get (D := (dC, dI)) (ci := 10) (v := .ref (X 13)) (C := RX10) (T := TX10) (N := 60) hx hb hg gb_10 hown hK hP 0 rfl rfl 13 (by decide) (hg _ gm_fieldLink_RX10_45_ErrandGuildModel_state_AI_) (fun _ h9 => h9) rfl dX10_isOver_11 ?_
    refine lv_iload_n hx hb dX10_isOver_14 rfl (lv_at hl 1 rfl) ?_
    refine va_iald (f := F 13) hx hb hK hP 11 10 rfl rfl (vp_in_iff.mpr ⟨by omega, by omega⟩) dX10_isOver_15 ?_
    refine lv_topi (fun z_32 ez_32 => ?_)
    obtain rfl : z_30 = z_32 := ez_30.trans ez_32.symm
    refine lv_iconst (v := 4) hx hb dX10_isOver_16 (by decide) ?_
    refine lv_icmp_ne (tgt := 24) hx hb dX10_isOver_17 (by decide) (fun c_33 => ?_) (fun c_33 => ?_)
    · simp only [i_lt, i_le, i_eq, ti_4] at c_33
      refine lv_iconst (v := 0) hx hb dX10_isOver_24 (by decide) ?_
      exact W.zret (v := 0) hx hb hr rfl (fun t ht hW => ⟨⟨0, (), rfl, (Or.inr ⟨rfl, trivial⟩), by rw [ht]; exact hP, hD⟩, hS.F ht⟩) hS.2.2 dX10_isOver_25
    · simp only [i_lt, i_le, i_eq, ti_4] at c_33
      refine lv_iconst (v := 1) hx hb dX10_isOver_20 (by decide) ?_
      refine lv_goto (tgt := 25) hx hb dX10_isOver_21 (by decide) ?_
      exact W.zret (v := 1) hx hb hr rfl (fun t ht hW => ⟨⟨1, (), rfl, (Or.inl ⟨rfl, trivial⟩), by rw [ht]; exact hP, hD⟩, hS.F ht⟩) hS.2.2 dX10_isOver_25

set_option maxHeartbeats 8000000 in
set_option maxRecDepth 100000 in
theorem c_X10_areOver (l : Launch) (dC : Nat → ClassId) (dI : Nat → Nat → Nat) (kp : Int) (h0 : Nat) (X : Nat → Nat) (C : Nat → ClassId) (F : Nat → Nat → Int32) (n : Nat → Int32) (v1 : Int32) (sz : Nat) (hI : I10 kp F n) (hr : 0 ≤ v1.toInt ∧ v1.toInt < 200) : Met l yX10_areOver (.code yX10_areOver cX10_areOver 4 (some .boolean) :: gw) ({ frames := 1, cells := 0, slots := 0, locals := 21 }) (va_Pc [.ref h0, .int v1] (fun U => U.heap.size = sz ∧ va_P (dC, dI) vwCl (w10 h0 X C (F 0) (F 1) (F 2) (F 3) (F 4) (F 5) (F 6) (F 7) (F 8) (F 10) (F 13) (F 14) (F 15) (F 16) (F 17) (F 18) (F 19) (F 20) (F 21) (F 22) (F 23) (F 24) (F 25) (F 26) (F 27) (F 28) (F 29) (F 30) (F 31) (F 32) (F 33) (F 34) (F 35) (F 36) (F 37) (F 38) (F 39) (F 40) (F 41) (F 42) (F 43) (F 49) (F 50) (F 51) (F 52) (F 53) (F 54) (F 55) (F 56) (F 57) (F 58) (F 59) (n 9) (n 11) (n 12) (n 44) (n 45) (n 46) (n 47) (n 48)) U.heap ∧ va_K (dC, dI) vwCl (t10 C) U ∧ va_D (fun _ => True) (w10 h0 X C (F 0) (F 1) (F 2) (F 3) (F 4) (F 5) (F 6) (F 7) (F 8) (F 10) (F 13) (F 14) (F 15) (F 16) (F 17) (F 18) (F 19) (F 20) (F 21) (F 22) (F 23) (F 24) (F 25) (F 26) (F 27) (F 28) (F 29) (F 30) (F 31) (F 32) (F 33) (F 34) (F 35) (F 36) (F 37) (F 38) (F 39) (F 40) (F 41) (F 42) (F 43) (F 49) (F 50) (F 51) (F 52) (F 53) (F 54) (F 55) (F 56) (F 57) (F 58) (F 59) (n 9) (n 11) (n 12) (n 44) (n 45) (n 46) (n 47) (n 48)) ∧ nx U)) (va_Qi (fun (r : Int32) (u : Unit) => (r = 1 ∧ True) ∨ (r = 0 ∧ True)) (fun _ t => va_P (dC, dI) vwCl (w10 h0 X C (F 0) (F 1) (F 2) (F 3) (F 4) (F 5) (F 6) (F 7) (F 8) (F 10) (F 13) (F 14) (F 15) (F 16) (F 17) (F 18) (F 19) (F 20) (F 21) (F 22) (F 23) (F 24) (F 25) (F 26) (F 27) (F 28) (F 29) (F 30) (F 31) (F 32) (F 33) (F 34) (F 35) (F 36) (F 37) (F 38) (F 39) (F 40) (F 41) (F 42) (F 43) (F 49) (F 50) (F 51) (F 52) (F 53) (F 54) (F 55) (F 56) (F 57) (F 58) (F 59) (n 9) (n 11) (n 12) (n 44) (n 45) (n 46) (n 47) (n 48)) t.heap ∧ va_D (va_A (w10 h0 X C (F 0) (F 1) (F 2) (F 3) (F 4) (F 5) (F 6) (F 7) (F 8) (F 10) (F 13) (F 14) (F 15) (F 16) (F 17) (F 18) (F 19) (F 20) (F 21) (F 22) (F 23) (F 24) (F 25) (F 26) (F 27) (F 28) (F 29) (F 30) (F 31) (F 32) (F 33) (F 34) (F 35) (F 36) (F 37) (F 38) (F 39) (F 40) (F 41) (F 42) (F 43) (F 49) (F 50) (F 51) (F 52) (F 53) (F 54) (F 55) (F 56) (F 57) (F 58) (F 59) (n 9) (n 11) (n 12) (n 44) (n 45) (n 46) (n 47) (n 48)) sz) (w10 h0 X C (F 0) (F 1) (F 2) (F 3) (F 4) (F 5) (F 6) (F 7) (F 8) (F 10) (F 13) (F 14) (F 15) (F 16) (F 17) (F 18) (F 19) (F 20) (F 21) (F 22) (F 23) (F 24) (F 25) (F 26) (F 27) (F 28) (F 29) (F 30) (F 31) (F 32) (F 33) (F 34) (F 35) (F 36) (F 37) (F 38) (F 39) (F 40) (F 41) (F 42) (F 43) (F 49) (F 50) (F 51) (F 52) (F 53) (F 54) (F 55) (F 56) (F 57) (F 58) (F 59) (n 9) (n 11) (n 12) (n 44) (n 45) (n 46) (n 47) (n 48))) (va_A (w10 h0 X C (F 0) (F 1) (F 2) (F 3) (F 4) (F 5) (F 6) (F 7) (F 8) (F 10) (F 13) (F 14) (F 15) (F 16) (F 17) (F 18) (F 19) (F 20) (F 21) (F 22) (F 23) (F 24) (F 25) (F 26) (F 27) (F 28) (F 29) (F 30) (F 31) (F 32) (F 33) (F 34) (F 35) (F 36) (F 37) (F 38) (F 39) (F 40) (F 41) (F 42) (F 43) (F 49) (F 50) (F 51) (F 52) (F 53) (F 54) (F 55) (F 56) (F 57) (F 58) (F 59) (n 9) (n 11) (n 12) (n 44) (n 45) (n 46) (n 47) (n 48)) sz)) 0 0 (va_A (w10 h0 X C (F 0) (F 1) (F 2) (F 3) (F 4) (F 5) (F 6) (F 7) (F 8) (F 10) (F 13) (F 14) (F 15) (F 16) (F 17) (F 18) (F 19) (F 20) (F 21) (F 22) (F 23) (F 24) (F 25) (F 26) (F 27) (F 28) (F 29) (F 30) (F 31) (F 32) (F 33) (F 34) (F 35) (F 36) (F 37) (F 38) (F 39) (F 40) (F 41) (F 42) (F 43) (F 49) (F 50) (F 51) (F 52) (F 53) (F 54) (F 55) (F 56) (F 57) (F 58) (F 59) (n 9) (n 11) (n 12) (n 44) (n 45) (n 46) (n 47) (n 48)) sz) := by
  refine Met.ofW (cc := cX10_areOver) (maxL := 4) (ret := (some .boolean)) (by decide) rfl ?_
  intro p e s m args below meth c s₁ B hml hv
  obtain ⟨rfl, hsz, hP, hK, hD0, hN⟩ := hv
  have hx := B.exec
  have hb := B.bytes
  have hr := B.returns
  have hts := atoms_spec (ws := .code yX10_areOver cX10_areOver 4 (some .boolean) :: gw) B.pre
  have hg : ∀ w ∈ gw, w.before _ s = true := fun w h => hts w (List.mem_cons_of_mem _ h)
  have hown : s.vm.findClass RX10 = some m.cls := findClass_of_methodNamed B.named
  have hlocks := B.notSynchronized
  subst hsz
  have hD := hD0.self (sz := s.heap.size)
  generalize hAe : va_A (w10 h0 X C (F 0) (F 1) (F 2) (F 3) (F 4) (F 5) (F 6) (F 7) (F 8) (F 10) (F 13) (F 14) (F 15) (F 16) (F 17) (F 18) (F 19) (F 20) (F 21) (F 22) (F 23) (F 24) (F 25) (F 26) (F 27) (F 28) (F 29) (F 30) (F 31) (F 32) (F 33) (F 34) (F 35) (F 36) (F 37) (F 38) (F 39) (F 40) (F 41) (F 42) (F 43) (F 49) (F 50) (F 51) (F 52) (F 53) (F 54) (F 55) (F 56) (F 57) (F 58) (F 59) (n 9) (n 11) (n 12) (n 44) (n 45) (n 46) (n 47) (n 48)) s.heap.size = A at hD ⊢
  have hA : ∀ q : Nat, s.heap.size ≤ q → A q := fun q h => by rw [← hAe]; exact Or.inr h
  have hS : va_S A s.heap s.heap [] := va_S.rf
  have hP : va_P (dC, dI) vwCl (w10 h0 X C (F 0) (F 1) (F 2) (F 3) (F 4) (F 5) (F 6) (F 7) (F 8) (F 10) (F 13) (F 14) (F 15) (F 16) (F 17) (F 18) (F 19) (F 20) (F 21) (F 22) (F 23) (F 24) (F 25) (F 26) (F 27) (F 28) (F 29) (F 30) (F 31) (F 32) (F 33) (F 34) (F 35) (F 36) (F 37) (F 38) (F 39) (F 40) (F 41) (F 42) (F 43) (F 49) (F 50) (F 51) (F 52) (F 53) (F 54) (F 55) (F 56) (F 57) (F 58) (F 59) (n 9) (n 11) (n 12) (n 44) (n 45) (n 46) (n 47) (n 48)) s.heap := hP
  have hl := lv_entry ([.ref h0, .int v1]) (n := 4) (Nat.le_of_ble_eq_true rfl)
  rw [lg_entry_eq]
  generalize (lg_sl ([.ref h0, .int v1]) ++ List.replicate (4 - (lg_sl ([.ref h0, .int v1])).length) Slot.unset).toArray = ls at hl ⊢
  have hl : lv_has ls 4 [(0, .ref h0), (1, .int v1)] := hl
  obtain ⟨b_1, b_2, b_3, b_4, b_5, b_6, b_7, b_8, b_9, b_10, b_11, b_12, i_13, i_14, i_15, i_16, i_17, i_18, i_19, j_20, j_21, j_22, j_23, j_24, j_25, j_26, j_27, j_28, j_29⟩ := id hI
  refine lv_iconst (v := 1) hx hb dX10_areOver_0 (by decide) ?_
  refine lv_istore_n (lv' := [(2, .int 1), (0, .ref h0), (1, .int v1)]) hx hb dX10_areOver_1 rfl hl (by decide) rfl (fun ls hl => ?_)
  refine lv_iload_n hx hb dX10_areOver_2 rfl (lv_at hl 2 rfl) ?_
  refine lv_iconst (v := 1) hx hb dX10_areOver_3 (by decide) ?_
  refine lv_iadd hx hb dX10_areOver_4 ?_
  refine lv_topi (fun z_30 ez_30 => ?_)
  have tz_30 : z_30.toInt = v1.toInt + 1 := ar_add rfl ti_1 ez_30 (by omega)
  refine lv_istore_n (lv' := [(3, .int z_30), (2, .int 1), (0, .ref h0), (1, .int v1)]) hx hb dX10_areOver_5 rfl hl (by decide) rfl (fun ls hl => ?_)
  have L6 : ∀ (fuel : Nat) (x_31 : Int32) (x_32 : Int32) (H : Heap) (locs : List Loc) (ls : Array Slot), (201 - x_32.toInt).toNat < fuel → (0 ≤ x_32.toInt ∧ x_32.toInt ≤ 200) → (x_31.toInt = 0 ∨ x_31.toInt = 1) → va_P (dC, dI) vwCl (w10 h0 X C (F 0) (F 1) (F 2) (F 3) (F 4) (F 5) (F 6) (F 7) (F 8) (F 10) (F 13) (F 14) (F 15) (F 16) (F 17) (F 18) (F 19) (F 20) (F 21) (F 22) (F 23) (F 24) (F 25) (F 26) (F 27) (F 28) (F 29) (F 30) (F 31) (F 32) (F 33) (F 34) (F 35) (F 36) (F 37) (F 38) (F 39) (F 40) (F 41) (F 42) (F 43) (F 49) (F 50) (F 51) (F 52) (F 53) (F 54) (F 55) (F 56) (F 57) (F 58) (F 59) (n 9) (n 11) (n 12) (n 44) (n 45) (n 46) (n 47) (n 48)) H → va_D A (w10 h0 X C (F 0) (F 1) (F 2) (F 3) (F 4) (F 5) (F 6) (F 7) (F 8) (F 10) (F 13) (F 14) (F 15) (F 16) (F 17) (F 18) (F 19) (F 20) (F 21) (F 22) (F 23) (F 24) (F 25) (F 26) (F 27) (F 28) (F 29) (F 30) (F 31) (F 32) (F 33) (F 34) (F 35) (F 36) (F 37) (F 38) (F 39) (F 40) (F 41) (F 42) (F 43) (F 49) (F 50) (F 51) (F 52) (F 53) (F 54) (F 55) (F 56) (F 57) (F 58) (F 59) (n 9) (n 11) (n 12) (n 44) (n 45) (n 46) (n 47) (n 48)) → va_S A s.heap H locs → lv_has ls 4 [(3, .int x_32), (2, .int x_31), (0, .ref h0), (1, .int v1)] → W p l e (headSpec (.code yX10_areOver cX10_areOver 4 (some .boolean) :: gw) ({ frames := 1, cells := 0, slots := 0, locals := 21 })).room s m ([.ref h0, .int v1] : List Value).toArray below meth c H locs 0 0 (MQ below (va_Qi (fun (r : Int32) (u : Unit) => (r = 1 ∧ True) ∨ (r = 0 ∧ True)) (fun _ t => va_P (dC, dI) vwCl (w10 h0 X C (F 0) (F 1) (F 2) (F 3) (F 4) (F 5) (F 6) (F 7) (F 8) (F 10) (F 13) (F 14) (F 15) (F 16) (F 17) (F 18) (F 19) (F 20) (F 21) (F 22) (F 23) (F 24) (F 25) (F 26) (F 27) (F 28) (F 29) (F 30) (F 31) (F 32) (F 33) (F 34) (F 35) (F 36) (F 37) (F 38) (F 39) (F 40) (F 41) (F 42) (F 43) (F 49) (F 50) (F 51) (F 52) (F 53) (F 54) (F 55) (F 56) (F 57) (F 58) (F 59) (n 9) (n 11) (n 12) (n 44) (n 45) (n 46) (n 47) (n 48)) t.heap ∧ va_D A (w10 h0 X C (F 0) (F 1) (F 2) (F 3) (F 4) (F 5) (F 6) (F 7) (F 8) (F 10) (F 13) (F 14) (F 15) (F 16) (F 17) (F 18) (F 19) (F 20) (F 21) (F 22) (F 23) (F 24) (F 25) (F 26) (F 27) (F 28) (F 29) (F 30) (F 31) (F 32) (F 33) (F 34) (F 35) (F 36) (F 37) (F 38) (F 39) (F 40) (F 41) (F 42) (F 43) (F 49) (F 50) (F 51) (F 52) (F 53) (F 54) (F 55) (F 56) (F 57) (F 58) (F 59) (n 9) (n 11) (n 12) (n 44) (n 45) (n 46) (n 47) (n 48))) A) ([.ref h0, .int v1] : List Value).toArray s 0 0 A) (F0 m 6 ls []) := by
    intro fuel
    induction fuel with
    | zero => intro x_31 x_32 H locs ls hm; exact absurd hm (Nat.not_lt_zero _)
    | succ fuel_34 ih_33 =>
      intro x_31 x_32 H locs ls hm_37 v_35 v_36 hP hD hS hl
      refine lv_iload_n hx hb dX10_areOver_6 rfl (lv_at hl 0 rfl) ?_
      refine lv_aload_n hx hb dX10_areOver_7 rfl (lv_at hl 2 rfl) ?_
      refine va_get (D := (dC, dI)) (ci := 10) (v := .int (n 11)) (C := RX10) (T := TX10) (N := 60) hx hb hg gb_10 hown hK hP 0 rfl rfl 11 (by decide) (hg _ gm_fieldLink_RX10_176_ErrandGuildModel_runs_I_) (fun _ h9 => h9) rfl dX10_areOver_8 ?_
      refine lv_icmp_ge (tgt := 57) hx hb dX10_areOver_11 (by decide) (fun c_38 => ?_) (fun c_38 => ?_)
      · simp only [i_lt, i_le, i_eq] at c_38
        refine lv_iload_n hx hb dX10_areOver_57 rfl (lv_at hl 1 rfl) ?_
        rcases zo (show x_31.toInt = 0 ∨ x_31.toInt = 1 by omega) with rfl | rfl
        · exact W.zret (v := 1) hx hb hr rfl (fun t ht hW => ⟨⟨1, (), rfl, (Or.inl ⟨rfl, trivial⟩), by rw [ht]; exact hP, hD⟩, hS.F ht⟩) hS.2.2 dX10_areOver_58
        · exact W.zret (v := 0) hx hb hr rfl (fun t ht hW => ⟨⟨0, (), rfl, (Or.inr ⟨rfl, trivial⟩), by rw [ht]; exact hP, hD⟩, hS.F ht⟩) hS.2.2 dX10_areOver_58
      · simp only [i_lt, i_le, i_eq] at c_38
        refine lv_iload_n hx hb dX10_areOver_14 rfl (lv_at hl 1 rfl) ?_
        refine lv_if_eq (tgt := 49) hx hb dX10_areOver_15 (by decide) (fun c_39 => ?_) (fun c_39 => ?_)
        · simp only [i_lt, i_le, i_eq, ti_0] at c_39
          refine lv_iconst (v := 0) hx hb dX10_areOver_49 (by decide) ?_
          refine lv_istore_n (lv' := [(2, .int 0), (3, .int x_32), (0, .ref h0), (1, .int v1)]) hx hb dX10_areOver_50 rfl hl (by decide) rfl (fun ls hl => ?_)
          obtain ⟨y_40, ey_40⟩ : ∃ q : Int32, q = x_32 + (1) := ⟨_, rfl⟩
          refine lv_iinc (v := y_40) (lv' := [(3, .int y_40), (2, .int 0), (0, .ref h0), (1, .int v1)]) hx hb dX10_areOver_51 hl (k := 1) rfl (by rw [ey_40]; rfl) (by decide) rfl (fun ls hl => ?_)
          have ty_40 : y_40.toInt = x_32.toInt + (1) := ar_add rfl ti_1 ey_40 (by omega)
          refine lv_goto (tgt := 6) hx hb dX10_areOver_54 (by decide) ?_
          exact ih_33 (0) y_40 H locs ls (by have t_0 := ti_0; omega) (by have t_0 := ti_0; omega) (by have t_0 := ti_0; omega) hP hD hS (lv_sub hl [0, 1, 2, 3] rfl)
        · simp only [i_lt, i_le, i_eq, ti_0] at c_39
          refine lv_aload_n hx hb dX10_areOver_18 rfl (lv_at hl 2 rfl) ?_
          refine va_get (D := (dC, dI)) (ci := 10) (v := .ref (X 15)) (C := RX10) (T := TX10) (N := 60) hx hb hg gb_10 hown hK hP 0 rfl rfl 15 (by decide) (hg _ gm_fieldLink_RX10_51_ErrandGuildModel_giver_AI_) (fun _ h9 => h9) rfl dX10_areOver_19 ?_
          refine lv_iload_n hx hb dX10_areOver_22 rfl (lv_at hl 0 rfl) ?_
          refine va_iald (f := F 15) hx hb hK hP 13 12 rfl rfl (vp_in_iff.mpr ⟨by omega, by omega⟩) dX10_areOver_23 ?_
          refine lv_topi (fun z_41 ez_41 => ?_)
          have qz_41 := congrArg Int32.toInt ez_41
          have bz_41 := bd_at b_5 ez_41
          refine lv_iload_n hx hb dX10_areOver_24 rfl (lv_at hl 3 rfl) ?_
          refine lv_icmp_ne (tgt := 45) hx hb dX10_areOver_25 (by decide) (fun c_42 => ?_) (fun c_42 => ?_)
          · simp only [i_lt, i_le, i_eq] at c_42
            refine lv_iconst (v := 1) hx hb dX10_areOver_45 (by decide) ?_
            refine lv_goto (tgt := 50) hx hb dX10_areOver_46 (by decide) ?_
            refine lv_istore_n (lv' := [(2, .int 1), (3, .int x_32), (0, .ref h0), (1, .int v1)]) hx hb dX10_areOver_50 rfl hl (by decide) rfl (fun ls hl => ?_)
            obtain ⟨y_43, ey_43⟩ : ∃ q : Int32, q = x_32 + (1) := ⟨_, rfl⟩
            refine lv_iinc (v := y_43) (lv' := [(3, .int y_43), (2, .int 1), (0, .ref h0), (1, .int v1)]) hx hb dX10_areOver_51 hl (k := 1) rfl (by rw [ey_43]; rfl) (by decide) rfl (fun ls hl => ?_)
            have ty_43 : y_43.toInt = x_32.toInt + (1) := ar_add rfl ti_1 ey_43 (by omega)
            refine lv_goto (tgt := 6) hx hb dX10_areOver_54 (by decide) ?_
            exact ih_33 (1) y_43 H locs ls (by have t_0 := ti_1; omega) (by have t_0 := ti_1; omega) (by have t_0 := ti_1; omega) hP hD hS (lv_sub hl [0, 1, 2, 3] rfl)
          · simp only [i_lt, i_le, i_eq] at c_42
            refine lv_aload_n hx hb dX10_areOver_28 rfl (lv_at hl 2 rfl) ?_
            refine va_get (D := (dC, dI)) (ci := 10) (v := .ref (X 27)) (C := RX10) (T := TX10) (N := 60) hx hb hg gb_10 hown hK hP 0 rfl rfl 27 (by decide) (hg _ gm_fieldLink_RX10_87_ErrandGuildModel_isAwaited_AZ_) (fun _ h9 => h9) rfl dX10_areOver_29 ?_
            refine lv_iload_n hx hb dX10_areOver_32 rfl (lv_at hl 0 rfl) ?_
            refine va_zald (f := F 27) hx hb hK hP 25 24 rfl rfl (vp_in_iff.mpr ⟨by omega, by omega⟩) dX10_areOver_33 ?_
            refine lv_topi (fun z_44 ez_44 => ?_)
            have qz_44 := congrArg Int32.toInt ez_44
            refine lv_if_eq (tgt := 45) hx hb dX10_areOver_34 (by decide) (fun c_45 => ?_) (fun c_45 => ?_)
            · simp only [i_lt, i_le, i_eq, ti_0] at c_45
              refine lv_iconst (v := 1) hx hb dX10_areOver_45 (by decide) ?_
              refine lv_goto (tgt := 50) hx hb dX10_areOver_46 (by decide) ?_
              refine lv_istore_n (lv' := [(2, .int 1), (3, .int x_32), (0, .ref h0), (1, .int v1)]) hx hb dX10_areOver_50 rfl hl (by decide) rfl (fun ls hl => ?_)
              obtain ⟨y_46, ey_46⟩ : ∃ q : Int32, q = x_32 + (1) := ⟨_, rfl⟩
              refine lv_iinc (v := y_46) (lv' := [(3, .int y_46), (2, .int 1), (0, .ref h0), (1, .int v1)]) hx hb dX10_areOver_51 hl (k := 1) rfl (by rw [ey_46]; rfl) (by decide) rfl (fun ls hl => ?_)
              have ty_46 : y_46.toInt = x_32.toInt + (1) := ar_add rfl ti_1 ey_46 (by omega)
              refine lv_goto (tgt := 6) hx hb dX10_areOver_54 (by decide) ?_
              exact ih_33 (1) y_46 H locs ls (by have t_0 := ti_1; omega) (by have t_0 := ti_1; omega) (by have t_0 := ti_1; omega) hP hD hS (lv_sub hl [0, 1, 2, 3] rfl)
            · simp only [i_lt, i_le, i_eq, ti_0] at c_45
              refine lv_aload_n hx hb dX10_areOver_37 rfl (lv_at hl 2 rfl) ?_
              refine lv_iload_n hx hb dX10_areOver_38 rfl (lv_at hl 0 rfl) ?_
              have hFc := free_all hD hS hA
              refine va_calli (va_runV (As := [.int x_32]) (rest := []) ⟨hx, hb, hml, hown, hg⟩ (c_X10_isOver l dC dI kp h0 X C F n x_32 H.size ⟨b_1, b_2, b_3, b_4, b_5, b_6, b_7, b_8, b_9, b_10, b_11, b_12, i_13, i_14, i_15, i_16, i_17, i_18, i_19, j_20, j_21, j_22, j_23, j_24, j_25, j_26, j_27, j_28, j_29⟩ (by omega)) (cwV 1 hg (gw_V gm_methodLink_RX10_215_yX10_isOver gm_instanceMethod_yX10_isOver gm_selects_RX10_yX10_isOver_yX10_isOver gm_initialized_RX10 gm_code_yX10_isOver_cX10_isOver_2_some_boolean_) rfl rfl rfl (by decide +kernel) ⟨Nat.le_of_ble_eq_true rfl, Nat.le_of_ble_eq_true rfl⟩) ⟨fun a U g mk q => by obtain ⟨q0, q1, qP, qK, qD, qN⟩ := q; exact ⟨q0, q1, qP, va_K.moved (u := U) (U := U.calling g mk a) (Vm.Alike.refl U.vm) qK, qD, nx_same (u := U) (U := U.calling g mk a) rfl qN⟩, va_recv hK hP (ci := 10) (q0 := 0) rfl rfl, fun U hU hW => ⟨rfl, by rw [hU], by rw [hU]; exact hP, va_K.moved hW.alike hK, hD.weaken (fun _ _ _ _ => trivial), nx_warm hW hN⟩⟩ rfl rfl hl.1 rfl (lv_room (Nat.le_of_ble_eq_true rfl)) dX10_areOver_39 ⟨Nat.le_of_ble_eq_true rfl, Nat.le_of_ble_eq_true rfl⟩) hS (fun q _ h => hFc q h) hFc (fun r_47 u_48 t H1 locs ht hvm hw hB hz1 hk1 hS => ?_)
              obtain ⟨hP, hD⟩ := hB
              rw [ht] at hP
              have hD := hD.weaken (fun k q _ h => hFc _ h)
              generalize H1 = H at hP hS ⊢
              have hP : va_P (dC, dI) vwCl (w10 h0 X C (F 0) (F 1) (F 2) (F 3) (F 4) (F 5) (F 6) (F 7) (F 8) (F 10) (F 13) (F 14) (F 15) (F 16) (F 17) (F 18) (F 19) (F 20) (F 21) (F 22) (F 23) (F 24) (F 25) (F 26) (F 27) (F 28) (F 29) (F 30) (F 31) (F 32) (F 33) (F 34) (F 35) (F 36) (F 37) (F 38) (F 39) (F 40) (F 41) (F 42) (F 43) (F 49) (F 50) (F 51) (F 52) (F 53) (F 54) (F 55) (F 56) (F 57) (F 58) (F 59) (n 9) (n 11) (n 12) (n 44) (n 45) (n 46) (n 47) (n 48)) H := hP
              have hD : va_D A (w10 h0 X C (F 0) (F 1) (F 2) (F 3) (F 4) (F 5) (F 6) (F 7) (F 8) (F 10) (F 13) (F 14) (F 15) (F 16) (F 17) (F 18) (F 19) (F 20) (F 21) (F 22) (F 23) (F 24) (F 25) (F 26) (F 27) (F 28) (F 29) (F 30) (F 31) (F 32) (F 33) (F 34) (F 35) (F 36) (F 37) (F 38) (F 39) (F 40) (F 41) (F 42) (F 43) (F 49) (F 50) (F 51) (F 52) (F 53) (F 54) (F 55) (F 56) (F 57) (F 58) (F 59) (n 9) (n 11) (n 12) (n 44) (n 45) (n 46) (n 47) (n 48)) := hD
              rcases hw with ⟨rfl, w_49⟩ | ⟨rfl, w_49⟩
              · refine lv_if_eq (tgt := 49) hx hb dX10_areOver_42 (by decide) (fun c_50 => absurd c_50 (by decide)) (fun _ => ?_)
                refine lv_iconst (v := 1) hx hb dX10_areOver_45 (by decide) ?_
                refine lv_goto (tgt := 50) hx hb dX10_areOver_46 (by decide) ?_
                refine lv_istore_n (lv' := [(2, .int 1), (3, .int x_32), (0, .ref h0), (1, .int v1)]) hx hb dX10_areOver_50 rfl hl (by decide) rfl (fun ls hl => ?_)
                obtain ⟨y_51, ey_51⟩ : ∃ q : Int32, q = x_32 + (1) := ⟨_, rfl⟩
                refine lv_iinc (v := y_51) (lv' := [(3, .int y_51), (2, .int 1), (0, .ref h0), (1, .int v1)]) hx hb dX10_areOver_51 hl (k := 1) rfl (by rw [ey_51]; rfl) (by decide) rfl (fun ls hl => ?_)
                have ty_51 : y_51.toInt = x_32.toInt + (1) := ar_add rfl ti_1 ey_51 (by omega)
                refine lv_goto (tgt := 6) hx hb dX10_areOver_54 (by decide) ?_
                exact ih_33 (1) y_51 H locs ls (by have t_0 := ti_1; omega) (by have t_0 := ti_1; omega) (by have t_0 := ti_1; omega) hP hD hS (lv_sub hl [0, 1, 2, 3] rfl)
              · refine lv_if_eq (tgt := 49) hx hb dX10_areOver_42 (by decide) (fun _ => ?_) (fun c_52 => absurd c_52 (by decide))
                refine lv_iconst (v := 0) hx hb dX10_areOver_49 (by decide) ?_
                refine lv_istore_n (lv' := [(2, .int 0), (3, .int x_32), (0, .ref h0), (1, .int v1)]) hx hb dX10_areOver_50 rfl hl (by decide) rfl (fun ls hl => ?_)
                obtain ⟨y_53, ey_53⟩ : ∃ q : Int32, q = x_32 + (1) := ⟨_, rfl⟩
                refine lv_iinc (v := y_53) (lv' := [(3, .int y_53), (2, .int 0), (0, .ref h0), (1, .int v1)]) hx hb dX10_areOver_51 hl (k := 1) rfl (by rw [ey_53]; rfl) (by decide) rfl (fun ls hl => ?_)
                have ty_53 : y_53.toInt = x_32.toInt + (1) := ar_add rfl ti_1 ey_53 (by omega)
                refine lv_goto (tgt := 6) hx hb dX10_areOver_54 (by decide) ?_
                exact ih_33 (0) y_53 H locs ls (by have t_0 := ti_0; omega) (by have t_0 := ti_0; omega) (by have t_0 := ti_0; omega) hP hD hS (lv_sub hl [0, 1, 2, 3] rfl)
  exact L6 _ (1) z_30 _ _ _ (Nat.lt_succ_self _) (by have t_0 := ti_1; omega) (by have t_0 := ti_1; omega) hP hD hS (lv_sub hl [0, 1, 2, 3] rfl)

set_option maxHeartbeats 8000000 in
set_option maxRecDepth 100000 in
theorem c_X10_children (l : Launch) (dC : Nat → ClassId) (dI : Nat → Nat → Nat) (kp : Int) (h0 : Nat) (X : Nat → Nat) (C : Nat → ClassId) (F : Nat → Nat → Int32) (n : Nat → Int32) (v1 : Int32) (sz : Nat) (hI : I10 kp F n) (hr : 0 ≤ v1.toInt ∧ v1.toInt < 200) : Met l yX10_children (.code yX10_children cX10_children 4 (some .int) :: gw) ({ frames := 0, cells := 0, slots := 0, locals := 0 }) (va_Pc [.ref h0, .int v1] (fun U => U.heap.size = sz ∧ va_P (dC, dI) vwCl (w10 h0 X C (F 0) (F 1) (F 2) (F 3) (F 4) (F 5) (F 6) (F 7) (F 8) (F 10) (F 13) (F 14) (F 15) (F 16) (F 17) (F 18) (F 19) (F 20) (F 21) (F 22) (F 23) (F 24) (F 25) (F 26) (F 27) (F 28) (F 29) (F 30) (F 31) (F 32) (F 33) (F 34) (F 35) (F 36) (F 37) (F 38) (F 39) (F 40) (F 41) (F 42) (F 43) (F 49) (F 50) (F 51) (F 52) (F 53) (F 54) (F 55) (F 56) (F 57) (F 58) (F 59) (n 9) (n 11) (n 12) (n 44) (n 45) (n 46) (n 47) (n 48)) U.heap ∧ va_K (dC, dI) vwCl (t10 C) U ∧ va_D (fun _ => True) (w10 h0 X C (F 0) (F 1) (F 2) (F 3) (F 4) (F 5) (F 6) (F 7) (F 8) (F 10) (F 13) (F 14) (F 15) (F 16) (F 17) (F 18) (F 19) (F 20) (F 21) (F 22) (F 23) (F 24) (F 25) (F 26) (F 27) (F 28) (F 29) (F 30) (F 31) (F 32) (F 33) (F 34) (F 35) (F 36) (F 37) (F 38) (F 39) (F 40) (F 41) (F 42) (F 43) (F 49) (F 50) (F 51) (F 52) (F 53) (F 54) (F 55) (F 56) (F 57) (F 58) (F 59) (n 9) (n 11) (n 12) (n 44) (n 45) (n 46) (n 47) (n 48)) ∧ nx U)) (va_Qi (fun (r : Int32) (u : Unit) => True) (fun _ t => va_P (dC, dI) vwCl (w10 h0 X C (F 0) (F 1) (F 2) (F 3) (F 4) (F 5) (F 6) (F 7) (F 8) (F 10) (F 13) (F 14) (F 15) (F 16) (F 17) (F 18) (F 19) (F 20) (F 21) (F 22) (F 23) (F 24) (F 25) (F 26) (F 27) (F 28) (F 29) (F 30) (F 31) (F 32) (F 33) (F 34) (F 35) (F 36) (F 37) (F 38) (F 39) (F 40) (F 41) (F 42) (F 43) (F 49) (F 50) (F 51) (F 52) (F 53) (F 54) (F 55) (F 56) (F 57) (F 58) (F 59) (n 9) (n 11) (n 12) (n 44) (n 45) (n 46) (n 47) (n 48)) t.heap ∧ va_D (va_A (w10 h0 X C (F 0) (F 1) (F 2) (F 3) (F 4) (F 5) (F 6) (F 7) (F 8) (F 10) (F 13) (F 14) (F 15) (F 16) (F 17) (F 18) (F 19) (F 20) (F 21) (F 22) (F 23) (F 24) (F 25) (F 26) (F 27) (F 28) (F 29) (F 30) (F 31) (F 32) (F 33) (F 34) (F 35) (F 36) (F 37) (F 38) (F 39) (F 40) (F 41) (F 42) (F 43) (F 49) (F 50) (F 51) (F 52) (F 53) (F 54) (F 55) (F 56) (F 57) (F 58) (F 59) (n 9) (n 11) (n 12) (n 44) (n 45) (n 46) (n 47) (n 48)) sz) (w10 h0 X C (F 0) (F 1) (F 2) (F 3) (F 4) (F 5) (F 6) (F 7) (F 8) (F 10) (F 13) (F 14) (F 15) (F 16) (F 17) (F 18) (F 19) (F 20) (F 21) (F 22) (F 23) (F 24) (F 25) (F 26) (F 27) (F 28) (F 29) (F 30) (F 31) (F 32) (F 33) (F 34) (F 35) (F 36) (F 37) (F 38) (F 39) (F 40) (F 41) (F 42) (F 43) (F 49) (F 50) (F 51) (F 52) (F 53) (F 54) (F 55) (F 56) (F 57) (F 58) (F 59) (n 9) (n 11) (n 12) (n 44) (n 45) (n 46) (n 47) (n 48))) (va_A (w10 h0 X C (F 0) (F 1) (F 2) (F 3) (F 4) (F 5) (F 6) (F 7) (F 8) (F 10) (F 13) (F 14) (F 15) (F 16) (F 17) (F 18) (F 19) (F 20) (F 21) (F 22) (F 23) (F 24) (F 25) (F 26) (F 27) (F 28) (F 29) (F 30) (F 31) (F 32) (F 33) (F 34) (F 35) (F 36) (F 37) (F 38) (F 39) (F 40) (F 41) (F 42) (F 43) (F 49) (F 50) (F 51) (F 52) (F 53) (F 54) (F 55) (F 56) (F 57) (F 58) (F 59) (n 9) (n 11) (n 12) (n 44) (n 45) (n 46) (n 47) (n 48)) sz)) 0 0 (va_A (w10 h0 X C (F 0) (F 1) (F 2) (F 3) (F 4) (F 5) (F 6) (F 7) (F 8) (F 10) (F 13) (F 14) (F 15) (F 16) (F 17) (F 18) (F 19) (F 20) (F 21) (F 22) (F 23) (F 24) (F 25) (F 26) (F 27) (F 28) (F 29) (F 30) (F 31) (F 32) (F 33) (F 34) (F 35) (F 36) (F 37) (F 38) (F 39) (F 40) (F 41) (F 42) (F 43) (F 49) (F 50) (F 51) (F 52) (F 53) (F 54) (F 55) (F 56) (F 57) (F 58) (F 59) (n 9) (n 11) (n 12) (n 44) (n 45) (n 46) (n 47) (n 48)) sz) := by
  refine Met.ofW (cc := cX10_children) (maxL := 4) (ret := (some .int)) (by decide) rfl ?_
  intro p e s m args below meth c s₁ B hml hv
  obtain ⟨rfl, hsz, hP, hK, hD0, hN⟩ := hv
  have hx := B.exec
  have hb := B.bytes
  have hr := B.returns
  have hts := atoms_spec (ws := .code yX10_children cX10_children 4 (some .int) :: gw) B.pre
  have hg : ∀ w ∈ gw, w.before _ s = true := fun w h => hts w (List.mem_cons_of_mem _ h)
  have hown : s.vm.findClass RX10 = some m.cls := findClass_of_methodNamed B.named
  have hlocks := B.notSynchronized
  subst hsz
  have hD := hD0.self (sz := s.heap.size)
  generalize hAe : va_A (w10 h0 X C (F 0) (F 1) (F 2) (F 3) (F 4) (F 5) (F 6) (F 7) (F 8) (F 10) (F 13) (F 14) (F 15) (F 16) (F 17) (F 18) (F 19) (F 20) (F 21) (F 22) (F 23) (F 24) (F 25) (F 26) (F 27) (F 28) (F 29) (F 30) (F 31) (F 32) (F 33) (F 34) (F 35) (F 36) (F 37) (F 38) (F 39) (F 40) (F 41) (F 42) (F 43) (F 49) (F 50) (F 51) (F 52) (F 53) (F 54) (F 55) (F 56) (F 57) (F 58) (F 59) (n 9) (n 11) (n 12) (n 44) (n 45) (n 46) (n 47) (n 48)) s.heap.size = A at hD ⊢
  have hA : ∀ q : Nat, s.heap.size ≤ q → A q := fun q h => by rw [← hAe]; exact Or.inr h
  have hS : va_S A s.heap s.heap [] := va_S.rf
  have hP : va_P (dC, dI) vwCl (w10 h0 X C (F 0) (F 1) (F 2) (F 3) (F 4) (F 5) (F 6) (F 7) (F 8) (F 10) (F 13) (F 14) (F 15) (F 16) (F 17) (F 18) (F 19) (F 20) (F 21) (F 22) (F 23) (F 24) (F 25) (F 26) (F 27) (F 28) (F 29) (F 30) (F 31) (F 32) (F 33) (F 34) (F 35) (F 36) (F 37) (F 38) (F 39) (F 40) (F 41) (F 42) (F 43) (F 49) (F 50) (F 51) (F 52) (F 53) (F 54) (F 55) (F 56) (F 57) (F 58) (F 59) (n 9) (n 11) (n 12) (n 44) (n 45) (n 46) (n 47) (n 48)) s.heap := hP
  have hl := lv_entry ([.ref h0, .int v1]) (n := 4) (Nat.le_of_ble_eq_true rfl)
  rw [lg_entry_eq]
  generalize (lg_sl ([.ref h0, .int v1]) ++ List.replicate (4 - (lg_sl ([.ref h0, .int v1])).length) Slot.unset).toArray = ls at hl ⊢
  have hl : lv_has ls 4 [(0, .ref h0), (1, .int v1)] := hl
  obtain ⟨b_1, b_2, b_3, b_4, b_5, b_6, b_7, b_8, b_9, b_10, b_11, b_12, i_13, i_14, i_15, i_16, i_17, i_18, i_19, j_20, j_21, j_22, j_23, j_24, j_25, j_26, j_27, j_28, j_29⟩ := id hI
  refine lv_iconst (v := 0) hx hb dX10_children_0 (by decide) ?_
  refine lv_istore_n (lv' := [(2, .int 0), (0, .ref h0), (1, .int v1)]) hx hb dX10_children_1 rfl hl (by decide) rfl (fun ls hl => ?_)
  refine lv_iload_n hx hb dX10_children_2 rfl (lv_at hl 2 rfl) ?_
  refine lv_iconst (v := 1) hx hb dX10_children_3 (by decide) ?_
  refine lv_iadd hx hb dX10_children_4 ?_
  refine lv_topi (fun z_30 ez_30 => ?_)
  have tz_30 : z_30.toInt = v1.toInt + 1 := ar_add rfl ti_1 ez_30 (by omega)
  refine lv_istore_n (lv' := [(3, .int z_30), (2, .int 0), (0, .ref h0), (1, .int v1)]) hx hb dX10_children_5 rfl hl (by decide) rfl (fun ls hl => ?_)
  have L6 : ∀ (fuel : Nat) (x_31 : Int32) (x_32 : Int32) (H : Heap) (locs : List Loc) (ls : Array Slot), (201 - x_32.toInt).toNat < fuel → (0 ≤ x_32.toInt ∧ x_32.toInt ≤ 200) → (0 ≤ x_31.toInt ∧ x_31.toInt ≤ x_32.toInt) → va_P (dC, dI) vwCl (w10 h0 X C (F 0) (F 1) (F 2) (F 3) (F 4) (F 5) (F 6) (F 7) (F 8) (F 10) (F 13) (F 14) (F 15) (F 16) (F 17) (F 18) (F 19) (F 20) (F 21) (F 22) (F 23) (F 24) (F 25) (F 26) (F 27) (F 28) (F 29) (F 30) (F 31) (F 32) (F 33) (F 34) (F 35) (F 36) (F 37) (F 38) (F 39) (F 40) (F 41) (F 42) (F 43) (F 49) (F 50) (F 51) (F 52) (F 53) (F 54) (F 55) (F 56) (F 57) (F 58) (F 59) (n 9) (n 11) (n 12) (n 44) (n 45) (n 46) (n 47) (n 48)) H → va_D A (w10 h0 X C (F 0) (F 1) (F 2) (F 3) (F 4) (F 5) (F 6) (F 7) (F 8) (F 10) (F 13) (F 14) (F 15) (F 16) (F 17) (F 18) (F 19) (F 20) (F 21) (F 22) (F 23) (F 24) (F 25) (F 26) (F 27) (F 28) (F 29) (F 30) (F 31) (F 32) (F 33) (F 34) (F 35) (F 36) (F 37) (F 38) (F 39) (F 40) (F 41) (F 42) (F 43) (F 49) (F 50) (F 51) (F 52) (F 53) (F 54) (F 55) (F 56) (F 57) (F 58) (F 59) (n 9) (n 11) (n 12) (n 44) (n 45) (n 46) (n 47) (n 48)) → va_S A s.heap H locs → lv_has ls 4 [(3, .int x_32), (2, .int x_31), (0, .ref h0), (1, .int v1)] → W p l e (headSpec (.code yX10_children cX10_children 4 (some .int) :: gw) ({ frames := 0, cells := 0, slots := 0, locals := 0 })).room s m ([.ref h0, .int v1] : List Value).toArray below meth c H locs 0 0 (MQ below (va_Qi (fun (r : Int32) (u : Unit) => True) (fun _ t => va_P (dC, dI) vwCl (w10 h0 X C (F 0) (F 1) (F 2) (F 3) (F 4) (F 5) (F 6) (F 7) (F 8) (F 10) (F 13) (F 14) (F 15) (F 16) (F 17) (F 18) (F 19) (F 20) (F 21) (F 22) (F 23) (F 24) (F 25) (F 26) (F 27) (F 28) (F 29) (F 30) (F 31) (F 32) (F 33) (F 34) (F 35) (F 36) (F 37) (F 38) (F 39) (F 40) (F 41) (F 42) (F 43) (F 49) (F 50) (F 51) (F 52) (F 53) (F 54) (F 55) (F 56) (F 57) (F 58) (F 59) (n 9) (n 11) (n 12) (n 44) (n 45) (n 46) (n 47) (n 48)) t.heap ∧ va_D A (w10 h0 X C (F 0) (F 1) (F 2) (F 3) (F 4) (F 5) (F 6) (F 7) (F 8) (F 10) (F 13) (F 14) (F 15) (F 16) (F 17) (F 18) (F 19) (F 20) (F 21) (F 22) (F 23) (F 24) (F 25) (F 26) (F 27) (F 28) (F 29) (F 30) (F 31) (F 32) (F 33) (F 34) (F 35) (F 36) (F 37) (F 38) (F 39) (F 40) (F 41) (F 42) (F 43) (F 49) (F 50) (F 51) (F 52) (F 53) (F 54) (F 55) (F 56) (F 57) (F 58) (F 59) (n 9) (n 11) (n 12) (n 44) (n 45) (n 46) (n 47) (n 48))) A) ([.ref h0, .int v1] : List Value).toArray s 0 0 A) (F0 m 6 ls []) := by
    intro fuel
    induction fuel with
    | zero => intro x_31 x_32 H locs ls hm; exact absurd hm (Nat.not_lt_zero _)
    | succ fuel_34 ih_33 =>
      intro x_31 x_32 H locs ls hm_37 v_35 v_36 hP hD hS hl
      refine lv_iload_n hx hb dX10_children_6 rfl (lv_at hl 0 rfl) ?_
      refine lv_aload_n hx hb dX10_children_7 rfl (lv_at hl 2 rfl) ?_
      refine va_get (D := (dC, dI)) (ci := 10) (v := .int (n 11)) (C := RX10) (T := TX10) (N := 60) hx hb hg gb_10 hown hK hP 0 rfl rfl 11 (by decide) (hg _ gm_fieldLink_RX10_176_ErrandGuildModel_runs_I_) (fun _ h9 => h9) rfl dX10_children_8 ?_
      refine lv_icmp_ge (tgt := 38) hx hb dX10_children_11 (by decide) (fun c_38 => ?_) (fun c_38 => ?_)
      · simp only [i_lt, i_le, i_eq] at c_38
        refine lv_iload_n hx hb dX10_children_38 rfl (lv_at hl 1 rfl) ?_
        exact W.iret (v := x_31) hx hb hr (fun t ht hW => ⟨⟨x_31, (), rfl, trivial, by rw [ht]; exact hP, hD⟩, hS.F ht⟩) hS.2.2 dX10_children_39
      · simp only [i_lt, i_le, i_eq] at c_38
        refine lv_iload_n hx hb dX10_children_14 rfl (lv_at hl 1 rfl) ?_
        refine lv_aload_n hx hb dX10_children_15 rfl (lv_at hl 2 rfl) ?_
        refine va_get (D := (dC, dI)) (ci := 10) (v := .ref (X 15)) (C := RX10) (T := TX10) (N := 60) hx hb hg gb_10 hown hK hP 0 rfl rfl 15 (by decide) (hg _ gm_fieldLink_RX10_51_ErrandGuildModel_giver_AI_) (fun _ h9 => h9) rfl dX10_children_16 ?_
        refine lv_iload_n hx hb dX10_children_19 rfl (lv_at hl 0 rfl) ?_
        refine va_iald (f := F 15) hx hb hK hP 13 12 rfl rfl (vp_in_iff.mpr ⟨by omega, by omega⟩) dX10_children_20 ?_
        refine lv_topi (fun z_39 ez_39 => ?_)
        have qz_39 := congrArg Int32.toInt ez_39
        have bz_39 := bd_at b_5 ez_39
        refine lv_iload_n hx hb dX10_children_21 rfl (lv_at hl 3 rfl) ?_
        refine lv_icmp_ne (tgt := 29) hx hb dX10_children_22 (by decide) (fun c_40 => ?_) (fun c_40 => ?_)
        · simp only [i_lt, i_le, i_eq] at c_40
          refine lv_iconst (v := 0) hx hb dX10_children_29 (by decide) ?_
          refine lv_iadd hx hb dX10_children_30 ?_
          refine lv_topi (fun z_41 ez_41 => ?_)
          have tz_41 : z_41.toInt = x_31.toInt + 0 := ar_add rfl ti_0 ez_41 (by omega)
          refine lv_istore_n (lv' := [(2, .int z_41), (3, .int x_32), (0, .ref h0), (1, .int v1)]) hx hb dX10_children_31 rfl hl (by decide) rfl (fun ls hl => ?_)
          obtain ⟨y_42, ey_42⟩ : ∃ q : Int32, q = x_32 + (1) := ⟨_, rfl⟩
          refine lv_iinc (v := y_42) (lv' := [(3, .int y_42), (2, .int z_41), (0, .ref h0), (1, .int v1)]) hx hb dX10_children_32 hl (k := 1) rfl (by rw [ey_42]; rfl) (by decide) rfl (fun ls hl => ?_)
          have ty_42 : y_42.toInt = x_32.toInt + (1) := ar_add rfl ti_1 ey_42 (by omega)
          refine lv_goto (tgt := 6) hx hb dX10_children_35 (by decide) ?_
          exact ih_33 z_41 y_42 H locs ls (by omega) (by omega) (by omega) hP hD hS (lv_sub hl [0, 1, 2, 3] rfl)
        · simp only [i_lt, i_le, i_eq] at c_40
          refine lv_iconst (v := 1) hx hb dX10_children_25 (by decide) ?_
          refine lv_goto (tgt := 30) hx hb dX10_children_26 (by decide) ?_
          refine lv_iadd hx hb dX10_children_30 ?_
          refine lv_topi (fun z_43 ez_43 => ?_)
          have tz_43 : z_43.toInt = x_31.toInt + 1 := ar_add rfl ti_1 ez_43 (by omega)
          refine lv_istore_n (lv' := [(2, .int z_43), (3, .int x_32), (0, .ref h0), (1, .int v1)]) hx hb dX10_children_31 rfl hl (by decide) rfl (fun ls hl => ?_)
          obtain ⟨y_44, ey_44⟩ : ∃ q : Int32, q = x_32 + (1) := ⟨_, rfl⟩
          refine lv_iinc (v := y_44) (lv' := [(3, .int y_44), (2, .int z_43), (0, .ref h0), (1, .int v1)]) hx hb dX10_children_32 hl (k := 1) rfl (by rw [ey_44]; rfl) (by decide) rfl (fun ls hl => ?_)
          have ty_44 : y_44.toInt = x_32.toInt + (1) := ar_add rfl ti_1 ey_44 (by omega)
          refine lv_goto (tgt := 6) hx hb dX10_children_35 (by decide) ?_
          exact ih_33 z_43 y_44 H locs ls (by omega) (by omega) (by omega) hP hD hS (lv_sub hl [0, 1, 2, 3] rfl)
  exact L6 _ (0) z_30 _ _ _ (Nat.lt_succ_self _) (by have t_0 := ti_0; omega) (by have t_0 := ti_0; omega) hP hD hS (lv_sub hl [0, 1, 2, 3] rfl)

set_option maxHeartbeats 8000000 in
set_option maxRecDepth 100000 in
theorem c_X10_free (l : Launch) (dC : Nat → ClassId) (dI : Nat → Nat → Nat) (kp : Int) (h0 : Nat) (X : Nat → Nat) (C : Nat → ClassId) (F : Nat → Nat → Int32) (n : Nat → Int32) (sz : Nat) (hI : I10 kp F n) : Met l yX10_free (.code yX10_free cX10_free 2 (some .int) :: gw) ({ frames := 0, cells := 0, slots := 0, locals := 0 }) (va_Pc [.ref h0] (fun U => U.heap.size = sz ∧ va_P (dC, dI) vwCl (w10 h0 X C (F 0) (F 1) (F 2) (F 3) (F 4) (F 5) (F 6) (F 7) (F 8) (F 10) (F 13) (F 14) (F 15) (F 16) (F 17) (F 18) (F 19) (F 20) (F 21) (F 22) (F 23) (F 24) (F 25) (F 26) (F 27) (F 28) (F 29) (F 30) (F 31) (F 32) (F 33) (F 34) (F 35) (F 36) (F 37) (F 38) (F 39) (F 40) (F 41) (F 42) (F 43) (F 49) (F 50) (F 51) (F 52) (F 53) (F 54) (F 55) (F 56) (F 57) (F 58) (F 59) (n 9) (n 11) (n 12) (n 44) (n 45) (n 46) (n 47) (n 48)) U.heap ∧ va_K (dC, dI) vwCl (t10 C) U ∧ va_D (fun _ => True) (w10 h0 X C (F 0) (F 1) (F 2) (F 3) (F 4) (F 5) (F 6) (F 7) (F 8) (F 10) (F 13) (F 14) (F 15) (F 16) (F 17) (F 18) (F 19) (F 20) (F 21) (F 22) (F 23) (F 24) (F 25) (F 26) (F 27) (F 28) (F 29) (F 30) (F 31) (F 32) (F 33) (F 34) (F 35) (F 36) (F 37) (F 38) (F 39) (F 40) (F 41) (F 42) (F 43) (F 49) (F 50) (F 51) (F 52) (F 53) (F 54) (F 55) (F 56) (F 57) (F 58) (F 59) (n 9) (n 11) (n 12) (n 44) (n 45) (n 46) (n 47) (n 48)) ∧ nx U)) (va_Qi (fun (r : Int32) (u : Unit) => -1 ≤ r.toInt ∧ r.toInt ≤ 5) (fun _ t => va_P (dC, dI) vwCl (w10 h0 X C (F 0) (F 1) (F 2) (F 3) (F 4) (F 5) (F 6) (F 7) (F 8) (F 10) (F 13) (F 14) (F 15) (F 16) (F 17) (F 18) (F 19) (F 20) (F 21) (F 22) (F 23) (F 24) (F 25) (F 26) (F 27) (F 28) (F 29) (F 30) (F 31) (F 32) (F 33) (F 34) (F 35) (F 36) (F 37) (F 38) (F 39) (F 40) (F 41) (F 42) (F 43) (F 49) (F 50) (F 51) (F 52) (F 53) (F 54) (F 55) (F 56) (F 57) (F 58) (F 59) (n 9) (n 11) (n 12) (n 44) (n 45) (n 46) (n 47) (n 48)) t.heap ∧ va_D (va_A (w10 h0 X C (F 0) (F 1) (F 2) (F 3) (F 4) (F 5) (F 6) (F 7) (F 8) (F 10) (F 13) (F 14) (F 15) (F 16) (F 17) (F 18) (F 19) (F 20) (F 21) (F 22) (F 23) (F 24) (F 25) (F 26) (F 27) (F 28) (F 29) (F 30) (F 31) (F 32) (F 33) (F 34) (F 35) (F 36) (F 37) (F 38) (F 39) (F 40) (F 41) (F 42) (F 43) (F 49) (F 50) (F 51) (F 52) (F 53) (F 54) (F 55) (F 56) (F 57) (F 58) (F 59) (n 9) (n 11) (n 12) (n 44) (n 45) (n 46) (n 47) (n 48)) sz) (w10 h0 X C (F 0) (F 1) (F 2) (F 3) (F 4) (F 5) (F 6) (F 7) (F 8) (F 10) (F 13) (F 14) (F 15) (F 16) (F 17) (F 18) (F 19) (F 20) (F 21) (F 22) (F 23) (F 24) (F 25) (F 26) (F 27) (F 28) (F 29) (F 30) (F 31) (F 32) (F 33) (F 34) (F 35) (F 36) (F 37) (F 38) (F 39) (F 40) (F 41) (F 42) (F 43) (F 49) (F 50) (F 51) (F 52) (F 53) (F 54) (F 55) (F 56) (F 57) (F 58) (F 59) (n 9) (n 11) (n 12) (n 44) (n 45) (n 46) (n 47) (n 48))) (va_A (w10 h0 X C (F 0) (F 1) (F 2) (F 3) (F 4) (F 5) (F 6) (F 7) (F 8) (F 10) (F 13) (F 14) (F 15) (F 16) (F 17) (F 18) (F 19) (F 20) (F 21) (F 22) (F 23) (F 24) (F 25) (F 26) (F 27) (F 28) (F 29) (F 30) (F 31) (F 32) (F 33) (F 34) (F 35) (F 36) (F 37) (F 38) (F 39) (F 40) (F 41) (F 42) (F 43) (F 49) (F 50) (F 51) (F 52) (F 53) (F 54) (F 55) (F 56) (F 57) (F 58) (F 59) (n 9) (n 11) (n 12) (n 44) (n 45) (n 46) (n 47) (n 48)) sz)) 0 0 (va_A (w10 h0 X C (F 0) (F 1) (F 2) (F 3) (F 4) (F 5) (F 6) (F 7) (F 8) (F 10) (F 13) (F 14) (F 15) (F 16) (F 17) (F 18) (F 19) (F 20) (F 21) (F 22) (F 23) (F 24) (F 25) (F 26) (F 27) (F 28) (F 29) (F 30) (F 31) (F 32) (F 33) (F 34) (F 35) (F 36) (F 37) (F 38) (F 39) (F 40) (F 41) (F 42) (F 43) (F 49) (F 50) (F 51) (F 52) (F 53) (F 54) (F 55) (F 56) (F 57) (F 58) (F 59) (n 9) (n 11) (n 12) (n 44) (n 45) (n 46) (n 47) (n 48)) sz) := by
  refine Met.ofW (cc := cX10_free) (maxL := 2) (ret := (some .int)) (by decide) rfl ?_
  intro p e s m args below meth c s₁ B hml hv
  obtain ⟨rfl, hsz, hP, hK, hD0, hN⟩ := hv
  have hx := B.exec
  have hb := B.bytes
  have hr := B.returns
  have hts := atoms_spec (ws := .code yX10_free cX10_free 2 (some .int) :: gw) B.pre
  have hg : ∀ w ∈ gw, w.before _ s = true := fun w h => hts w (List.mem_cons_of_mem _ h)
  have hown : s.vm.findClass RX10 = some m.cls := findClass_of_methodNamed B.named
  have hlocks := B.notSynchronized
  subst hsz
  have hD := hD0.self (sz := s.heap.size)
  generalize hAe : va_A (w10 h0 X C (F 0) (F 1) (F 2) (F 3) (F 4) (F 5) (F 6) (F 7) (F 8) (F 10) (F 13) (F 14) (F 15) (F 16) (F 17) (F 18) (F 19) (F 20) (F 21) (F 22) (F 23) (F 24) (F 25) (F 26) (F 27) (F 28) (F 29) (F 30) (F 31) (F 32) (F 33) (F 34) (F 35) (F 36) (F 37) (F 38) (F 39) (F 40) (F 41) (F 42) (F 43) (F 49) (F 50) (F 51) (F 52) (F 53) (F 54) (F 55) (F 56) (F 57) (F 58) (F 59) (n 9) (n 11) (n 12) (n 44) (n 45) (n 46) (n 47) (n 48)) s.heap.size = A at hD ⊢
  have hA : ∀ q : Nat, s.heap.size ≤ q → A q := fun q h => by rw [← hAe]; exact Or.inr h
  have hS : va_S A s.heap s.heap [] := va_S.rf
  have hP : va_P (dC, dI) vwCl (w10 h0 X C (F 0) (F 1) (F 2) (F 3) (F 4) (F 5) (F 6) (F 7) (F 8) (F 10) (F 13) (F 14) (F 15) (F 16) (F 17) (F 18) (F 19) (F 20) (F 21) (F 22) (F 23) (F 24) (F 25) (F 26) (F 27) (F 28) (F 29) (F 30) (F 31) (F 32) (F 33) (F 34) (F 35) (F 36) (F 37) (F 38) (F 39) (F 40) (F 41) (F 42) (F 43) (F 49) (F 50) (F 51) (F 52) (F 53) (F 54) (F 55) (F 56) (F 57) (F 58) (F 59) (n 9) (n 11) (n 12) (n 44) (n 45) (n 46) (n 47) (n 48)) s.heap := hP
  have hl := lv_entry ([.ref h0]) (n := 2) (Nat.le_of_ble_eq_true rfl)
  rw [lg_entry_eq]
  generalize (lg_sl ([.ref h0]) ++ List.replicate (2 - (lg_sl ([.ref h0])).length) Slot.unset).toArray = ls at hl ⊢
  have hl : lv_has ls 2 [(0, .ref h0)] := hl
  obtain ⟨b_1, b_2, b_3, b_4, b_5, b_6, b_7, b_8, b_9, b_10, b_11, b_12, i_13, i_14, i_15, i_16, i_17, i_18, i_19, j_20, j_21, j_22, j_23, j_24, j_25, j_26, j_27, j_28, j_29⟩ := id hI
  refine lv_iconst (v := 0) hx hb dX10_free_0 (by decide) ?_
  refine lv_istore_n (lv' := [(1, .int 0), (0, .ref h0)]) hx hb dX10_free_1 rfl hl (by decide) rfl (fun ls hl => ?_)
  have L2 : ∀ (fuel : Nat) (x_30 : Int32) (H : Heap) (locs : List Loc) (ls : Array Slot), (7 - x_30.toInt).toNat < fuel → (0 ≤ x_30.toInt ∧ x_30.toInt ≤ 6) → va_P (dC, dI) vwCl (w10 h0 X C (F 0) (F 1) (F 2) (F 3) (F 4) (F 5) (F 6) (F 7) (F 8) (F 10) (F 13) (F 14) (F 15) (F 16) (F 17) (F 18) (F 19) (F 20) (F 21) (F 22) (F 23) (F 24) (F 25) (F 26) (F 27) (F 28) (F 29) (F 30) (F 31) (F 32) (F 33) (F 34) (F 35) (F 36) (F 37) (F 38) (F 39) (F 40) (F 41) (F 42) (F 43) (F 49) (F 50) (F 51) (F 52) (F 53) (F 54) (F 55) (F 56) (F 57) (F 58) (F 59) (n 9) (n 11) (n 12) (n 44) (n 45) (n 46) (n 47) (n 48)) H → va_D A (w10 h0 X C (F 0) (F 1) (F 2) (F 3) (F 4) (F 5) (F 6) (F 7) (F 8) (F 10) (F 13) (F 14) (F 15) (F 16) (F 17) (F 18) (F 19) (F 20) (F 21) (F 22) (F 23) (F 24) (F 25) (F 26) (F 27) (F 28) (F 29) (F 30) (F 31) (F 32) (F 33) (F 34) (F 35) (F 36) (F 37) (F 38) (F 39) (F 40) (F 41) (F 42) (F 43) (F 49) (F 50) (F 51) (F 52) (F 53) (F 54) (F 55) (F 56) (F 57) (F 58) (F 59) (n 9) (n 11) (n 12) (n 44) (n 45) (n 46) (n 47) (n 48)) → va_S A s.heap H locs → lv_has ls 2 [(1, .int x_30), (0, .ref h0)] → W p l e (headSpec (.code yX10_free cX10_free 2 (some .int) :: gw) ({ frames := 0, cells := 0, slots := 0, locals := 0 })).room s m ([.ref h0] : List Value).toArray below meth c H locs 0 0 (MQ below (va_Qi (fun (r : Int32) (u : Unit) => -1 ≤ r.toInt ∧ r.toInt ≤ 5) (fun _ t => va_P (dC, dI) vwCl (w10 h0 X C (F 0) (F 1) (F 2) (F 3) (F 4) (F 5) (F 6) (F 7) (F 8) (F 10) (F 13) (F 14) (F 15) (F 16) (F 17) (F 18) (F 19) (F 20) (F 21) (F 22) (F 23) (F 24) (F 25) (F 26) (F 27) (F 28) (F 29) (F 30) (F 31) (F 32) (F 33) (F 34) (F 35) (F 36) (F 37) (F 38) (F 39) (F 40) (F 41) (F 42) (F 43) (F 49) (F 50) (F 51) (F 52) (F 53) (F 54) (F 55) (F 56) (F 57) (F 58) (F 59) (n 9) (n 11) (n 12) (n 44) (n 45) (n 46) (n 47) (n 48)) t.heap ∧ va_D A (w10 h0 X C (F 0) (F 1) (F 2) (F 3) (F 4) (F 5) (F 6) (F 7) (F 8) (F 10) (F 13) (F 14) (F 15) (F 16) (F 17) (F 18) (F 19) (F 20) (F 21) (F 22) (F 23) (F 24) (F 25) (F 26) (F 27) (F 28) (F 29) (F 30) (F 31) (F 32) (F 33) (F 34) (F 35) (F 36) (F 37) (F 38) (F 39) (F 40) (F 41) (F 42) (F 43) (F 49) (F 50) (F 51) (F 52) (F 53) (F 54) (F 55) (F 56) (F 57) (F 58) (F 59) (n 9) (n 11) (n 12) (n 44) (n 45) (n 46) (n 47) (n 48))) A) ([.ref h0] : List Value).toArray s 0 0 A) (F0 m 2 ls []) := by
    intro fuel
    induction fuel with
    | zero => intro x_30 H locs ls hm; exact absurd hm (Nat.not_lt_zero _)
    | succ fuel_32 ih_31 =>
      intro x_30 H locs ls hm_34 v_33 hP hD hS hl
      refine lv_iload_n hx hb dX10_free_2 rfl (lv_at hl 0 rfl) ?_
      refine lv_aload_n hx hb dX10_free_3 rfl (lv_at hl 1 rfl) ?_
      refine va_get (D := (dC, dI)) (ci := 10) (v := .int (n 9)) (C := RX10) (T := TX10) (N := 60) hx hb hg gb_10 hown hK hP 0 rfl rfl 9 (by decide) (hg _ gm_fieldLink_RX10_38_ErrandGuildModel_threads_I_) (fun _ h9 => h9) rfl dX10_free_4 ?_
      refine lv_icmp_ge (tgt := 28) hx hb dX10_free_7 (by decide) (fun c_35 => ?_) (fun c_35 => ?_)
      · simp only [i_lt, i_le, i_eq] at c_35
        refine lv_iconst (v := -1) hx hb dX10_free_28 (by decide) ?_
        exact W.iret (v := -1) hx hb hr (fun t ht hW => ⟨⟨-1, (), rfl, (by have t_ := ti_m1; show -1 ≤ (-1 : Int32).toInt ∧ (-1 : Int32).toInt ≤ 5; omega), by rw [ht]; exact hP, hD⟩, hS.F ht⟩) hS.2.2 dX10_free_29
      · simp only [i_lt, i_le, i_eq] at c_35
        refine lv_aload_n hx hb dX10_free_10 rfl (lv_at hl 1 rfl) ?_
        refine va_get (D := (dC, dI)) (ci := 10) (v := .ref (X 10)) (C := RX10) (T := TX10) (N := 60) hx hb hg gb_10 hown hK hP 0 rfl rfl 10 (by decide) (hg _ gm_fieldLink_RX10_42_ErrandGuildModel_onThread_AI_) (fun _ h9 => h9) rfl dX10_free_11 ?_
        refine lv_iload_n hx hb dX10_free_14 rfl (lv_at hl 0 rfl) ?_
        refine va_iald (f := F 10) hx hb hK hP 10 9 rfl rfl (vp_in_iff.mpr ⟨by omega, by omega⟩) dX10_free_15 ?_
        refine lv_topi (fun z_36 ez_36 => ?_)
        have qz_36 := congrArg Int32.toInt ez_36
        refine lv_iconst (v := -1) hx hb dX10_free_16 (by decide) ?_
        refine lv_icmp_ne (tgt := 22) hx hb dX10_free_17 (by decide) (fun c_37 => ?_) (fun c_37 => ?_)
        · simp only [i_lt, i_le, i_eq, ti_m1] at c_37
          obtain ⟨y_38, ey_38⟩ : ∃ q : Int32, q = x_30 + (1) := ⟨_, rfl⟩
          refine lv_iinc (v := y_38) (lv' := [(1, .int y_38), (0, .ref h0)]) hx hb dX10_free_22 hl (k := 0) rfl (by rw [ey_38]; rfl) (by decide) rfl (fun ls hl => ?_)
          have ty_38 : y_38.toInt = x_30.toInt + (1) := ar_add rfl ti_1 ey_38 (by omega)
          refine lv_goto (tgt := 2) hx hb dX10_free_25 (by decide) ?_
          exact ih_31 y_38 H locs ls (by omega) (by omega) hP hD hS (lv_sub hl [0, 1] rfl)
        · simp only [i_lt, i_le, i_eq, ti_m1] at c_37
          refine lv_iload_n hx hb dX10_free_20 rfl (lv_at hl 0 rfl) ?_
          exact W.iret (v := x_30) hx hb hr (fun t ht hW => ⟨⟨x_30, (), rfl, (by show -1 ≤ (x_30 : Int32).toInt ∧ (x_30 : Int32).toInt ≤ 5; omega), by rw [ht]; exact hP, hD⟩, hS.F ht⟩) hS.2.2 dX10_free_21
  exact L2 _ (0) _ _ _ (Nat.lt_succ_self _) (by have t_0 := ti_0; omega) hP hD hS (lv_sub hl [0, 1] rfl)

set_option maxHeartbeats 8000000 in
set_option maxRecDepth 100000 in
theorem c_X10_isLeft (l : Launch) (dC : Nat → ClassId) (dI : Nat → Nat → Nat) (kp : Int) (h0 : Nat) (X : Nat → Nat) (C : Nat → ClassId) (F : Nat → Nat → Int32) (n : Nat → Int32) (sz : Nat) (hI : I10 kp F n) : Met l yX10_isLeft (.code yX10_isLeft cX10_isLeft 3 (some .boolean) :: gw) ({ frames := 1, cells := 0, slots := 0, locals := 21 }) (va_Pc [.ref h0] (fun U => U.heap.size = sz ∧ va_P (dC, dI) vwCl (w10 h0 X C (F 0) (F 1) (F 2) (F 3) (F 4) (F 5) (F 6) (F 7) (F 8) (F 10) (F 13) (F 14) (F 15) (F 16) (F 17) (F 18) (F 19) (F 20) (F 21) (F 22) (F 23) (F 24) (F 25) (F 26) (F 27) (F 28) (F 29) (F 30) (F 31) (F 32) (F 33) (F 34) (F 35) (F 36) (F 37) (F 38) (F 39) (F 40) (F 41) (F 42) (F 43) (F 49) (F 50) (F 51) (F 52) (F 53) (F 54) (F 55) (F 56) (F 57) (F 58) (F 59) (n 9) (n 11) (n 12) (n 44) (n 45) (n 46) (n 47) (n 48)) U.heap ∧ va_K (dC, dI) vwCl (t10 C) U ∧ va_D (fun _ => True) (w10 h0 X C (F 0) (F 1) (F 2) (F 3) (F 4) (F 5) (F 6) (F 7) (F 8) (F 10) (F 13) (F 14) (F 15) (F 16) (F 17) (F 18) (F 19) (F 20) (F 21) (F 22) (F 23) (F 24) (F 25) (F 26) (F 27) (F 28) (F 29) (F 30) (F 31) (F 32) (F 33) (F 34) (F 35) (F 36) (F 37) (F 38) (F 39) (F 40) (F 41) (F 42) (F 43) (F 49) (F 50) (F 51) (F 52) (F 53) (F 54) (F 55) (F 56) (F 57) (F 58) (F 59) (n 9) (n 11) (n 12) (n 44) (n 45) (n 46) (n 47) (n 48)) ∧ nx U)) (va_Qi (fun (r : Int32) (u : Unit) => (r = 1 ∧ 0 < (n 11).toInt) ∨ (r = 0 ∧ True)) (fun _ t => va_P (dC, dI) vwCl (w10 h0 X C (F 0) (F 1) (F 2) (F 3) (F 4) (F 5) (F 6) (F 7) (F 8) (F 10) (F 13) (F 14) (F 15) (F 16) (F 17) (F 18) (F 19) (F 20) (F 21) (F 22) (F 23) (F 24) (F 25) (F 26) (F 27) (F 28) (F 29) (F 30) (F 31) (F 32) (F 33) (F 34) (F 35) (F 36) (F 37) (F 38) (F 39) (F 40) (F 41) (F 42) (F 43) (F 49) (F 50) (F 51) (F 52) (F 53) (F 54) (F 55) (F 56) (F 57) (F 58) (F 59) (n 9) (n 11) (n 12) (n 44) (n 45) (n 46) (n 47) (n 48)) t.heap ∧ va_D (va_A (w10 h0 X C (F 0) (F 1) (F 2) (F 3) (F 4) (F 5) (F 6) (F 7) (F 8) (F 10) (F 13) (F 14) (F 15) (F 16) (F 17) (F 18) (F 19) (F 20) (F 21) (F 22) (F 23) (F 24) (F 25) (F 26) (F 27) (F 28) (F 29) (F 30) (F 31) (F 32) (F 33) (F 34) (F 35) (F 36) (F 37) (F 38) (F 39) (F 40) (F 41) (F 42) (F 43) (F 49) (F 50) (F 51) (F 52) (F 53) (F 54) (F 55) (F 56) (F 57) (F 58) (F 59) (n 9) (n 11) (n 12) (n 44) (n 45) (n 46) (n 47) (n 48)) sz) (w10 h0 X C (F 0) (F 1) (F 2) (F 3) (F 4) (F 5) (F 6) (F 7) (F 8) (F 10) (F 13) (F 14) (F 15) (F 16) (F 17) (F 18) (F 19) (F 20) (F 21) (F 22) (F 23) (F 24) (F 25) (F 26) (F 27) (F 28) (F 29) (F 30) (F 31) (F 32) (F 33) (F 34) (F 35) (F 36) (F 37) (F 38) (F 39) (F 40) (F 41) (F 42) (F 43) (F 49) (F 50) (F 51) (F 52) (F 53) (F 54) (F 55) (F 56) (F 57) (F 58) (F 59) (n 9) (n 11) (n 12) (n 44) (n 45) (n 46) (n 47) (n 48))) (va_A (w10 h0 X C (F 0) (F 1) (F 2) (F 3) (F 4) (F 5) (F 6) (F 7) (F 8) (F 10) (F 13) (F 14) (F 15) (F 16) (F 17) (F 18) (F 19) (F 20) (F 21) (F 22) (F 23) (F 24) (F 25) (F 26) (F 27) (F 28) (F 29) (F 30) (F 31) (F 32) (F 33) (F 34) (F 35) (F 36) (F 37) (F 38) (F 39) (F 40) (F 41) (F 42) (F 43) (F 49) (F 50) (F 51) (F 52) (F 53) (F 54) (F 55) (F 56) (F 57) (F 58) (F 59) (n 9) (n 11) (n 12) (n 44) (n 45) (n 46) (n 47) (n 48)) sz)) 0 0 (va_A (w10 h0 X C (F 0) (F 1) (F 2) (F 3) (F 4) (F 5) (F 6) (F 7) (F 8) (F 10) (F 13) (F 14) (F 15) (F 16) (F 17) (F 18) (F 19) (F 20) (F 21) (F 22) (F 23) (F 24) (F 25) (F 26) (F 27) (F 28) (F 29) (F 30) (F 31) (F 32) (F 33) (F 34) (F 35) (F 36) (F 37) (F 38) (F 39) (F 40) (F 41) (F 42) (F 43) (F 49) (F 50) (F 51) (F 52) (F 53) (F 54) (F 55) (F 56) (F 57) (F 58) (F 59) (n 9) (n 11) (n 12) (n 44) (n 45) (n 46) (n 47) (n 48)) sz) := by
  refine Met.ofW (cc := cX10_isLeft) (maxL := 3) (ret := (some .boolean)) (by decide) rfl ?_
  intro p e s m args below meth c s₁ B hml hv
  obtain ⟨rfl, hsz, hP, hK, hD0, hN⟩ := hv
  have hx := B.exec
  have hb := B.bytes
  have hr := B.returns
  have hts := atoms_spec (ws := .code yX10_isLeft cX10_isLeft 3 (some .boolean) :: gw) B.pre
  have hg : ∀ w ∈ gw, w.before _ s = true := fun w h => hts w (List.mem_cons_of_mem _ h)
  have hown : s.vm.findClass RX10 = some m.cls := findClass_of_methodNamed B.named
  have hlocks := B.notSynchronized
  subst hsz
  have hD := hD0.self (sz := s.heap.size)
  generalize hAe : va_A (w10 h0 X C (F 0) (F 1) (F 2) (F 3) (F 4) (F 5) (F 6) (F 7) (F 8) (F 10) (F 13) (F 14) (F 15) (F 16) (F 17) (F 18) (F 19) (F 20) (F 21) (F 22) (F 23) (F 24) (F 25) (F 26) (F 27) (F 28) (F 29) (F 30) (F 31) (F 32) (F 33) (F 34) (F 35) (F 36) (F 37) (F 38) (F 39) (F 40) (F 41) (F 42) (F 43) (F 49) (F 50) (F 51) (F 52) (F 53) (F 54) (F 55) (F 56) (F 57) (F 58) (F 59) (n 9) (n 11) (n 12) (n 44) (n 45) (n 46) (n 47) (n 48)) s.heap.size = A at hD ⊢
  have hA : ∀ q : Nat, s.heap.size ≤ q → A q := fun q h => by rw [← hAe]; exact Or.inr h
  have hS : va_S A s.heap s.heap [] := va_S.rf
  have hP : va_P (dC, dI) vwCl (w10 h0 X C (F 0) (F 1) (F 2) (F 3) (F 4) (F 5) (F 6) (F 7) (F 8) (F 10) (F 13) (F 14) (F 15) (F 16) (F 17) (F 18) (F 19) (F 20) (F 21) (F 22) (F 23) (F 24) (F 25) (F 26) (F 27) (F 28) (F 29) (F 30) (F 31) (F 32) (F 33) (F 34) (F 35) (F 36) (F 37) (F 38) (F 39) (F 40) (F 41) (F 42) (F 43) (F 49) (F 50) (F 51) (F 52) (F 53) (F 54) (F 55) (F 56) (F 57) (F 58) (F 59) (n 9) (n 11) (n 12) (n 44) (n 45) (n 46) (n 47) (n 48)) s.heap := hP
  have hl := lv_entry ([.ref h0]) (n := 3) (Nat.le_of_ble_eq_true rfl)
  rw [lg_entry_eq]
  generalize (lg_sl ([.ref h0]) ++ List.replicate (3 - (lg_sl ([.ref h0])).length) Slot.unset).toArray = ls at hl ⊢
  have hl : lv_has ls 3 [(0, .ref h0)] := hl
  obtain ⟨b_1, b_2, b_3, b_4, b_5, b_6, b_7, b_8, b_9, b_10, b_11, b_12, i_13, i_14, i_15, i_16, i_17, i_18, i_19, j_20, j_21, j_22, j_23, j_24, j_25, j_26, j_27, j_28, j_29⟩ := id hI
  refine lv_iconst (v := 0) hx hb dX10_isLeft_0 (by decide) ?_
  refine lv_istore_n (lv' := [(1, .int 0), (0, .ref h0)]) hx hb dX10_isLeft_1 rfl hl (by decide) rfl (fun ls hl => ?_)
  refine lv_iconst (v := 0) hx hb dX10_isLeft_2 (by decide) ?_
  refine lv_istore_n (lv' := [(2, .int 0), (1, .int 0), (0, .ref h0)]) hx hb dX10_isLeft_3 rfl hl (by decide) rfl (fun ls hl => ?_)
  have L4 : ∀ (fuel : Nat) (x_30 : Int32) (x_31 : Int32) (H : Heap) (locs : List Loc) (ls : Array Slot), (201 - x_31.toInt).toNat < fuel → (0 ≤ x_31.toInt ∧ x_31.toInt ≤ 200) → (x_30.toInt = 0 ∨ (x_30.toInt = 1 ∧ 0 < (n 11).toInt)) → va_P (dC, dI) vwCl (w10 h0 X C (F 0) (F 1) (F 2) (F 3) (F 4) (F 5) (F 6) (F 7) (F 8) (F 10) (F 13) (F 14) (F 15) (F 16) (F 17) (F 18) (F 19) (F 20) (F 21) (F 22) (F 23) (F 24) (F 25) (F 26) (F 27) (F 28) (F 29) (F 30) (F 31) (F 32) (F 33) (F 34) (F 35) (F 36) (F 37) (F 38) (F 39) (F 40) (F 41) (F 42) (F 43) (F 49) (F 50) (F 51) (F 52) (F 53) (F 54) (F 55) (F 56) (F 57) (F 58) (F 59) (n 9) (n 11) (n 12) (n 44) (n 45) (n 46) (n 47) (n 48)) H → va_D A (w10 h0 X C (F 0) (F 1) (F 2) (F 3) (F 4) (F 5) (F 6) (F 7) (F 8) (F 10) (F 13) (F 14) (F 15) (F 16) (F 17) (F 18) (F 19) (F 20) (F 21) (F 22) (F 23) (F 24) (F 25) (F 26) (F 27) (F 28) (F 29) (F 30) (F 31) (F 32) (F 33) (F 34) (F 35) (F 36) (F 37) (F 38) (F 39) (F 40) (F 41) (F 42) (F 43) (F 49) (F 50) (F 51) (F 52) (F 53) (F 54) (F 55) (F 56) (F 57) (F 58) (F 59) (n 9) (n 11) (n 12) (n 44) (n 45) (n 46) (n 47) (n 48)) → va_S A s.heap H locs → lv_has ls 3 [(2, .int x_31), (1, .int x_30), (0, .ref h0)] → W p l e (headSpec (.code yX10_isLeft cX10_isLeft 3 (some .boolean) :: gw) ({ frames := 1, cells := 0, slots := 0, locals := 21 })).room s m ([.ref h0] : List Value).toArray below meth c H locs 0 0 (MQ below (va_Qi (fun (r : Int32) (u : Unit) => (r = 1 ∧ 0 < (n 11).toInt) ∨ (r = 0 ∧ True)) (fun _ t => va_P (dC, dI) vwCl (w10 h0 X C (F 0) (F 1) (F 2) (F 3) (F 4) (F 5) (F 6) (F 7) (F 8) (F 10) (F 13) (F 14) (F 15) (F 16) (F 17) (F 18) (F 19) (F 20) (F 21) (F 22) (F 23) (F 24) (F 25) (F 26) (F 27) (F 28) (F 29) (F 30) (F 31) (F 32) (F 33) (F 34) (F 35) (F 36) (F 37) (F 38) (F 39) (F 40) (F 41) (F 42) (F 43) (F 49) (F 50) (F 51) (F 52) (F 53) (F 54) (F 55) (F 56) (F 57) (F 58) (F 59) (n 9) (n 11) (n 12) (n 44) (n 45) (n 46) (n 47) (n 48)) t.heap ∧ va_D A (w10 h0 X C (F 0) (F 1) (F 2) (F 3) (F 4) (F 5) (F 6) (F 7) (F 8) (F 10) (F 13) (F 14) (F 15) (F 16) (F 17) (F 18) (F 19) (F 20) (F 21) (F 22) (F 23) (F 24) (F 25) (F 26) (F 27) (F 28) (F 29) (F 30) (F 31) (F 32) (F 33) (F 34) (F 35) (F 36) (F 37) (F 38) (F 39) (F 40) (F 41) (F 42) (F 43) (F 49) (F 50) (F 51) (F 52) (F 53) (F 54) (F 55) (F 56) (F 57) (F 58) (F 59) (n 9) (n 11) (n 12) (n 44) (n 45) (n 46) (n 47) (n 48))) A) ([.ref h0] : List Value).toArray s 0 0 A) (F0 m 4 ls []) := by
    intro fuel
    induction fuel with
    | zero => intro x_30 x_31 H locs ls hm; exact absurd hm (Nat.not_lt_zero _)
    | succ fuel_33 ih_32 =>
      intro x_30 x_31 H locs ls hm_36 v_34 v_35 hP hD hS hl
      refine lv_iload_n hx hb dX10_isLeft_4 rfl (lv_at hl 0 rfl) ?_
      refine lv_aload_n hx hb dX10_isLeft_5 rfl (lv_at hl 2 rfl) ?_
      refine va_get (D := (dC, dI)) (ci := 10) (v := .int (n 11)) (C := RX10) (T := TX10) (N := 60) hx hb hg gb_10 hown hK hP 0 rfl rfl 11 (by decide) (hg _ gm_fieldLink_RX10_176_ErrandGuildModel_runs_I_) (fun _ h9 => h9) rfl dX10_isLeft_6 ?_
      refine lv_icmp_ge (tgt := 36) hx hb dX10_isLeft_9 (by decide) (fun c_37 => ?_) (fun c_37 => ?_)
      · simp only [i_lt, i_le, i_eq] at c_37
        refine lv_iload_n hx hb dX10_isLeft_36 rfl (lv_at hl 1 rfl) ?_
        rcases zo (show x_30.toInt = 0 ∨ x_30.toInt = 1 by omega) with rfl | rfl
        · exact W.zret (v := 1) hx hb hr rfl (fun t ht hW => ⟨⟨1, (), rfl, (Or.inl ⟨rfl, by have t_ := ti_1; omega⟩), by rw [ht]; exact hP, hD⟩, hS.F ht⟩) hS.2.2 dX10_isLeft_37
        · exact W.zret (v := 0) hx hb hr rfl (fun t ht hW => ⟨⟨0, (), rfl, (Or.inr ⟨rfl, trivial⟩), by rw [ht]; exact hP, hD⟩, hS.F ht⟩) hS.2.2 dX10_isLeft_37
      · simp only [i_lt, i_le, i_eq] at c_37
        refine lv_iload_n hx hb dX10_isLeft_12 rfl (lv_at hl 1 rfl) ?_
        refine lv_if_ne (tgt := 24) hx hb dX10_isLeft_13 (by decide) (fun c_38 => ?_) (fun c_38 => ?_)
        · simp only [i_lt, i_le, i_eq, ti_0] at c_38
          refine lv_iconst (v := 1) hx hb dX10_isLeft_24 (by decide) ?_
          refine lv_goto (tgt := 29) hx hb dX10_isLeft_25 (by decide) ?_
          refine lv_istore_n (lv' := [(1, .int 1), (2, .int x_31), (0, .ref h0)]) hx hb dX10_isLeft_29 rfl hl (by decide) rfl (fun ls hl => ?_)
          obtain ⟨y_39, ey_39⟩ : ∃ q : Int32, q = x_31 + (1) := ⟨_, rfl⟩
          refine lv_iinc (v := y_39) (lv' := [(2, .int y_39), (1, .int 1), (0, .ref h0)]) hx hb dX10_isLeft_30 hl (k := 1) rfl (by rw [ey_39]; rfl) (by decide) rfl (fun ls hl => ?_)
          have ty_39 : y_39.toInt = x_31.toInt + (1) := ar_add rfl ti_1 ey_39 (by omega)
          refine lv_goto (tgt := 4) hx hb dX10_isLeft_33 (by decide) ?_
          exact ih_32 (1) y_39 H locs ls (by have t_0 := ti_1; omega) (by have t_0 := ti_1; omega) (by have t_0 := ti_1; omega) hP hD hS (lv_sub hl [0, 1, 2] rfl)
        · simp only [i_lt, i_le, i_eq, ti_0] at c_38
          refine lv_aload_n hx hb dX10_isLeft_16 rfl (lv_at hl 2 rfl) ?_
          refine lv_iload_n hx hb dX10_isLeft_17 rfl (lv_at hl 0 rfl) ?_
          have hFc := free_all hD hS hA
          refine va_calli (va_runV (As := [.int x_31]) (rest := []) ⟨hx, hb, hml, hown, hg⟩ (c_X10_isOver l dC dI kp h0 X C F n x_31 H.size ⟨b_1, b_2, b_3, b_4, b_5, b_6, b_7, b_8, b_9, b_10, b_11, b_12, i_13, i_14, i_15, i_16, i_17, i_18, i_19, j_20, j_21, j_22, j_23, j_24, j_25, j_26, j_27, j_28, j_29⟩ (by omega)) (cwV 1 hg (gw_V gm_methodLink_RX10_215_yX10_isOver gm_instanceMethod_yX10_isOver gm_selects_RX10_yX10_isOver_yX10_isOver gm_initialized_RX10 gm_code_yX10_isOver_cX10_isOver_2_some_boolean_) rfl rfl rfl (by decide +kernel) ⟨Nat.le_of_ble_eq_true rfl, Nat.le_of_ble_eq_true rfl⟩) ⟨fun a U g mk q => by obtain ⟨q0, q1, qP, qK, qD, qN⟩ := q; exact ⟨q0, q1, qP, va_K.moved (u := U) (U := U.calling g mk a) (Vm.Alike.refl U.vm) qK, qD, nx_same (u := U) (U := U.calling g mk a) rfl qN⟩, va_recv hK hP (ci := 10) (q0 := 0) rfl rfl, fun U hU hW => ⟨rfl, by rw [hU], by rw [hU]; exact hP, va_K.moved hW.alike hK, hD.weaken (fun _ _ _ _ => trivial), nx_warm hW hN⟩⟩ rfl rfl hl.1 rfl (lv_room (Nat.le_of_ble_eq_true rfl)) dX10_isLeft_18 ⟨Nat.le_of_ble_eq_true rfl, Nat.le_of_ble_eq_true rfl⟩) hS (fun q _ h => hFc q h) hFc (fun r_40 u_41 t H1 locs ht hvm hw hB hz1 hk1 hS => ?_)
          obtain ⟨hP, hD⟩ := hB
          rw [ht] at hP
          have hD := hD.weaken (fun k q _ h => hFc _ h)
          generalize H1 = H at hP hS ⊢
          have hP : va_P (dC, dI) vwCl (w10 h0 X C (F 0) (F 1) (F 2) (F 3) (F 4) (F 5) (F 6) (F 7) (F 8) (F 10) (F 13) (F 14) (F 15) (F 16) (F 17) (F 18) (F 19) (F 20) (F 21) (F 22) (F 23) (F 24) (F 25) (F 26) (F 27) (F 28) (F 29) (F 30) (F 31) (F 32) (F 33) (F 34) (F 35) (F 36) (F 37) (F 38) (F 39) (F 40) (F 41) (F 42) (F 43) (F 49) (F 50) (F 51) (F 52) (F 53) (F 54) (F 55) (F 56) (F 57) (F 58) (F 59) (n 9) (n 11) (n 12) (n 44) (n 45) (n 46) (n 47) (n 48)) H := hP
          have hD : va_D A (w10 h0 X C (F 0) (F 1) (F 2) (F 3) (F 4) (F 5) (F 6) (F 7) (F 8) (F 10) (F 13) (F 14) (F 15) (F 16) (F 17) (F 18) (F 19) (F 20) (F 21) (F 22) (F 23) (F 24) (F 25) (F 26) (F 27) (F 28) (F 29) (F 30) (F 31) (F 32) (F 33) (F 34) (F 35) (F 36) (F 37) (F 38) (F 39) (F 40) (F 41) (F 42) (F 43) (F 49) (F 50) (F 51) (F 52) (F 53) (F 54) (F 55) (F 56) (F 57) (F 58) (F 59) (n 9) (n 11) (n 12) (n 44) (n 45) (n 46) (n 47) (n 48)) := hD
          rcases hw with ⟨rfl, w_42⟩ | ⟨rfl, w_42⟩
          · refine lv_if_ne (tgt := 28) hx hb dX10_isLeft_21 (by decide) (fun _ => ?_) (fun c_43 => absurd c_43 (by decide))
            refine lv_iconst (v := 0) hx hb dX10_isLeft_28 (by decide) ?_
            refine lv_istore_n (lv' := [(1, .int 0), (2, .int x_31), (0, .ref h0)]) hx hb dX10_isLeft_29 rfl hl (by decide) rfl (fun ls hl => ?_)
            obtain ⟨y_44, ey_44⟩ : ∃ q : Int32, q = x_31 + (1) := ⟨_, rfl⟩
            refine lv_iinc (v := y_44) (lv' := [(2, .int y_44), (1, .int 0), (0, .ref h0)]) hx hb dX10_isLeft_30 hl (k := 1) rfl (by rw [ey_44]; rfl) (by decide) rfl (fun ls hl => ?_)
            have ty_44 : y_44.toInt = x_31.toInt + (1) := ar_add rfl ti_1 ey_44 (by omega)
            refine lv_goto (tgt := 4) hx hb dX10_isLeft_33 (by decide) ?_
            exact ih_32 (0) y_44 H locs ls (by have t_0 := ti_0; omega) (by have t_0 := ti_0; omega) (by have t_0 := ti_0; omega) hP hD hS (lv_sub hl [0, 1, 2] rfl)
          · refine lv_if_ne (tgt := 28) hx hb dX10_isLeft_21 (by decide) (fun c_45 => absurd c_45 (by decide)) (fun _ => ?_)
            refine lv_iconst (v := 1) hx hb dX10_isLeft_24 (by decide) ?_
            refine lv_goto (tgt := 29) hx hb dX10_isLeft_25 (by decide) ?_
            refine lv_istore_n (lv' := [(1, .int 1), (2, .int x_31), (0, .ref h0)]) hx hb dX10_isLeft_29 rfl hl (by decide) rfl (fun ls hl => ?_)
            obtain ⟨y_46, ey_46⟩ : ∃ q : Int32, q = x_31 + (1) := ⟨_, rfl⟩
            refine lv_iinc (v := y_46) (lv' := [(2, .int y_46), (1, .int 1), (0, .ref h0)]) hx hb dX10_isLeft_30 hl (k := 1) rfl (by rw [ey_46]; rfl) (by decide) rfl (fun ls hl => ?_)
            have ty_46 : y_46.toInt = x_31.toInt + (1) := ar_add rfl ti_1 ey_46 (by omega)
            refine lv_goto (tgt := 4) hx hb dX10_isLeft_33 (by decide) ?_
            exact ih_32 (1) y_46 H locs ls (by have t_0 := ti_1; omega) (by have t_0 := ti_1; omega) (by have t_0 := ti_1; omega) hP hD hS (lv_sub hl [0, 1, 2] rfl)
  exact L4 _ (0) (0) _ _ _ (Nat.lt_succ_self _) (by have t_0 := ti_0; have t_1 := ti_0; omega) (by have t_0 := ti_0; have t_1 := ti_0; omega) hP hD hS (lv_sub hl [0, 1, 2] rfl)

set_option maxHeartbeats 8000000 in
set_option maxRecDepth 100000 in
theorem c_X10_inState (l : Launch) (dC : Nat → ClassId) (dI : Nat → Nat → Nat) (kp : Int) (h0 : Nat) (X : Nat → Nat) (C : Nat → ClassId) (F : Nat → Nat → Int32) (n : Nat → Int32) (v1 : Int32) (sz : Nat) (hI : I10 kp F n) : Met l yX10_inState (.code yX10_inState cX10_inState 4 (some .int) :: gw) ({ frames := 0, cells := 0, slots := 0, locals := 0 }) (va_Pc [.ref h0, .int v1] (fun U => U.heap.size = sz ∧ va_P (dC, dI) vwCl (w10 h0 X C (F 0) (F 1) (F 2) (F 3) (F 4) (F 5) (F 6) (F 7) (F 8) (F 10) (F 13) (F 14) (F 15) (F 16) (F 17) (F 18) (F 19) (F 20) (F 21) (F 22) (F 23) (F 24) (F 25) (F 26) (F 27) (F 28) (F 29) (F 30) (F 31) (F 32) (F 33) (F 34) (F 35) (F 36) (F 37) (F 38) (F 39) (F 40) (F 41) (F 42) (F 43) (F 49) (F 50) (F 51) (F 52) (F 53) (F 54) (F 55) (F 56) (F 57) (F 58) (F 59) (n 9) (n 11) (n 12) (n 44) (n 45) (n 46) (n 47) (n 48)) U.heap ∧ va_K (dC, dI) vwCl (t10 C) U ∧ va_D (fun _ => True) (w10 h0 X C (F 0) (F 1) (F 2) (F 3) (F 4) (F 5) (F 6) (F 7) (F 8) (F 10) (F 13) (F 14) (F 15) (F 16) (F 17) (F 18) (F 19) (F 20) (F 21) (F 22) (F 23) (F 24) (F 25) (F 26) (F 27) (F 28) (F 29) (F 30) (F 31) (F 32) (F 33) (F 34) (F 35) (F 36) (F 37) (F 38) (F 39) (F 40) (F 41) (F 42) (F 43) (F 49) (F 50) (F 51) (F 52) (F 53) (F 54) (F 55) (F 56) (F 57) (F 58) (F 59) (n 9) (n 11) (n 12) (n 44) (n 45) (n 46) (n 47) (n 48)) ∧ nx U)) (va_Qi (fun (r : Int32) (u : Unit) => True) (fun _ t => va_P (dC, dI) vwCl (w10 h0 X C (F 0) (F 1) (F 2) (F 3) (F 4) (F 5) (F 6) (F 7) (F 8) (F 10) (F 13) (F 14) (F 15) (F 16) (F 17) (F 18) (F 19) (F 20) (F 21) (F 22) (F 23) (F 24) (F 25) (F 26) (F 27) (F 28) (F 29) (F 30) (F 31) (F 32) (F 33) (F 34) (F 35) (F 36) (F 37) (F 38) (F 39) (F 40) (F 41) (F 42) (F 43) (F 49) (F 50) (F 51) (F 52) (F 53) (F 54) (F 55) (F 56) (F 57) (F 58) (F 59) (n 9) (n 11) (n 12) (n 44) (n 45) (n 46) (n 47) (n 48)) t.heap ∧ va_D (va_A (w10 h0 X C (F 0) (F 1) (F 2) (F 3) (F 4) (F 5) (F 6) (F 7) (F 8) (F 10) (F 13) (F 14) (F 15) (F 16) (F 17) (F 18) (F 19) (F 20) (F 21) (F 22) (F 23) (F 24) (F 25) (F 26) (F 27) (F 28) (F 29) (F 30) (F 31) (F 32) (F 33) (F 34) (F 35) (F 36) (F 37) (F 38) (F 39) (F 40) (F 41) (F 42) (F 43) (F 49) (F 50) (F 51) (F 52) (F 53) (F 54) (F 55) (F 56) (F 57) (F 58) (F 59) (n 9) (n 11) (n 12) (n 44) (n 45) (n 46) (n 47) (n 48)) sz) (w10 h0 X C (F 0) (F 1) (F 2) (F 3) (F 4) (F 5) (F 6) (F 7) (F 8) (F 10) (F 13) (F 14) (F 15) (F 16) (F 17) (F 18) (F 19) (F 20) (F 21) (F 22) (F 23) (F 24) (F 25) (F 26) (F 27) (F 28) (F 29) (F 30) (F 31) (F 32) (F 33) (F 34) (F 35) (F 36) (F 37) (F 38) (F 39) (F 40) (F 41) (F 42) (F 43) (F 49) (F 50) (F 51) (F 52) (F 53) (F 54) (F 55) (F 56) (F 57) (F 58) (F 59) (n 9) (n 11) (n 12) (n 44) (n 45) (n 46) (n 47) (n 48))) (va_A (w10 h0 X C (F 0) (F 1) (F 2) (F 3) (F 4) (F 5) (F 6) (F 7) (F 8) (F 10) (F 13) (F 14) (F 15) (F 16) (F 17) (F 18) (F 19) (F 20) (F 21) (F 22) (F 23) (F 24) (F 25) (F 26) (F 27) (F 28) (F 29) (F 30) (F 31) (F 32) (F 33) (F 34) (F 35) (F 36) (F 37) (F 38) (F 39) (F 40) (F 41) (F 42) (F 43) (F 49) (F 50) (F 51) (F 52) (F 53) (F 54) (F 55) (F 56) (F 57) (F 58) (F 59) (n 9) (n 11) (n 12) (n 44) (n 45) (n 46) (n 47) (n 48)) sz)) 0 0 (va_A (w10 h0 X C (F 0) (F 1) (F 2) (F 3) (F 4) (F 5) (F 6) (F 7) (F 8) (F 10) (F 13) (F 14) (F 15) (F 16) (F 17) (F 18) (F 19) (F 20) (F 21) (F 22) (F 23) (F 24) (F 25) (F 26) (F 27) (F 28) (F 29) (F 30) (F 31) (F 32) (F 33) (F 34) (F 35) (F 36) (F 37) (F 38) (F 39) (F 40) (F 41) (F 42) (F 43) (F 49) (F 50) (F 51) (F 52) (F 53) (F 54) (F 55) (F 56) (F 57) (F 58) (F 59) (n 9) (n 11) (n 12) (n 44) (n 45) (n 46) (n 47) (n 48)) sz) := by
  refine Met.ofW (cc := cX10_inState) (maxL := 4) (ret := (some .int)) (by decide) rfl ?_
  intro p e s m args below meth c s₁ B hml hv
  obtain ⟨rfl, hsz, hP, hK, hD0, hN⟩ := hv
  have hx := B.exec
  have hb := B.bytes
  have hr := B.returns
  have hts := atoms_spec (ws := .code yX10_inState cX10_inState 4 (some .int) :: gw) B.pre
  have hg : ∀ w ∈ gw, w.before _ s = true := fun w h => hts w (List.mem_cons_of_mem _ h)
  have hown : s.vm.findClass RX10 = some m.cls := findClass_of_methodNamed B.named
  have hlocks := B.notSynchronized
  subst hsz
  have hD := hD0.self (sz := s.heap.size)
  generalize hAe : va_A (w10 h0 X C (F 0) (F 1) (F 2) (F 3) (F 4) (F 5) (F 6) (F 7) (F 8) (F 10) (F 13) (F 14) (F 15) (F 16) (F 17) (F 18) (F 19) (F 20) (F 21) (F 22) (F 23) (F 24) (F 25) (F 26) (F 27) (F 28) (F 29) (F 30) (F 31) (F 32) (F 33) (F 34) (F 35) (F 36) (F 37) (F 38) (F 39) (F 40) (F 41) (F 42) (F 43) (F 49) (F 50) (F 51) (F 52) (F 53) (F 54) (F 55) (F 56) (F 57) (F 58) (F 59) (n 9) (n 11) (n 12) (n 44) (n 45) (n 46) (n 47) (n 48)) s.heap.size = A at hD ⊢
  have hA : ∀ q : Nat, s.heap.size ≤ q → A q := fun q h => by rw [← hAe]; exact Or.inr h
  have hS : va_S A s.heap s.heap [] := va_S.rf
  have hP : va_P (dC, dI) vwCl (w10 h0 X C (F 0) (F 1) (F 2) (F 3) (F 4) (F 5) (F 6) (F 7) (F 8) (F 10) (F 13) (F 14) (F 15) (F 16) (F 17) (F 18) (F 19) (F 20) (F 21) (F 22) (F 23) (F 24) (F 25) (F 26) (F 27) (F 28) (F 29) (F 30) (F 31) (F 32) (F 33) (F 34) (F 35) (F 36) (F 37) (F 38) (F 39) (F 40) (F 41) (F 42) (F 43) (F 49) (F 50) (F 51) (F 52) (F 53) (F 54) (F 55) (F 56) (F 57) (F 58) (F 59) (n 9) (n 11) (n 12) (n 44) (n 45) (n 46) (n 47) (n 48)) s.heap := hP
  have hl := lv_entry ([.ref h0, .int v1]) (n := 4) (Nat.le_of_ble_eq_true rfl)
  rw [lg_entry_eq]
  generalize (lg_sl ([.ref h0, .int v1]) ++ List.replicate (4 - (lg_sl ([.ref h0, .int v1])).length) Slot.unset).toArray = ls at hl ⊢
  have hl : lv_has ls 4 [(0, .ref h0), (1, .int v1)] := hl
  obtain ⟨b_1, b_2, b_3, b_4, b_5, b_6, b_7, b_8, b_9, b_10, b_11, b_12, i_13, i_14, i_15, i_16, i_17, i_18, i_19, j_20, j_21, j_22, j_23, j_24, j_25, j_26, j_27, j_28, j_29⟩ := id hI
  refine lv_iconst (v := 0) hx hb dX10_inState_0 (by decide) ?_
  refine lv_istore_n (lv' := [(2, .int 0), (0, .ref h0), (1, .int v1)]) hx hb dX10_inState_1 rfl hl (by decide) rfl (fun ls hl => ?_)
  refine lv_iconst (v := 0) hx hb dX10_inState_2 (by decide) ?_
  refine lv_istore_n (lv' := [(3, .int 0), (2, .int 0), (0, .ref h0), (1, .int v1)]) hx hb dX10_inState_3 rfl hl (by decide) rfl (fun ls hl => ?_)
  have L4 : ∀ (fuel : Nat) (x_30 : Int32) (x_31 : Int32) (H : Heap) (locs : List Loc) (ls : Array Slot), (201 - x_31.toInt).toNat < fuel → (0 ≤ x_31.toInt ∧ x_31.toInt ≤ 200) → (0 ≤ x_30.toInt ∧ x_30.toInt ≤ x_31.toInt) → va_P (dC, dI) vwCl (w10 h0 X C (F 0) (F 1) (F 2) (F 3) (F 4) (F 5) (F 6) (F 7) (F 8) (F 10) (F 13) (F 14) (F 15) (F 16) (F 17) (F 18) (F 19) (F 20) (F 21) (F 22) (F 23) (F 24) (F 25) (F 26) (F 27) (F 28) (F 29) (F 30) (F 31) (F 32) (F 33) (F 34) (F 35) (F 36) (F 37) (F 38) (F 39) (F 40) (F 41) (F 42) (F 43) (F 49) (F 50) (F 51) (F 52) (F 53) (F 54) (F 55) (F 56) (F 57) (F 58) (F 59) (n 9) (n 11) (n 12) (n 44) (n 45) (n 46) (n 47) (n 48)) H → va_D A (w10 h0 X C (F 0) (F 1) (F 2) (F 3) (F 4) (F 5) (F 6) (F 7) (F 8) (F 10) (F 13) (F 14) (F 15) (F 16) (F 17) (F 18) (F 19) (F 20) (F 21) (F 22) (F 23) (F 24) (F 25) (F 26) (F 27) (F 28) (F 29) (F 30) (F 31) (F 32) (F 33) (F 34) (F 35) (F 36) (F 37) (F 38) (F 39) (F 40) (F 41) (F 42) (F 43) (F 49) (F 50) (F 51) (F 52) (F 53) (F 54) (F 55) (F 56) (F 57) (F 58) (F 59) (n 9) (n 11) (n 12) (n 44) (n 45) (n 46) (n 47) (n 48)) → va_S A s.heap H locs → lv_has ls 4 [(3, .int x_31), (2, .int x_30), (0, .ref h0), (1, .int v1)] → W p l e (headSpec (.code yX10_inState cX10_inState 4 (some .int) :: gw) ({ frames := 0, cells := 0, slots := 0, locals := 0 })).room s m ([.ref h0, .int v1] : List Value).toArray below meth c H locs 0 0 (MQ below (va_Qi (fun (r : Int32) (u : Unit) => True) (fun _ t => va_P (dC, dI) vwCl (w10 h0 X C (F 0) (F 1) (F 2) (F 3) (F 4) (F 5) (F 6) (F 7) (F 8) (F 10) (F 13) (F 14) (F 15) (F 16) (F 17) (F 18) (F 19) (F 20) (F 21) (F 22) (F 23) (F 24) (F 25) (F 26) (F 27) (F 28) (F 29) (F 30) (F 31) (F 32) (F 33) (F 34) (F 35) (F 36) (F 37) (F 38) (F 39) (F 40) (F 41) (F 42) (F 43) (F 49) (F 50) (F 51) (F 52) (F 53) (F 54) (F 55) (F 56) (F 57) (F 58) (F 59) (n 9) (n 11) (n 12) (n 44) (n 45) (n 46) (n 47) (n 48)) t.heap ∧ va_D A (w10 h0 X C (F 0) (F 1) (F 2) (F 3) (F 4) (F 5) (F 6) (F 7) (F 8) (F 10) (F 13) (F 14) (F 15) (F 16) (F 17) (F 18) (F 19) (F 20) (F 21) (F 22) (F 23) (F 24) (F 25) (F 26) (F 27) (F 28) (F 29) (F 30) (F 31) (F 32) (F 33) (F 34) (F 35) (F 36) (F 37) (F 38) (F 39) (F 40) (F 41) (F 42) (F 43) (F 49) (F 50) (F 51) (F 52) (F 53) (F 54) (F 55) (F 56) (F 57) (F 58) (F 59) (n 9) (n 11) (n 12) (n 44) (n 45) (n 46) (n 47) (n 48))) A) ([.ref h0, .int v1] : List Value).toArray s 0 0 A) (F0 m 4 ls []) := by
    intro fuel
    induction fuel with
    | zero => intro x_30 x_31 H locs ls hm; exact absurd hm (Nat.not_lt_zero _)
    | succ fuel_33 ih_32 =>
      intro x_30 x_31 H locs ls hm_36 v_34 v_35 hP hD hS hl
      refine lv_iload_n hx hb dX10_inState_4 rfl (lv_at hl 0 rfl) ?_
      refine lv_aload_n hx hb dX10_inState_5 rfl (lv_at hl 2 rfl) ?_
      refine va_get (D := (dC, dI)) (ci := 10) (v := .int (n 11)) (C := RX10) (T := TX10) (N := 60) hx hb hg gb_10 hown hK hP 0 rfl rfl 11 (by decide) (hg _ gm_fieldLink_RX10_176_ErrandGuildModel_runs_I_) (fun _ h9 => h9) rfl dX10_inState_6 ?_
      refine lv_icmp_ge (tgt := 36) hx hb dX10_inState_9 (by decide) (fun c_37 => ?_) (fun c_37 => ?_)
      · simp only [i_lt, i_le, i_eq] at c_37
        refine lv_iload_n hx hb dX10_inState_36 rfl (lv_at hl 1 rfl) ?_
        exact W.iret (v := x_30) hx hb hr (fun t ht hW => ⟨⟨x_30, (), rfl, trivial, by rw [ht]; exact hP, hD⟩, hS.F ht⟩) hS.2.2 dX10_inState_37
      · simp only [i_lt, i_le, i_eq] at c_37
        refine lv_iload_n hx hb dX10_inState_12 rfl (lv_at hl 1 rfl) ?_
        refine lv_aload_n hx hb dX10_inState_13 rfl (lv_at hl 2 rfl) ?_
        refine va_get (D := (dC, dI)) (ci := 10) (v := .ref (X 13)) (C := RX10) (T := TX10) (N := 60) hx hb hg gb_10 hown hK hP 0 rfl rfl 13 (by decide) (hg _ gm_fieldLink_RX10_45_ErrandGuildModel_state_AI_) (fun _ h9 => h9) rfl dX10_inState_14 ?_
        refine lv_iload_n hx hb dX10_inState_17 rfl (lv_at hl 0 rfl) ?_
        refine va_iald (f := F 13) hx hb hK hP 11 10 rfl rfl (vp_in_iff.mpr ⟨by omega, by omega⟩) dX10_inState_18 ?_
        refine lv_topi (fun z_38 ez_38 => ?_)
        have qz_38 := congrArg Int32.toInt ez_38
        have bz_38 := bd_at b_3 ez_38
        refine lv_iload_n hx hb dX10_inState_19 rfl (lv_at hl 3 rfl) ?_
        refine lv_icmp_ne (tgt := 27) hx hb dX10_inState_20 (by decide) (fun c_39 => ?_) (fun c_39 => ?_)
        · simp only [i_lt, i_le, i_eq] at c_39
          refine lv_iconst (v := 0) hx hb dX10_inState_27 (by decide) ?_
          refine lv_iadd hx hb dX10_inState_28 ?_
          refine lv_topi (fun z_40 ez_40 => ?_)
          have tz_40 : z_40.toInt = x_30.toInt + 0 := ar_add rfl ti_0 ez_40 (by omega)
          refine lv_istore_n (lv' := [(2, .int z_40), (3, .int x_31), (0, .ref h0), (1, .int v1)]) hx hb dX10_inState_29 rfl hl (by decide) rfl (fun ls hl => ?_)
          obtain ⟨y_41, ey_41⟩ : ∃ q : Int32, q = x_31 + (1) := ⟨_, rfl⟩
          refine lv_iinc (v := y_41) (lv' := [(3, .int y_41), (2, .int z_40), (0, .ref h0), (1, .int v1)]) hx hb dX10_inState_30 hl (k := 1) rfl (by rw [ey_41]; rfl) (by decide) rfl (fun ls hl => ?_)
          have ty_41 : y_41.toInt = x_31.toInt + (1) := ar_add rfl ti_1 ey_41 (by omega)
          refine lv_goto (tgt := 4) hx hb dX10_inState_33 (by decide) ?_
          exact ih_32 z_40 y_41 H locs ls (by omega) (by omega) (by omega) hP hD hS (lv_sub hl [0, 1, 2, 3] rfl)
        · simp only [i_lt, i_le, i_eq] at c_39
          refine lv_iconst (v := 1) hx hb dX10_inState_23 (by decide) ?_
          refine lv_goto (tgt := 28) hx hb dX10_inState_24 (by decide) ?_
          refine lv_iadd hx hb dX10_inState_28 ?_
          refine lv_topi (fun z_42 ez_42 => ?_)
          have tz_42 : z_42.toInt = x_30.toInt + 1 := ar_add rfl ti_1 ez_42 (by omega)
          refine lv_istore_n (lv' := [(2, .int z_42), (3, .int x_31), (0, .ref h0), (1, .int v1)]) hx hb dX10_inState_29 rfl hl (by decide) rfl (fun ls hl => ?_)
          obtain ⟨y_43, ey_43⟩ : ∃ q : Int32, q = x_31 + (1) := ⟨_, rfl⟩
          refine lv_iinc (v := y_43) (lv' := [(3, .int y_43), (2, .int z_42), (0, .ref h0), (1, .int v1)]) hx hb dX10_inState_30 hl (k := 1) rfl (by rw [ey_43]; rfl) (by decide) rfl (fun ls hl => ?_)
          have ty_43 : y_43.toInt = x_31.toInt + (1) := ar_add rfl ti_1 ey_43 (by omega)
          refine lv_goto (tgt := 4) hx hb dX10_inState_33 (by decide) ?_
          exact ih_32 z_42 y_43 H locs ls (by omega) (by omega) (by omega) hP hD hS (lv_sub hl [0, 1, 2, 3] rfl)
  exact L4 _ (0) (0) _ _ _ (Nat.lt_succ_self _) (by have t_0 := ti_0; have t_1 := ti_0; omega) (by have t_0 := ti_0; have t_1 := ti_0; omega) hP hD hS (lv_sub hl [0, 1, 2, 3] rfl)

set_option maxHeartbeats 8000000 in
set_option maxRecDepth 100000 in
theorem c_X10_binding (l : Launch) (dC : Nat → ClassId) (dI : Nat → Nat → Nat) (kp : Int) (h0 : Nat) (X : Nat → Nat) (C : Nat → ClassId) (F : Nat → Nat → Int32) (n : Nat → Int32) (v1 : Int32) (v2 : Int32) (sz : Nat) (hI : I10 kp F n) (hr : 0 ≤ v1.toInt ∧ v1.toInt < 200) : Met l yX10_binding (.code yX10_binding cX10_binding 4 (some .int) :: gw) ({ frames := 0, cells := 0, slots := 0, locals := 0 }) (va_Pc [.ref h0, .int v1, .int v2] (fun U => U.heap.size = sz ∧ va_P (dC, dI) vwCl (w10 h0 X C (F 0) (F 1) (F 2) (F 3) (F 4) (F 5) (F 6) (F 7) (F 8) (F 10) (F 13) (F 14) (F 15) (F 16) (F 17) (F 18) (F 19) (F 20) (F 21) (F 22) (F 23) (F 24) (F 25) (F 26) (F 27) (F 28) (F 29) (F 30) (F 31) (F 32) (F 33) (F 34) (F 35) (F 36) (F 37) (F 38) (F 39) (F 40) (F 41) (F 42) (F 43) (F 49) (F 50) (F 51) (F 52) (F 53) (F 54) (F 55) (F 56) (F 57) (F 58) (F 59) (n 9) (n 11) (n 12) (n 44) (n 45) (n 46) (n 47) (n 48)) U.heap ∧ va_K (dC, dI) vwCl (t10 C) U ∧ va_D (fun _ => True) (w10 h0 X C (F 0) (F 1) (F 2) (F 3) (F 4) (F 5) (F 6) (F 7) (F 8) (F 10) (F 13) (F 14) (F 15) (F 16) (F 17) (F 18) (F 19) (F 20) (F 21) (F 22) (F 23) (F 24) (F 25) (F 26) (F 27) (F 28) (F 29) (F 30) (F 31) (F 32) (F 33) (F 34) (F 35) (F 36) (F 37) (F 38) (F 39) (F 40) (F 41) (F 42) (F 43) (F 49) (F 50) (F 51) (F 52) (F 53) (F 54) (F 55) (F 56) (F 57) (F 58) (F 59) (n 9) (n 11) (n 12) (n 44) (n 45) (n 46) (n 47) (n 48)) ∧ nx U)) (va_Qi (fun (r : Int32) (u : Unit) => -1 ≤ r.toInt ∧ r.toInt < 4800) (fun _ t => va_P (dC, dI) vwCl (w10 h0 X C (F 0) (F 1) (F 2) (F 3) (F 4) (F 5) (F 6) (F 7) (F 8) (F 10) (F 13) (F 14) (F 15) (F 16) (F 17) (F 18) (F 19) (F 20) (F 21) (F 22) (F 23) (F 24) (F 25) (F 26) (F 27) (F 28) (F 29) (F 30) (F 31) (F 32) (F 33) (F 34) (F 35) (F 36) (F 37) (F 38) (F 39) (F 40) (F 41) (F 42) (F 43) (F 49) (F 50) (F 51) (F 52) (F 53) (F 54) (F 55) (F 56) (F 57) (F 58) (F 59) (n 9) (n 11) (n 12) (n 44) (n 45) (n 46) (n 47) (n 48)) t.heap ∧ va_D (va_A (w10 h0 X C (F 0) (F 1) (F 2) (F 3) (F 4) (F 5) (F 6) (F 7) (F 8) (F 10) (F 13) (F 14) (F 15) (F 16) (F 17) (F 18) (F 19) (F 20) (F 21) (F 22) (F 23) (F 24) (F 25) (F 26) (F 27) (F 28) (F 29) (F 30) (F 31) (F 32) (F 33) (F 34) (F 35) (F 36) (F 37) (F 38) (F 39) (F 40) (F 41) (F 42) (F 43) (F 49) (F 50) (F 51) (F 52) (F 53) (F 54) (F 55) (F 56) (F 57) (F 58) (F 59) (n 9) (n 11) (n 12) (n 44) (n 45) (n 46) (n 47) (n 48)) sz) (w10 h0 X C (F 0) (F 1) (F 2) (F 3) (F 4) (F 5) (F 6) (F 7) (F 8) (F 10) (F 13) (F 14) (F 15) (F 16) (F 17) (F 18) (F 19) (F 20) (F 21) (F 22) (F 23) (F 24) (F 25) (F 26) (F 27) (F 28) (F 29) (F 30) (F 31) (F 32) (F 33) (F 34) (F 35) (F 36) (F 37) (F 38) (F 39) (F 40) (F 41) (F 42) (F 43) (F 49) (F 50) (F 51) (F 52) (F 53) (F 54) (F 55) (F 56) (F 57) (F 58) (F 59) (n 9) (n 11) (n 12) (n 44) (n 45) (n 46) (n 47) (n 48))) (va_A (w10 h0 X C (F 0) (F 1) (F 2) (F 3) (F 4) (F 5) (F 6) (F 7) (F 8) (F 10) (F 13) (F 14) (F 15) (F 16) (F 17) (F 18) (F 19) (F 20) (F 21) (F 22) (F 23) (F 24) (F 25) (F 26) (F 27) (F 28) (F 29) (F 30) (F 31) (F 32) (F 33) (F 34) (F 35) (F 36) (F 37) (F 38) (F 39) (F 40) (F 41) (F 42) (F 43) (F 49) (F 50) (F 51) (F 52) (F 53) (F 54) (F 55) (F 56) (F 57) (F 58) (F 59) (n 9) (n 11) (n 12) (n 44) (n 45) (n 46) (n 47) (n 48)) sz)) 0 0 (va_A (w10 h0 X C (F 0) (F 1) (F 2) (F 3) (F 4) (F 5) (F 6) (F 7) (F 8) (F 10) (F 13) (F 14) (F 15) (F 16) (F 17) (F 18) (F 19) (F 20) (F 21) (F 22) (F 23) (F 24) (F 25) (F 26) (F 27) (F 28) (F 29) (F 30) (F 31) (F 32) (F 33) (F 34) (F 35) (F 36) (F 37) (F 38) (F 39) (F 40) (F 41) (F 42) (F 43) (F 49) (F 50) (F 51) (F 52) (F 53) (F 54) (F 55) (F 56) (F 57) (F 58) (F 59) (n 9) (n 11) (n 12) (n 44) (n 45) (n 46) (n 47) (n 48)) sz) := by
  refine Met.ofW (cc := cX10_binding) (maxL := 4) (ret := (some .int)) (by decide) rfl ?_
  intro p e s m args below meth c s₁ B hml hv
  obtain ⟨rfl, hsz, hP, hK, hD0, hN⟩ := hv
  have hx := B.exec
  have hb := B.bytes
  have hr := B.returns
  have hts := atoms_spec (ws := .code yX10_binding cX10_binding 4 (some .int) :: gw) B.pre
  have hg : ∀ w ∈ gw, w.before _ s = true := fun w h => hts w (List.mem_cons_of_mem _ h)
  have hown : s.vm.findClass RX10 = some m.cls := findClass_of_methodNamed B.named
  have hlocks := B.notSynchronized
  subst hsz
  have hD := hD0.self (sz := s.heap.size)
  generalize hAe : va_A (w10 h0 X C (F 0) (F 1) (F 2) (F 3) (F 4) (F 5) (F 6) (F 7) (F 8) (F 10) (F 13) (F 14) (F 15) (F 16) (F 17) (F 18) (F 19) (F 20) (F 21) (F 22) (F 23) (F 24) (F 25) (F 26) (F 27) (F 28) (F 29) (F 30) (F 31) (F 32) (F 33) (F 34) (F 35) (F 36) (F 37) (F 38) (F 39) (F 40) (F 41) (F 42) (F 43) (F 49) (F 50) (F 51) (F 52) (F 53) (F 54) (F 55) (F 56) (F 57) (F 58) (F 59) (n 9) (n 11) (n 12) (n 44) (n 45) (n 46) (n 47) (n 48)) s.heap.size = A at hD ⊢
  have hA : ∀ q : Nat, s.heap.size ≤ q → A q := fun q h => by rw [← hAe]; exact Or.inr h
  have hS : va_S A s.heap s.heap [] := va_S.rf
  have hP : va_P (dC, dI) vwCl (w10 h0 X C (F 0) (F 1) (F 2) (F 3) (F 4) (F 5) (F 6) (F 7) (F 8) (F 10) (F 13) (F 14) (F 15) (F 16) (F 17) (F 18) (F 19) (F 20) (F 21) (F 22) (F 23) (F 24) (F 25) (F 26) (F 27) (F 28) (F 29) (F 30) (F 31) (F 32) (F 33) (F 34) (F 35) (F 36) (F 37) (F 38) (F 39) (F 40) (F 41) (F 42) (F 43) (F 49) (F 50) (F 51) (F 52) (F 53) (F 54) (F 55) (F 56) (F 57) (F 58) (F 59) (n 9) (n 11) (n 12) (n 44) (n 45) (n 46) (n 47) (n 48)) s.heap := hP
  have hl := lv_entry ([.ref h0, .int v1, .int v2]) (n := 4) (Nat.le_of_ble_eq_true rfl)
  rw [lg_entry_eq]
  generalize (lg_sl ([.ref h0, .int v1, .int v2]) ++ List.replicate (4 - (lg_sl ([.ref h0, .int v1, .int v2])).length) Slot.unset).toArray = ls at hl ⊢
  have hl : lv_has ls 4 [(0, .ref h0), (1, .int v1), (2, .int v2)] := hl
  obtain ⟨b_1, b_2, b_3, b_4, b_5, b_6, b_7, b_8, b_9, b_10, b_11, b_12, i_13, i_14, i_15, i_16, i_17, i_18, i_19, j_20, j_21, j_22, j_23, j_24, j_25, j_26, j_27, j_28, j_29⟩ := id hI
  refine lv_aload_n hx hb dX10_binding_0 rfl (lv_at hl 0 rfl) ?_
  refine va_get (D := (dC, dI)) (ci := 10) (v := .ref (X 36)) (C := RX10) (T := TX10) (N := 60) hx hb hg gb_10 hown hK hP 0 rfl rfl 36 (by decide) (hg _ gm_fieldLink_RX10_114_ErrandGuildModel_bindMany_AI_) (fun _ h9 => h9) rfl dX10_binding_1 ?_
  refine lv_iload_n hx hb dX10_binding_4 rfl (lv_at hl 1 rfl) ?_
  refine va_iald (f := F 36) hx hb hK hP 34 33 rfl rfl (vp_in_iff.mpr ⟨by omega, by omega⟩) dX10_binding_5 ?_
  refine lv_topi (fun z_30 ez_30 => ?_)
  have qz_30 := congrArg Int32.toInt ez_30
  have bz_30 := bd_at b_10 ez_30
  refine lv_iconst (v := 1) hx hb dX10_binding_6 (by decide) ?_
  refine lv_isub hx hb dX10_binding_7 ?_
  refine lv_topi (fun z_31 ez_31 => ?_)
  have tz_31 : z_31.toInt = z_30.toInt - 1 := ar_sub rfl ti_1 ez_31 (by omega)
  refine lv_istore_n (lv' := [(3, .int z_31), (0, .ref h0), (1, .int v1), (2, .int v2)]) hx hb dX10_binding_8 rfl hl (by decide) rfl (fun ls hl => ?_)
  have L9 : ∀ (fuel : Nat) (x_32 : Int32) (H : Heap) (locs : List Loc) (ls : Array Slot), (x_32.toInt + 1).toNat < fuel → (-1 ≤ x_32.toInt ∧ x_32.toInt ≤ 23) → va_P (dC, dI) vwCl (w10 h0 X C (F 0) (F 1) (F 2) (F 3) (F 4) (F 5) (F 6) (F 7) (F 8) (F 10) (F 13) (F 14) (F 15) (F 16) (F 17) (F 18) (F 19) (F 20) (F 21) (F 22) (F 23) (F 24) (F 25) (F 26) (F 27) (F 28) (F 29) (F 30) (F 31) (F 32) (F 33) (F 34) (F 35) (F 36) (F 37) (F 38) (F 39) (F 40) (F 41) (F 42) (F 43) (F 49) (F 50) (F 51) (F 52) (F 53) (F 54) (F 55) (F 56) (F 57) (F 58) (F 59) (n 9) (n 11) (n 12) (n 44) (n 45) (n 46) (n 47) (n 48)) H → va_D A (w10 h0 X C (F 0) (F 1) (F 2) (F 3) (F 4) (F 5) (F 6) (F 7) (F 8) (F 10) (F 13) (F 14) (F 15) (F 16) (F 17) (F 18) (F 19) (F 20) (F 21) (F 22) (F 23) (F 24) (F 25) (F 26) (F 27) (F 28) (F 29) (F 30) (F 31) (F 32) (F 33) (F 34) (F 35) (F 36) (F 37) (F 38) (F 39) (F 40) (F 41) (F 42) (F 43) (F 49) (F 50) (F 51) (F 52) (F 53) (F 54) (F 55) (F 56) (F 57) (F 58) (F 59) (n 9) (n 11) (n 12) (n 44) (n 45) (n 46) (n 47) (n 48)) → va_S A s.heap H locs → lv_has ls 4 [(3, .int x_32), (0, .ref h0), (1, .int v1), (2, .int v2)] → W p l e (headSpec (.code yX10_binding cX10_binding 4 (some .int) :: gw) ({ frames := 0, cells := 0, slots := 0, locals := 0 })).room s m ([.ref h0, .int v1, .int v2] : List Value).toArray below meth c H locs 0 0 (MQ below (va_Qi (fun (r : Int32) (u : Unit) => -1 ≤ r.toInt ∧ r.toInt < 4800) (fun _ t => va_P (dC, dI) vwCl (w10 h0 X C (F 0) (F 1) (F 2) (F 3) (F 4) (F 5) (F 6) (F 7) (F 8) (F 10) (F 13) (F 14) (F 15) (F 16) (F 17) (F 18) (F 19) (F 20) (F 21) (F 22) (F 23) (F 24) (F 25) (F 26) (F 27) (F 28) (F 29) (F 30) (F 31) (F 32) (F 33) (F 34) (F 35) (F 36) (F 37) (F 38) (F 39) (F 40) (F 41) (F 42) (F 43) (F 49) (F 50) (F 51) (F 52) (F 53) (F 54) (F 55) (F 56) (F 57) (F 58) (F 59) (n 9) (n 11) (n 12) (n 44) (n 45) (n 46) (n 47) (n 48)) t.heap ∧ va_D A (w10 h0 X C (F 0) (F 1) (F 2) (F 3) (F 4) (F 5) (F 6) (F 7) (F 8) (F 10) (F 13) (F 14) (F 15) (F 16) (F 17) (F 18) (F 19) (F 20) (F 21) (F 22) (F 23) (F 24) (F 25) (F 26) (F 27) (F 28) (F 29) (F 30) (F 31) (F 32) (F 33) (F 34) (F 35) (F 36) (F 37) (F 38) (F 39) (F 40) (F 41) (F 42) (F 43) (F 49) (F 50) (F 51) (F 52) (F 53) (F 54) (F 55) (F 56) (F 57) (F 58) (F 59) (n 9) (n 11) (n 12) (n 44) (n 45) (n 46) (n 47) (n 48))) A) ([.ref h0, .int v1, .int v2] : List Value).toArray s 0 0 A) (F0 m 9 ls []) := by
    intro fuel
    induction fuel with
    | zero => intro x_32 H locs ls hm; exact absurd hm (Nat.not_lt_zero _)
    | succ fuel_34 ih_33 =>
      intro x_32 H locs ls hm_36 v_35 hP hD hS hl
      refine lv_iload_n hx hb dX10_binding_9 rfl (lv_at hl 0 rfl) ?_
      refine lv_if_lt (tgt := 41) hx hb dX10_binding_10 (by decide) (fun c_37 => ?_) (fun c_37 => ?_)
      · simp only [i_lt, i_le, i_eq, ti_0] at c_37
        refine lv_iconst (v := -1) hx hb dX10_binding_41 (by decide) ?_
        exact W.iret (v := -1) hx hb hr (fun t ht hW => ⟨⟨-1, (), rfl, (by have t_ := ti_m1; show -1 ≤ (-1 : Int32).toInt ∧ (-1 : Int32).toInt < 4800; omega), by rw [ht]; exact hP, hD⟩, hS.F ht⟩) hS.2.2 dX10_binding_42
      · simp only [i_lt, i_le, i_eq, ti_0] at c_37
        refine lv_aload_n hx hb dX10_binding_13 rfl (lv_at hl 1 rfl) ?_
        refine va_get (D := (dC, dI)) (ci := 10) (v := .ref (X 37)) (C := RX10) (T := TX10) (N := 60) hx hb hg gb_10 hown hK hP 0 rfl rfl 37 (by decide) (hg _ gm_fieldLink_RX10_117_ErrandGuildModel_bindSlot_AI_) (fun _ h9 => h9) rfl dX10_binding_14 ?_
        refine lv_bipush (v := 24) hx hb dX10_binding_17 (by decide) ?_
        refine lv_iload_n hx hb dX10_binding_19 rfl (lv_at hl 2 rfl) ?_
        refine lv_imul hx hb dX10_binding_20 ?_
        refine lv_topi (fun z_38 ez_38 => ?_)
        have tz_38 : z_38.toInt = 24 * v1.toInt := ar_mul ti_24 rfl ez_38 (by omega)
        refine lv_iload_n hx hb dX10_binding_21 rfl (lv_at hl 0 rfl) ?_
        refine lv_iadd hx hb dX10_binding_22 ?_
        refine lv_topi (fun z_39 ez_39 => ?_)
        have tz_39 : z_39.toInt = z_38.toInt + x_32.toInt := ar_add rfl rfl ez_39 (by omega)
        refine va_iald (f := F 37) hx hb hK hP 35 34 rfl rfl (vp_in_iff.mpr ⟨by omega, by omega⟩) dX10_binding_23 ?_
        refine lv_topi (fun z_40 ez_40 => ?_)
        have qz_40 := congrArg Int32.toInt ez_40
        refine lv_iload_n hx hb dX10_binding_24 rfl (lv_at hl 3 rfl) ?_
        refine lv_icmp_ne (tgt := 35) hx hb dX10_binding_25 (by decide) (fun c_41 => ?_) (fun c_41 => ?_)
        · simp only [i_lt, i_le, i_eq] at c_41
          obtain ⟨y_42, ey_42⟩ : ∃ q : Int32, q = x_32 + (-1) := ⟨_, rfl⟩
          refine lv_iinc (v := y_42) (lv' := [(3, .int y_42), (0, .ref h0), (1, .int v1), (2, .int v2)]) hx hb dX10_binding_35 hl (k := 0) rfl (by rw [ey_42]; rfl) (by decide) rfl (fun ls hl => ?_)
          have ty_42 : y_42.toInt = x_32.toInt + (-1) := ar_add rfl ti_m1 ey_42 (by omega)
          refine lv_goto (tgt := 9) hx hb dX10_binding_38 (by decide) ?_
          exact ih_33 y_42 H locs ls (by omega) (by omega) hP hD hS (lv_sub hl [0, 1, 2, 3] rfl)
        · simp only [i_lt, i_le, i_eq] at c_41
          refine lv_bipush (v := 24) hx hb dX10_binding_28 (by decide) ?_
          refine lv_iload_n hx hb dX10_binding_30 rfl (lv_at hl 2 rfl) ?_
          refine lv_imul hx hb dX10_binding_31 ?_
          refine lv_topi (fun z_43 ez_43 => ?_)
          have tz_43 : z_43.toInt = 24 * v1.toInt := ar_mul ti_24 rfl ez_43 (by omega)
          refine lv_iload_n hx hb dX10_binding_32 rfl (lv_at hl 0 rfl) ?_
          refine lv_iadd hx hb dX10_binding_33 ?_
          refine lv_topi (fun z_44 ez_44 => ?_)
          have tz_44 : z_44.toInt = z_43.toInt + x_32.toInt := ar_add rfl rfl ez_44 (by omega)
          exact W.iret (v := z_44) hx hb hr (fun t ht hW => ⟨⟨z_44, (), rfl, (by show -1 ≤ (z_44 : Int32).toInt ∧ (z_44 : Int32).toInt < 4800; omega), by rw [ht]; exact hP, hD⟩, hS.F ht⟩) hS.2.2 dX10_binding_34
  exact L9 _ z_31 _ _ _ (Nat.lt_succ_self _) (by omega) hP hD hS (lv_sub hl [0, 1, 2, 3] rfl)

set_option maxHeartbeats 8000000 in
set_option maxRecDepth 100000 in
theorem c_X10_reads (l : Launch) (dC : Nat → ClassId) (dI : Nat → Nat → Nat) (kp : Int) (h0 : Nat) (X : Nat → Nat) (C : Nat → ClassId) (F : Nat → Nat → Int32) (n : Nat → Int32) (v1 : Int32) (v2 : Int32) (sz : Nat) (hI : I10 kp F n) (hr : 0 ≤ v1.toInt ∧ v1.toInt < 200) (hs : 0 ≤ v2.toInt ∧ v2.toInt < 8) : Met l yX10_reads (.code yX10_reads cX10_reads 5 (some .int) :: gw) ({ frames := 1, cells := 0, slots := 0, locals := 23 }) (va_Pc [.ref h0, .int v1, .int v2] (fun U => U.heap.size = sz ∧ va_P (dC, dI) vwCl (w10 h0 X C (F 0) (F 1) (F 2) (F 3) (F 4) (F 5) (F 6) (F 7) (F 8) (F 10) (F 13) (F 14) (F 15) (F 16) (F 17) (F 18) (F 19) (F 20) (F 21) (F 22) (F 23) (F 24) (F 25) (F 26) (F 27) (F 28) (F 29) (F 30) (F 31) (F 32) (F 33) (F 34) (F 35) (F 36) (F 37) (F 38) (F 39) (F 40) (F 41) (F 42) (F 43) (F 49) (F 50) (F 51) (F 52) (F 53) (F 54) (F 55) (F 56) (F 57) (F 58) (F 59) (n 9) (n 11) (n 12) (n 44) (n 45) (n 46) (n 47) (n 48)) U.heap ∧ va_K (dC, dI) vwCl (t10 C) U ∧ va_D (fun _ => True) (w10 h0 X C (F 0) (F 1) (F 2) (F 3) (F 4) (F 5) (F 6) (F 7) (F 8) (F 10) (F 13) (F 14) (F 15) (F 16) (F 17) (F 18) (F 19) (F 20) (F 21) (F 22) (F 23) (F 24) (F 25) (F 26) (F 27) (F 28) (F 29) (F 30) (F 31) (F 32) (F 33) (F 34) (F 35) (F 36) (F 37) (F 38) (F 39) (F 40) (F 41) (F 42) (F 43) (F 49) (F 50) (F 51) (F 52) (F 53) (F 54) (F 55) (F 56) (F 57) (F 58) (F 59) (n 9) (n 11) (n 12) (n 44) (n 45) (n 46) (n 47) (n 48)) ∧ nx U)) (va_Qi (fun (r : Int32) (u : Unit) => True) (fun _ t => va_P (dC, dI) vwCl (w10 h0 X C (F 0) (F 1) (F 2) (F 3) (F 4) (F 5) (F 6) (F 7) (F 8) (F 10) (F 13) (F 14) (F 15) (F 16) (F 17) (F 18) (F 19) (F 20) (F 21) (F 22) (F 23) (F 24) (F 25) (F 26) (F 27) (F 28) (F 29) (F 30) (F 31) (F 32) (F 33) (F 34) (F 35) (F 36) (F 37) (F 38) (F 39) (F 40) (F 41) (F 42) (F 43) (F 49) (F 50) (F 51) (F 52) (F 53) (F 54) (F 55) (F 56) (F 57) (F 58) (F 59) (n 9) (n 11) (n 12) (n 44) (n 45) (n 46) (n 47) (n 48)) t.heap ∧ va_D (va_A (w10 h0 X C (F 0) (F 1) (F 2) (F 3) (F 4) (F 5) (F 6) (F 7) (F 8) (F 10) (F 13) (F 14) (F 15) (F 16) (F 17) (F 18) (F 19) (F 20) (F 21) (F 22) (F 23) (F 24) (F 25) (F 26) (F 27) (F 28) (F 29) (F 30) (F 31) (F 32) (F 33) (F 34) (F 35) (F 36) (F 37) (F 38) (F 39) (F 40) (F 41) (F 42) (F 43) (F 49) (F 50) (F 51) (F 52) (F 53) (F 54) (F 55) (F 56) (F 57) (F 58) (F 59) (n 9) (n 11) (n 12) (n 44) (n 45) (n 46) (n 47) (n 48)) sz) (w10 h0 X C (F 0) (F 1) (F 2) (F 3) (F 4) (F 5) (F 6) (F 7) (F 8) (F 10) (F 13) (F 14) (F 15) (F 16) (F 17) (F 18) (F 19) (F 20) (F 21) (F 22) (F 23) (F 24) (F 25) (F 26) (F 27) (F 28) (F 29) (F 30) (F 31) (F 32) (F 33) (F 34) (F 35) (F 36) (F 37) (F 38) (F 39) (F 40) (F 41) (F 42) (F 43) (F 49) (F 50) (F 51) (F 52) (F 53) (F 54) (F 55) (F 56) (F 57) (F 58) (F 59) (n 9) (n 11) (n 12) (n 44) (n 45) (n 46) (n 47) (n 48))) (va_A (w10 h0 X C (F 0) (F 1) (F 2) (F 3) (F 4) (F 5) (F 6) (F 7) (F 8) (F 10) (F 13) (F 14) (F 15) (F 16) (F 17) (F 18) (F 19) (F 20) (F 21) (F 22) (F 23) (F 24) (F 25) (F 26) (F 27) (F 28) (F 29) (F 30) (F 31) (F 32) (F 33) (F 34) (F 35) (F 36) (F 37) (F 38) (F 39) (F 40) (F 41) (F 42) (F 43) (F 49) (F 50) (F 51) (F 52) (F 53) (F 54) (F 55) (F 56) (F 57) (F 58) (F 59) (n 9) (n 11) (n 12) (n 44) (n 45) (n 46) (n 47) (n 48)) sz)) 0 0 (va_A (w10 h0 X C (F 0) (F 1) (F 2) (F 3) (F 4) (F 5) (F 6) (F 7) (F 8) (F 10) (F 13) (F 14) (F 15) (F 16) (F 17) (F 18) (F 19) (F 20) (F 21) (F 22) (F 23) (F 24) (F 25) (F 26) (F 27) (F 28) (F 29) (F 30) (F 31) (F 32) (F 33) (F 34) (F 35) (F 36) (F 37) (F 38) (F 39) (F 40) (F 41) (F 42) (F 43) (F 49) (F 50) (F 51) (F 52) (F 53) (F 54) (F 55) (F 56) (F 57) (F 58) (F 59) (n 9) (n 11) (n 12) (n 44) (n 45) (n 46) (n 47) (n 48)) sz) := by
  refine Met.ofW (cc := cX10_reads) (maxL := 5) (ret := (some .int)) (by decide) rfl ?_
  intro p e s m args below meth c s₁ B hml hv
  obtain ⟨rfl, hsz, hP, hK, hD0, hN⟩ := hv
  have hx := B.exec
  have hb := B.bytes
  have hr := B.returns
  have hts := atoms_spec (ws := .code yX10_reads cX10_reads 5 (some .int) :: gw) B.pre
  have hg : ∀ w ∈ gw, w.before _ s = true := fun w h => hts w (List.mem_cons_of_mem _ h)
  have hown : s.vm.findClass RX10 = some m.cls := findClass_of_methodNamed B.named
  have hlocks := B.notSynchronized
  subst hsz
  have hD := hD0.self (sz := s.heap.size)
  generalize hAe : va_A (w10 h0 X C (F 0) (F 1) (F 2) (F 3) (F 4) (F 5) (F 6) (F 7) (F 8) (F 10) (F 13) (F 14) (F 15) (F 16) (F 17) (F 18) (F 19) (F 20) (F 21) (F 22) (F 23) (F 24) (F 25) (F 26) (F 27) (F 28) (F 29) (F 30) (F 31) (F 32) (F 33) (F 34) (F 35) (F 36) (F 37) (F 38) (F 39) (F 40) (F 41) (F 42) (F 43) (F 49) (F 50) (F 51) (F 52) (F 53) (F 54) (F 55) (F 56) (F 57) (F 58) (F 59) (n 9) (n 11) (n 12) (n 44) (n 45) (n 46) (n 47) (n 48)) s.heap.size = A at hD ⊢
  have hA : ∀ q : Nat, s.heap.size ≤ q → A q := fun q h => by rw [← hAe]; exact Or.inr h
  have hS : va_S A s.heap s.heap [] := va_S.rf
  have hP : va_P (dC, dI) vwCl (w10 h0 X C (F 0) (F 1) (F 2) (F 3) (F 4) (F 5) (F 6) (F 7) (F 8) (F 10) (F 13) (F 14) (F 15) (F 16) (F 17) (F 18) (F 19) (F 20) (F 21) (F 22) (F 23) (F 24) (F 25) (F 26) (F 27) (F 28) (F 29) (F 30) (F 31) (F 32) (F 33) (F 34) (F 35) (F 36) (F 37) (F 38) (F 39) (F 40) (F 41) (F 42) (F 43) (F 49) (F 50) (F 51) (F 52) (F 53) (F 54) (F 55) (F 56) (F 57) (F 58) (F 59) (n 9) (n 11) (n 12) (n 44) (n 45) (n 46) (n 47) (n 48)) s.heap := hP
  have hl := lv_entry ([.ref h0, .int v1, .int v2]) (n := 5) (Nat.le_of_ble_eq_true rfl)
  rw [lg_entry_eq]
  generalize (lg_sl ([.ref h0, .int v1, .int v2]) ++ List.replicate (5 - (lg_sl ([.ref h0, .int v1, .int v2])).length) Slot.unset).toArray = ls at hl ⊢
  have hl : lv_has ls 5 [(0, .ref h0), (1, .int v1), (2, .int v2)] := hl
  obtain ⟨b_1, b_2, b_3, b_4, b_5, b_6, b_7, b_8, b_9, b_10, b_11, b_12, i_13, i_14, i_15, i_16, i_17, i_18, i_19, j_20, j_21, j_22, j_23, j_24, j_25, j_26, j_27, j_28, j_29⟩ := id hI
  refine lv_bipush (v := 8) hx hb dX10_reads_0 (by decide) ?_
  refine lv_iload_n hx hb dX10_reads_2 rfl (lv_at hl 1 rfl) ?_
  refine lv_imul hx hb dX10_reads_3 ?_
  refine lv_topi (fun z_30 ez_30 => ?_)
  have tz_30 : z_30.toInt = 8 * v1.toInt := ar_mul ti_8 rfl ez_30 (by omega)
  refine lv_iload_n hx hb dX10_reads_4 rfl (lv_at hl 2 rfl) ?_
  refine lv_iadd hx hb dX10_reads_5 ?_
  refine lv_topi (fun z_31 ez_31 => ?_)
  have tz_31 : z_31.toInt = z_30.toInt + v2.toInt := ar_add rfl rfl ez_31 (by omega)
  refine lv_istore_n (lv' := [(3, .int z_31), (0, .ref h0), (1, .int v1), (2, .int v2)]) hx hb dX10_reads_6 rfl hl (by decide) rfl (fun ls hl => ?_)
  refine lv_aload_n hx hb dX10_reads_7 rfl (lv_at hl 1 rfl) ?_
  refine va_get (D := (dC, dI)) (ci := 10) (v := .ref (X 0)) (C := RX10) (T := TX10) (N := 60) hx hb hg gb_10 hown hK hP 0 rfl rfl 0 (by decide) (hg _ gm_fieldLink_RX10_7_ErrandGuildModel_manner_AI_) (fun _ h9 => h9) rfl dX10_reads_8 ?_
  refine lv_iload_n hx hb dX10_reads_11 rfl (lv_at hl 3 rfl) ?_
  refine va_iald (f := F 0) hx hb hK hP 1 0 rfl rfl (vp_in_iff.mpr ⟨by omega, by omega⟩) dX10_reads_12 ?_
  refine lv_topi (fun z_32 ez_32 => ?_)
  have qz_32 := congrArg Int32.toInt ez_32
  rcases (show (z_32.toInt < 0 ∨ 3 < z_32.toInt) ∨ z_32.toInt = 0 ∨ z_32.toInt = 1 ∨ z_32.toInt = 2 ∨ z_32.toInt = 3 by omega) with sw_33 | sw_33 | sw_33 | sw_33 | sw_33
  · refine lv_tableOut (tgt := 175) hx hb dX10_reads_13 sw_33 (by decide) ?_
    refine lv_aload_n hx hb dX10_reads_175 rfl (lv_at hl 1 rfl) ?_
    refine va_get (D := (dC, dI)) (ci := 10) (v := .ref (X 35)) (C := RX10) (T := TX10) (N := 60) hx hb hg gb_10 hown hK hP 0 rfl rfl 35 (by decide) (hg _ gm_fieldLink_RX10_111_ErrandGuildModel_hasWritten_AZ_) (fun _ h9 => h9) rfl dX10_reads_176 ?_
    refine lv_iload_n hx hb dX10_reads_179 rfl (lv_at hl 0 rfl) ?_
    refine va_zald (f := F 35) hx hb hK hP 33 32 rfl rfl (vp_in_iff.mpr ⟨by omega, by omega⟩) dX10_reads_180 ?_
    refine lv_topi (fun z_34 ez_34 => ?_)
    have qz_34 := congrArg Int32.toInt ez_34
    refine lv_if_eq (tgt := 193) hx hb dX10_reads_181 (by decide) (fun c_35 => ?_) (fun c_35 => ?_)
    · simp only [i_lt, i_le, i_eq, ti_0] at c_35
      refine lv_aload_n hx hb dX10_reads_193 rfl (lv_at hl 1 rfl) ?_
      refine va_get (D := (dC, dI)) (ci := 10) (v := .ref (X 1)) (C := RX10) (T := TX10) (N := 60) hx hb hg gb_10 hown hK hP 0 rfl rfl 1 (by decide) (hg _ gm_fieldLink_RX10_13_ErrandGuildModel_first_AI_) (fun _ h9 => h9) rfl dX10_reads_194 ?_
      refine lv_iload_n hx hb dX10_reads_197 rfl (lv_at hl 3 rfl) ?_
      refine va_iald (f := F 1) hx hb hK hP 2 1 rfl rfl (vp_in_iff.mpr ⟨by omega, by omega⟩) dX10_reads_198 ?_
      refine lv_topi (fun z_36 ez_36 => ?_)
      have qz_36 := congrArg Int32.toInt ez_36
      exact W.iret (v := z_36) hx hb hr (fun t ht hW => ⟨⟨z_36, (), rfl, trivial, by rw [ht]; exact hP, hD⟩, hS.F ht⟩) hS.2.2 dX10_reads_199
    · simp only [i_lt, i_le, i_eq, ti_0] at c_35
      refine lv_aload_n hx hb dX10_reads_184 rfl (lv_at hl 1 rfl) ?_
      refine va_get (D := (dC, dI)) (ci := 10) (v := .ref (X 34)) (C := RX10) (T := TX10) (N := 60) hx hb hg gb_10 hown hK hP 0 rfl rfl 34 (by decide) (hg _ gm_fieldLink_RX10_108_ErrandGuildModel_wrote_AI_) (fun _ h9 => h9) rfl dX10_reads_185 ?_
      refine lv_iload_n hx hb dX10_reads_188 rfl (lv_at hl 0 rfl) ?_
      refine va_iald (f := F 34) hx hb hK hP 32 31 rfl rfl (vp_in_iff.mpr ⟨by omega, by omega⟩) dX10_reads_189 ?_
      refine lv_topi (fun z_37 ez_37 => ?_)
      have qz_37 := congrArg Int32.toInt ez_37
      refine lv_goto (tgt := 199) hx hb dX10_reads_190 (by decide) ?_
      exact W.iret (v := z_37) hx hb hr (fun t ht hW => ⟨⟨z_37, (), rfl, trivial, by rw [ht]; exact hP, hD⟩, hS.F ht⟩) hS.2.2 dX10_reads_199
  · refine lv_tableIn (tgt := 44) hx hb dX10_reads_13 (by omega) (by omega) (by rw [sw_33]; rfl) (by decide) ?_
    refine lv_aload_n hx hb dX10_reads_44 rfl (lv_at hl 1 rfl) ?_
    refine va_get (D := (dC, dI)) (ci := 10) (v := .ref (X 35)) (C := RX10) (T := TX10) (N := 60) hx hb hg gb_10 hown hK hP 0 rfl rfl 35 (by decide) (hg _ gm_fieldLink_RX10_111_ErrandGuildModel_hasWritten_AZ_) (fun _ h9 => h9) rfl dX10_reads_45 ?_
    refine lv_iload_n hx hb dX10_reads_48 rfl (lv_at hl 0 rfl) ?_
    refine va_zald (f := F 35) hx hb hK hP 33 32 rfl rfl (vp_in_iff.mpr ⟨by omega, by omega⟩) dX10_reads_49 ?_
    refine lv_topi (fun z_38 ez_38 => ?_)
    have qz_38 := congrArg Int32.toInt ez_38
    refine lv_if_eq (tgt := 72) hx hb dX10_reads_50 (by decide) (fun c_39 => ?_) (fun c_39 => ?_)
    · simp only [i_lt, i_le, i_eq, ti_0] at c_39
      refine lv_aload_n hx hb dX10_reads_72 rfl (lv_at hl 1 rfl) ?_
      refine va_get (D := (dC, dI)) (ci := 10) (v := .ref (X 1)) (C := RX10) (T := TX10) (N := 60) hx hb hg gb_10 hown hK hP 0 rfl rfl 1 (by decide) (hg _ gm_fieldLink_RX10_13_ErrandGuildModel_first_AI_) (fun _ h9 => h9) rfl dX10_reads_73 ?_
      refine lv_iload_n hx hb dX10_reads_76 rfl (lv_at hl 3 rfl) ?_
      refine va_iald (f := F 1) hx hb hK hP 2 1 rfl rfl (vp_in_iff.mpr ⟨by omega, by omega⟩) dX10_reads_77 ?_
      refine lv_topi (fun z_40 ez_40 => ?_)
      have qz_40 := congrArg Int32.toInt ez_40
      exact W.iret (v := z_40) hx hb hr (fun t ht hW => ⟨⟨z_40, (), rfl, trivial, by rw [ht]; exact hP, hD⟩, hS.F ht⟩) hS.2.2 dX10_reads_78
    · simp only [i_lt, i_le, i_eq, ti_0] at c_39
      refine lv_aload_n hx hb dX10_reads_53 rfl (lv_at hl 1 rfl) ?_
      refine va_get (D := (dC, dI)) (ci := 10) (v := .ref (X 18)) (C := RX10) (T := TX10) (N := 60) hx hb hg gb_10 hown hK hP 0 rfl rfl 18 (by decide) (hg _ gm_fieldLink_RX10_60_ErrandGuildModel_thread_AI_) (fun _ h9 => h9) rfl dX10_reads_54 ?_
      refine lv_iload_n hx hb dX10_reads_57 rfl (lv_at hl 2 rfl) ?_
      refine va_iald (f := F 18) hx hb hK hP 16 15 rfl rfl (vp_in_iff.mpr ⟨by omega, by omega⟩) dX10_reads_58 ?_
      refine lv_topi (fun z_41 ez_41 => ?_)
      have qz_41 := congrArg Int32.toInt ez_41
      have bz_41 := bd_at b_7 ez_41
      refine lv_iconst (v := -1) hx hb dX10_reads_59 (by decide) ?_
      refine lv_icmp_eq (tgt := 72) hx hb dX10_reads_60 (by decide) (fun c_42 => ?_) (fun c_42 => ?_)
      · simp only [i_lt, i_le, i_eq, ti_m1] at c_42
        refine lv_aload_n hx hb dX10_reads_72 rfl (lv_at hl 1 rfl) ?_
        refine va_get (D := (dC, dI)) (ci := 10) (v := .ref (X 1)) (C := RX10) (T := TX10) (N := 60) hx hb hg gb_10 hown hK hP 0 rfl rfl 1 (by decide) (hg _ gm_fieldLink_RX10_13_ErrandGuildModel_first_AI_) (fun _ h9 => h9) rfl dX10_reads_73 ?_
        refine lv_iload_n hx hb dX10_reads_76 rfl (lv_at hl 3 rfl) ?_
        refine va_iald (f := F 1) hx hb hK hP 2 1 rfl rfl (vp_in_iff.mpr ⟨by omega, by omega⟩) dX10_reads_77 ?_
        refine lv_topi (fun z_43 ez_43 => ?_)
        have qz_43 := congrArg Int32.toInt ez_43
        exact W.iret (v := z_43) hx hb hr (fun t ht hW => ⟨⟨z_43, (), rfl, trivial, by rw [ht]; exact hP, hD⟩, hS.F ht⟩) hS.2.2 dX10_reads_78
      · simp only [i_lt, i_le, i_eq, ti_m1] at c_42
        refine lv_aload_n hx hb dX10_reads_63 rfl (lv_at hl 1 rfl) ?_
        refine va_get (D := (dC, dI)) (ci := 10) (v := .ref (X 34)) (C := RX10) (T := TX10) (N := 60) hx hb hg gb_10 hown hK hP 0 rfl rfl 34 (by decide) (hg _ gm_fieldLink_RX10_108_ErrandGuildModel_wrote_AI_) (fun _ h9 => h9) rfl dX10_reads_64 ?_
        refine lv_iload_n hx hb dX10_reads_67 rfl (lv_at hl 0 rfl) ?_
        refine va_iald (f := F 34) hx hb hK hP 32 31 rfl rfl (vp_in_iff.mpr ⟨by omega, by omega⟩) dX10_reads_68 ?_
        refine lv_topi (fun z_44 ez_44 => ?_)
        have qz_44 := congrArg Int32.toInt ez_44
        refine lv_goto (tgt := 78) hx hb dX10_reads_69 (by decide) ?_
        exact W.iret (v := z_44) hx hb hr (fun t ht hW => ⟨⟨z_44, (), rfl, trivial, by rw [ht]; exact hP, hD⟩, hS.F ht⟩) hS.2.2 dX10_reads_78
  · refine lv_tableIn (tgt := 79) hx hb dX10_reads_13 (by omega) (by omega) (by rw [sw_33]; rfl) (by decide) ?_
    refine lv_aload_n hx hb dX10_reads_79 rfl (lv_at hl 1 rfl) ?_
    refine va_get (D := (dC, dI)) (ci := 10) (v := .ref (X 35)) (C := RX10) (T := TX10) (N := 60) hx hb hg gb_10 hown hK hP 0 rfl rfl 35 (by decide) (hg _ gm_fieldLink_RX10_111_ErrandGuildModel_hasWritten_AZ_) (fun _ h9 => h9) rfl dX10_reads_80 ?_
    refine lv_iload_n hx hb dX10_reads_83 rfl (lv_at hl 0 rfl) ?_
    refine va_zald (f := F 35) hx hb hK hP 33 32 rfl rfl (vp_in_iff.mpr ⟨by omega, by omega⟩) dX10_reads_84 ?_
    refine lv_topi (fun z_45 ez_45 => ?_)
    have qz_45 := congrArg Int32.toInt ez_45
    refine lv_if_eq (tgt := 97) hx hb dX10_reads_85 (by decide) (fun c_46 => ?_) (fun c_46 => ?_)
    · simp only [i_lt, i_le, i_eq, ti_0] at c_46
      refine lv_aload_n hx hb dX10_reads_97 rfl (lv_at hl 1 rfl) ?_
      refine va_get (D := (dC, dI)) (ci := 10) (v := .ref (X 33)) (C := RX10) (T := TX10) (N := 60) hx hb hg gb_10 hown hK hP 0 rfl rfl 33 (by decide) (hg _ gm_fieldLink_RX10_105_ErrandGuildModel_kept_AI_) (fun _ h9 => h9) rfl dX10_reads_98 ?_
      refine lv_iload_n hx hb dX10_reads_101 rfl (lv_at hl 0 rfl) ?_
      refine va_iald (f := F 33) hx hb hK hP 31 30 rfl rfl (vp_in_iff.mpr ⟨by omega, by omega⟩) dX10_reads_102 ?_
      refine lv_topi (fun z_47 ez_47 => ?_)
      have qz_47 := congrArg Int32.toInt ez_47
      exact W.iret (v := z_47) hx hb hr (fun t ht hW => ⟨⟨z_47, (), rfl, trivial, by rw [ht]; exact hP, hD⟩, hS.F ht⟩) hS.2.2 dX10_reads_103
    · simp only [i_lt, i_le, i_eq, ti_0] at c_46
      refine lv_aload_n hx hb dX10_reads_88 rfl (lv_at hl 1 rfl) ?_
      refine va_get (D := (dC, dI)) (ci := 10) (v := .ref (X 34)) (C := RX10) (T := TX10) (N := 60) hx hb hg gb_10 hown hK hP 0 rfl rfl 34 (by decide) (hg _ gm_fieldLink_RX10_108_ErrandGuildModel_wrote_AI_) (fun _ h9 => h9) rfl dX10_reads_89 ?_
      refine lv_iload_n hx hb dX10_reads_92 rfl (lv_at hl 0 rfl) ?_
      refine va_iald (f := F 34) hx hb hK hP 32 31 rfl rfl (vp_in_iff.mpr ⟨by omega, by omega⟩) dX10_reads_93 ?_
      refine lv_topi (fun z_48 ez_48 => ?_)
      have qz_48 := congrArg Int32.toInt ez_48
      refine lv_goto (tgt := 103) hx hb dX10_reads_94 (by decide) ?_
      exact W.iret (v := z_48) hx hb hr (fun t ht hW => ⟨⟨z_48, (), rfl, trivial, by rw [ht]; exact hP, hD⟩, hS.F ht⟩) hS.2.2 dX10_reads_103
  · refine lv_tableIn (tgt := 104) hx hb dX10_reads_13 (by omega) (by omega) (by rw [sw_33]; rfl) (by decide) ?_
    refine lv_bipush (v := 8) hx hb dX10_reads_104 (by decide) ?_
    refine lv_aload_n hx hb dX10_reads_106 rfl (lv_at hl 1 rfl) ?_
    refine va_get (D := (dC, dI)) (ci := 10) (v := .ref (X 16)) (C := RX10) (T := TX10) (N := 60) hx hb hg gb_10 hown hK hP 0 rfl rfl 16 (by decide) (hg _ gm_fieldLink_RX10_54_ErrandGuildModel_root_AI_) (fun _ h9 => h9) rfl dX10_reads_107 ?_
    refine lv_iload_n hx hb dX10_reads_110 rfl (lv_at hl 2 rfl) ?_
    refine va_iald (f := F 16) hx hb hK hP 14 13 rfl rfl (vp_in_iff.mpr ⟨by omega, by omega⟩) dX10_reads_111 ?_
    refine lv_topi (fun z_49 ez_49 => ?_)
    have qz_49 := congrArg Int32.toInt ez_49
    have bz_49 := bd_at b_6 ez_49
    refine lv_imul hx hb dX10_reads_112 ?_
    refine lv_topi (fun z_50 ez_50 => ?_)
    have tz_50 : z_50.toInt = 8 * z_49.toInt := ar_mul ti_8 rfl ez_50 (by omega)
    refine lv_iload_n hx hb dX10_reads_113 rfl (lv_at hl 3 rfl) ?_
    refine lv_iadd hx hb dX10_reads_114 ?_
    refine lv_topi (fun z_51 ez_51 => ?_)
    have tz_51 : z_51.toInt = z_50.toInt + v2.toInt := ar_add rfl rfl ez_51 (by omega)
    refine lv_istore (lv' := [(4, .int z_51), (3, .int z_31), (0, .ref h0), (1, .int v1), (2, .int v2)]) hx hb dX10_reads_115 hl (by decide) rfl (fun ls hl => ?_)
    refine lv_aload_n hx hb dX10_reads_117 rfl (lv_at hl 2 rfl) ?_
    refine va_get (D := (dC, dI)) (ci := 10) (v := .ref (X 35)) (C := RX10) (T := TX10) (N := 60) hx hb hg gb_10 hown hK hP 0 rfl rfl 35 (by decide) (hg _ gm_fieldLink_RX10_111_ErrandGuildModel_hasWritten_AZ_) (fun _ h9 => h9) rfl dX10_reads_118 ?_
    refine lv_iload hx hb dX10_reads_121 (lv_at hl 0 rfl) ?_
    refine va_zald (f := F 35) hx hb hK hP 33 32 rfl rfl (vp_in_iff.mpr ⟨by omega, by omega⟩) dX10_reads_123 ?_
    refine lv_topi (fun z_52 ez_52 => ?_)
    have qz_52 := congrArg Int32.toInt ez_52
    refine lv_if_eq (tgt := 137) hx hb dX10_reads_124 (by decide) (fun c_53 => ?_) (fun c_53 => ?_)
    · simp only [i_lt, i_le, i_eq, ti_0] at c_53
      refine lv_aload_n hx hb dX10_reads_137 rfl (lv_at hl 2 rfl) ?_
      refine va_get (D := (dC, dI)) (ci := 10) (v := .ref (X 1)) (C := RX10) (T := TX10) (N := 60) hx hb hg gb_10 hown hK hP 0 rfl rfl 1 (by decide) (hg _ gm_fieldLink_RX10_13_ErrandGuildModel_first_AI_) (fun _ h9 => h9) rfl dX10_reads_138 ?_
      refine lv_iload_n hx hb dX10_reads_141 rfl (lv_at hl 4 rfl) ?_
      refine va_iald (f := F 1) hx hb hK hP 2 1 rfl rfl (vp_in_iff.mpr ⟨by omega, by omega⟩) dX10_reads_142 ?_
      refine lv_topi (fun z_54 ez_54 => ?_)
      have qz_54 := congrArg Int32.toInt ez_54
      exact W.iret (v := z_54) hx hb hr (fun t ht hW => ⟨⟨z_54, (), rfl, trivial, by rw [ht]; exact hP, hD⟩, hS.F ht⟩) hS.2.2 dX10_reads_143
    · simp only [i_lt, i_le, i_eq, ti_0] at c_53
      refine lv_aload_n hx hb dX10_reads_127 rfl (lv_at hl 2 rfl) ?_
      refine va_get (D := (dC, dI)) (ci := 10) (v := .ref (X 34)) (C := RX10) (T := TX10) (N := 60) hx hb hg gb_10 hown hK hP 0 rfl rfl 34 (by decide) (hg _ gm_fieldLink_RX10_108_ErrandGuildModel_wrote_AI_) (fun _ h9 => h9) rfl dX10_reads_128 ?_
      refine lv_iload hx hb dX10_reads_131 (lv_at hl 0 rfl) ?_
      refine va_iald (f := F 34) hx hb hK hP 32 31 rfl rfl (vp_in_iff.mpr ⟨by omega, by omega⟩) dX10_reads_133 ?_
      refine lv_topi (fun z_55 ez_55 => ?_)
      have qz_55 := congrArg Int32.toInt ez_55
      refine lv_goto (tgt := 143) hx hb dX10_reads_134 (by decide) ?_
      exact W.iret (v := z_55) hx hb hr (fun t ht hW => ⟨⟨z_55, (), rfl, trivial, by rw [ht]; exact hP, hD⟩, hS.F ht⟩) hS.2.2 dX10_reads_143
  · refine lv_tableIn (tgt := 144) hx hb dX10_reads_13 (by omega) (by omega) (by rw [sw_33]; rfl) (by decide) ?_
    refine lv_aload_n hx hb dX10_reads_144 rfl (lv_at hl 1 rfl) ?_
    refine lv_iload_n hx hb dX10_reads_145 rfl (lv_at hl 2 rfl) ?_
    refine lv_iload_n hx hb dX10_reads_146 rfl (lv_at hl 3 rfl) ?_
    have hFc := free_all hD hS hA
    refine va_calli (va_runV (As := [.int v1, .int v2]) (rest := []) ⟨hx, hb, hml, hown, hg⟩ (c_X10_binding l dC dI kp h0 X C F n v1 v2 s.heap.size ⟨b_1, b_2, b_3, b_4, b_5, b_6, b_7, b_8, b_9, b_10, b_11, b_12, i_13, i_14, i_15, i_16, i_17, i_18, i_19, j_20, j_21, j_22, j_23, j_24, j_25, j_26, j_27, j_28, j_29⟩ (by omega)) (cwV 2 hg (gw_V gm_methodLink_RX10_208_yX10_binding gm_instanceMethod_yX10_binding gm_selects_RX10_yX10_binding_yX10_binding gm_initialized_RX10 gm_code_yX10_binding_cX10_binding_4_some_int_) rfl rfl rfl (by decide +kernel) ⟨Nat.le_of_ble_eq_true rfl, Nat.le_of_ble_eq_true rfl⟩) ⟨fun a U g mk q => by obtain ⟨q0, q1, qP, qK, qD, qN⟩ := q; exact ⟨q0, q1, qP, va_K.moved (u := U) (U := U.calling g mk a) (Vm.Alike.refl U.vm) qK, qD, nx_same (u := U) (U := U.calling g mk a) rfl qN⟩, va_recv hK hP (ci := 10) (q0 := 0) rfl rfl, fun U hU hW => ⟨rfl, by rw [hU], by rw [hU]; exact hP, va_K.moved hW.alike hK, hD.weaken (fun _ _ _ _ => trivial), nx_warm hW hN⟩⟩ rfl rfl hl.1 rfl (lv_room (Nat.le_of_ble_eq_true rfl)) dX10_reads_147 ⟨Nat.le_of_ble_eq_true rfl, Nat.le_of_ble_eq_true rfl⟩) hS (fun q _ h => hFc q h) hFc (fun r_56 u_57 t H1 locs ht hvm hw hB hz1 hk1 hS => ?_)
    obtain ⟨hP, hD⟩ := hB
    rw [ht] at hP
    have hD := hD.weaken (fun k q _ h => hFc _ h)
    generalize H1 = H at hP hS ⊢
    have hP : va_P (dC, dI) vwCl (w10 h0 X C (F 0) (F 1) (F 2) (F 3) (F 4) (F 5) (F 6) (F 7) (F 8) (F 10) (F 13) (F 14) (F 15) (F 16) (F 17) (F 18) (F 19) (F 20) (F 21) (F 22) (F 23) (F 24) (F 25) (F 26) (F 27) (F 28) (F 29) (F 30) (F 31) (F 32) (F 33) (F 34) (F 35) (F 36) (F 37) (F 38) (F 39) (F 40) (F 41) (F 42) (F 43) (F 49) (F 50) (F 51) (F 52) (F 53) (F 54) (F 55) (F 56) (F 57) (F 58) (F 59) (n 9) (n 11) (n 12) (n 44) (n 45) (n 46) (n 47) (n 48)) H := hP
    have hD : va_D A (w10 h0 X C (F 0) (F 1) (F 2) (F 3) (F 4) (F 5) (F 6) (F 7) (F 8) (F 10) (F 13) (F 14) (F 15) (F 16) (F 17) (F 18) (F 19) (F 20) (F 21) (F 22) (F 23) (F 24) (F 25) (F 26) (F 27) (F 28) (F 29) (F 30) (F 31) (F 32) (F 33) (F 34) (F 35) (F 36) (F 37) (F 38) (F 39) (F 40) (F 41) (F 42) (F 43) (F 49) (F 50) (F 51) (F 52) (F 53) (F 54) (F 55) (F 56) (F 57) (F 58) (F 59) (n 9) (n 11) (n 12) (n 44) (n 45) (n 46) (n 47) (n 48)) := hD
    have w_58 : -1 ≤ r_56.toInt ∧ r_56.toInt < 4800 := hw
    try simp only [upd_eq] at w_58
    refine lv_istore (lv' := [(4, .int r_56), (3, .int z_31), (0, .ref h0), (1, .int v1), (2, .int v2)]) hx hb dX10_reads_150 hl (by decide) rfl (fun ls hl => ?_)
    refine lv_iload hx hb dX10_reads_152 (lv_at hl 0 rfl) ?_
    refine lv_iconst (v := -1) hx hb dX10_reads_154 (by decide) ?_
    refine lv_icmp_ne (tgt := 167) hx hb dX10_reads_155 (by decide) (fun c_59 => ?_) (fun c_59 => ?_)
    · simp only [i_lt, i_le, i_eq, ti_m1] at c_59
      refine lv_aload_n hx hb dX10_reads_167 rfl (lv_at hl 2 rfl) ?_
      refine va_get (D := (dC, dI)) (ci := 10) (v := .ref (X 38)) (C := RX10) (T := TX10) (N := 60) hx hb hg gb_10 hown hK hP 0 rfl rfl 38 (by decide) (hg _ gm_fieldLink_RX10_120_ErrandGuildModel_bindValue_AI_) (fun _ h9 => h9) rfl dX10_reads_168 ?_
      refine lv_iload hx hb dX10_reads_171 (lv_at hl 0 rfl) ?_
      refine va_iald (f := F 38) hx hb hK hP 36 35 rfl rfl (vp_in_iff.mpr ⟨by omega, by omega⟩) dX10_reads_173 ?_
      refine lv_topi (fun z_60 ez_60 => ?_)
      have qz_60 := congrArg Int32.toInt ez_60
      exact W.iret (v := z_60) hx hb hr (fun t ht hW => ⟨⟨z_60, (), rfl, trivial, by rw [ht]; exact hP, hD⟩, hS.F ht⟩) hS.2.2 dX10_reads_174
    · simp only [i_lt, i_le, i_eq, ti_m1] at c_59
      refine lv_aload_n hx hb dX10_reads_158 rfl (lv_at hl 2 rfl) ?_
      refine va_get (D := (dC, dI)) (ci := 10) (v := .ref (X 33)) (C := RX10) (T := TX10) (N := 60) hx hb hg gb_10 hown hK hP 0 rfl rfl 33 (by decide) (hg _ gm_fieldLink_RX10_105_ErrandGuildModel_kept_AI_) (fun _ h9 => h9) rfl dX10_reads_159 ?_
      refine lv_iload_n hx hb dX10_reads_162 rfl (lv_at hl 1 rfl) ?_
      refine va_iald (f := F 33) hx hb hK hP 31 30 rfl rfl (vp_in_iff.mpr ⟨by omega, by omega⟩) dX10_reads_163 ?_
      refine lv_topi (fun z_61 ez_61 => ?_)
      have qz_61 := congrArg Int32.toInt ez_61
      refine lv_goto (tgt := 174) hx hb dX10_reads_164 (by decide) ?_
      exact W.iret (v := z_61) hx hb hr (fun t ht hW => ⟨⟨z_61, (), rfl, trivial, by rw [ht]; exact hP, hD⟩, hS.F ht⟩) hS.2.2 dX10_reads_174

set_option maxHeartbeats 8000000 in
set_option maxRecDepth 100000 in
theorem c_X10_run (l : Launch) (dC : Nat → ClassId) (dI : Nat → Nat → Nat) (kp : Int) (h0 : Nat) (X : Nat → Nat) (C : Nat → ClassId) (F : Nat → Nat → Int32) (n : Nat → Int32) (v1 : Int32) (v2 : Int32) (sz : Nat) (hI : I10 kp F n) : Met l yX10_run (.code yX10_run cX10_run 3 (some .int) :: gw) ({ frames := 1, cells := 0, slots := 0, locals := 23 }) (va_Pc [.ref h0, .int v1, .int v2] (fun U => U.heap.size = sz ∧ va_P (dC, dI) vwCl (w10 h0 X C (F 0) (F 1) (F 2) (F 3) (F 4) (F 5) (F 6) (F 7) (F 8) (F 10) (F 13) (F 14) (F 15) (F 16) (F 17) (F 18) (F 19) (F 20) (F 21) (F 22) (F 23) (F 24) (F 25) (F 26) (F 27) (F 28) (F 29) (F 30) (F 31) (F 32) (F 33) (F 34) (F 35) (F 36) (F 37) (F 38) (F 39) (F 40) (F 41) (F 42) (F 43) (F 49) (F 50) (F 51) (F 52) (F 53) (F 54) (F 55) (F 56) (F 57) (F 58) (F 59) (n 9) (n 11) (n 12) (n 44) (n 45) (n 46) (n 47) (n 48)) U.heap ∧ va_K (dC, dI) vwCl (t10 C) U ∧ va_D (fun _ => True) (w10 h0 X C (F 0) (F 1) (F 2) (F 3) (F 4) (F 5) (F 6) (F 7) (F 8) (F 10) (F 13) (F 14) (F 15) (F 16) (F 17) (F 18) (F 19) (F 20) (F 21) (F 22) (F 23) (F 24) (F 25) (F 26) (F 27) (F 28) (F 29) (F 30) (F 31) (F 32) (F 33) (F 34) (F 35) (F 36) (F 37) (F 38) (F 39) (F 40) (F 41) (F 42) (F 43) (F 49) (F 50) (F 51) (F 52) (F 53) (F 54) (F 55) (F 56) (F 57) (F 58) (F 59) (n 9) (n 11) (n 12) (n 44) (n 45) (n 46) (n 47) (n 48)) ∧ nx U)) (va_Qi (fun (r : Int32) (u : Unit) => True) (fun _ t => va_P (dC, dI) vwCl (w10 h0 X C (F 0) (F 1) (F 2) (F 3) (F 4) (F 5) (F 6) (F 7) (F 8) (F 10) (F 13) (F 14) (F 15) (F 16) (F 17) (F 18) (F 19) (F 20) (F 21) (F 22) (F 23) (F 24) (F 25) (F 26) (F 27) (F 28) (F 29) (F 30) (F 31) (F 32) (F 33) (F 34) (F 35) (F 36) (F 37) (F 38) (F 39) (F 40) (F 41) (F 42) (F 43) (F 49) (F 50) (F 51) (F 52) (F 53) (F 54) (F 55) (F 56) (F 57) (F 58) (F 59) (n 9) (n 11) (n 12) (n 44) (n 45) (n 46) (n 47) (n 48)) t.heap ∧ va_D (va_A (w10 h0 X C (F 0) (F 1) (F 2) (F 3) (F 4) (F 5) (F 6) (F 7) (F 8) (F 10) (F 13) (F 14) (F 15) (F 16) (F 17) (F 18) (F 19) (F 20) (F 21) (F 22) (F 23) (F 24) (F 25) (F 26) (F 27) (F 28) (F 29) (F 30) (F 31) (F 32) (F 33) (F 34) (F 35) (F 36) (F 37) (F 38) (F 39) (F 40) (F 41) (F 42) (F 43) (F 49) (F 50) (F 51) (F 52) (F 53) (F 54) (F 55) (F 56) (F 57) (F 58) (F 59) (n 9) (n 11) (n 12) (n 44) (n 45) (n 46) (n 47) (n 48)) sz) (w10 h0 X C (F 0) (F 1) (F 2) (F 3) (F 4) (F 5) (F 6) (F 7) (F 8) (F 10) (F 13) (F 14) (F 15) (F 16) (F 17) (F 18) (F 19) (F 20) (F 21) (F 22) (F 23) (F 24) (F 25) (F 26) (F 27) (F 28) (F 29) (F 30) (F 31) (F 32) (F 33) (F 34) (F 35) (F 36) (F 37) (F 38) (F 39) (F 40) (F 41) (F 42) (F 43) (F 49) (F 50) (F 51) (F 52) (F 53) (F 54) (F 55) (F 56) (F 57) (F 58) (F 59) (n 9) (n 11) (n 12) (n 44) (n 45) (n 46) (n 47) (n 48))) (va_A (w10 h0 X C (F 0) (F 1) (F 2) (F 3) (F 4) (F 5) (F 6) (F 7) (F 8) (F 10) (F 13) (F 14) (F 15) (F 16) (F 17) (F 18) (F 19) (F 20) (F 21) (F 22) (F 23) (F 24) (F 25) (F 26) (F 27) (F 28) (F 29) (F 30) (F 31) (F 32) (F 33) (F 34) (F 35) (F 36) (F 37) (F 38) (F 39) (F 40) (F 41) (F 42) (F 43) (F 49) (F 50) (F 51) (F 52) (F 53) (F 54) (F 55) (F 56) (F 57) (F 58) (F 59) (n 9) (n 11) (n 12) (n 44) (n 45) (n 46) (n 47) (n 48)) sz)) 0 0 (va_A (w10 h0 X C (F 0) (F 1) (F 2) (F 3) (F 4) (F 5) (F 6) (F 7) (F 8) (F 10) (F 13) (F 14) (F 15) (F 16) (F 17) (F 18) (F 19) (F 20) (F 21) (F 22) (F 23) (F 24) (F 25) (F 26) (F 27) (F 28) (F 29) (F 30) (F 31) (F 32) (F 33) (F 34) (F 35) (F 36) (F 37) (F 38) (F 39) (F 40) (F 41) (F 42) (F 43) (F 49) (F 50) (F 51) (F 52) (F 53) (F 54) (F 55) (F 56) (F 57) (F 58) (F 59) (n 9) (n 11) (n 12) (n 44) (n 45) (n 46) (n 47) (n 48)) sz) := by
  refine Met.ofW (cc := cX10_run) (maxL := 3) (ret := (some .int)) (by decide) rfl ?_
  intro p e s m args below meth c s₁ B hml hv
  obtain ⟨rfl, hsz, hP, hK, hD0, hN⟩ := hv
  have hx := B.exec
  have hb := B.bytes
  have hr := B.returns
  have hts := atoms_spec (ws := .code yX10_run cX10_run 3 (some .int) :: gw) B.pre
  have hg : ∀ w ∈ gw, w.before _ s = true := fun w h => hts w (List.mem_cons_of_mem _ h)
  have hown : s.vm.findClass RX10 = some m.cls := findClass_of_methodNamed B.named
  have hlocks := B.notSynchronized
  subst hsz
  have hD := hD0.self (sz := s.heap.size)
  generalize hAe : va_A (w10 h0 X C (F 0) (F 1) (F 2) (F 3) (F 4) (F 5) (F 6) (F 7) (F 8) (F 10) (F 13) (F 14) (F 15) (F 16) (F 17) (F 18) (F 19) (F 20) (F 21) (F 22) (F 23) (F 24) (F 25) (F 26) (F 27) (F 28) (F 29) (F 30) (F 31) (F 32) (F 33) (F 34) (F 35) (F 36) (F 37) (F 38) (F 39) (F 40) (F 41) (F 42) (F 43) (F 49) (F 50) (F 51) (F 52) (F 53) (F 54) (F 55) (F 56) (F 57) (F 58) (F 59) (n 9) (n 11) (n 12) (n 44) (n 45) (n 46) (n 47) (n 48)) s.heap.size = A at hD ⊢
  have hA : ∀ q : Nat, s.heap.size ≤ q → A q := fun q h => by rw [← hAe]; exact Or.inr h
  have hS : va_S A s.heap s.heap [] := va_S.rf
  have hP : va_P (dC, dI) vwCl (w10 h0 X C (F 0) (F 1) (F 2) (F 3) (F 4) (F 5) (F 6) (F 7) (F 8) (F 10) (F 13) (F 14) (F 15) (F 16) (F 17) (F 18) (F 19) (F 20) (F 21) (F 22) (F 23) (F 24) (F 25) (F 26) (F 27) (F 28) (F 29) (F 30) (F 31) (F 32) (F 33) (F 34) (F 35) (F 36) (F 37) (F 38) (F 39) (F 40) (F 41) (F 42) (F 43) (F 49) (F 50) (F 51) (F 52) (F 53) (F 54) (F 55) (F 56) (F 57) (F 58) (F 59) (n 9) (n 11) (n 12) (n 44) (n 45) (n 46) (n 47) (n 48)) s.heap := hP
  have hl := lv_entry ([.ref h0, .int v1, .int v2]) (n := 3) (Nat.le_of_ble_eq_true rfl)
  rw [lg_entry_eq]
  generalize (lg_sl ([.ref h0, .int v1, .int v2]) ++ List.replicate (3 - (lg_sl ([.ref h0, .int v1, .int v2])).length) Slot.unset).toArray = ls at hl ⊢
  have hl : lv_has ls 3 [(0, .ref h0), (1, .int v1), (2, .int v2)] := hl
  obtain ⟨b_1, b_2, b_3, b_4, b_5, b_6, b_7, b_8, b_9, b_10, b_11, b_12, i_13, i_14, i_15, i_16, i_17, i_18, i_19, j_20, j_21, j_22, j_23, j_24, j_25, j_26, j_27, j_28, j_29⟩ := id hI
  refine lv_aload_n hx hb dX10_run_0 rfl (lv_at hl 0 rfl) ?_
  refine lv_iload_n hx hb dX10_run_1 rfl (lv_at hl 1 rfl) ?_
  have hFc := free_all hD hS hA
  refine va_calli (va_runV (As := [.int v1]) (rest := []) ⟨hx, hb, hml, hown, hg⟩ (c_X10_isRun l dC dI kp h0 X C F n v1 s.heap.size ⟨b_1, b_2, b_3, b_4, b_5, b_6, b_7, b_8, b_9, b_10, b_11, b_12, i_13, i_14, i_15, i_16, i_17, i_18, i_19, j_20, j_21, j_22, j_23, j_24, j_25, j_26, j_27, j_28, j_29⟩) (cwV 1 hg (gw_V gm_methodLink_RX10_276_yX10_isRun gm_instanceMethod_yX10_isRun gm_selects_RX10_yX10_isRun_yX10_isRun gm_initialized_RX10 gm_code_yX10_isRun_cX10_isRun_2_some_boolean_) rfl rfl rfl (by decide +kernel) ⟨Nat.le_of_ble_eq_true rfl, Nat.le_of_ble_eq_true rfl⟩) ⟨fun a U g mk q => by obtain ⟨q0, q1, qP, qK, qD, qN⟩ := q; exact ⟨q0, q1, qP, va_K.moved (u := U) (U := U.calling g mk a) (Vm.Alike.refl U.vm) qK, qD, nx_same (u := U) (U := U.calling g mk a) rfl qN⟩, va_recv hK hP (ci := 10) (q0 := 0) rfl rfl, fun U hU hW => ⟨rfl, by rw [hU], by rw [hU]; exact hP, va_K.moved hW.alike hK, hD.weaken (fun _ _ _ _ => trivial), nx_warm hW hN⟩⟩ rfl rfl hl.1 rfl (lv_room (Nat.le_of_ble_eq_true rfl)) dX10_run_2 ⟨Nat.le_of_ble_eq_true rfl, Nat.le_of_ble_eq_true rfl⟩) hS (fun q _ h => hFc q h) hFc (fun r_30 u_31 t H1 locs ht hvm hw hB hz1 hk1 hS => ?_)
  obtain ⟨hP, hD⟩ := hB
  rw [ht] at hP
  have hD := hD.weaken (fun k q _ h => hFc _ h)
  generalize H1 = H at hP hS ⊢
  have hP : va_P (dC, dI) vwCl (w10 h0 X C (F 0) (F 1) (F 2) (F 3) (F 4) (F 5) (F 6) (F 7) (F 8) (F 10) (F 13) (F 14) (F 15) (F 16) (F 17) (F 18) (F 19) (F 20) (F 21) (F 22) (F 23) (F 24) (F 25) (F 26) (F 27) (F 28) (F 29) (F 30) (F 31) (F 32) (F 33) (F 34) (F 35) (F 36) (F 37) (F 38) (F 39) (F 40) (F 41) (F 42) (F 43) (F 49) (F 50) (F 51) (F 52) (F 53) (F 54) (F 55) (F 56) (F 57) (F 58) (F 59) (n 9) (n 11) (n 12) (n 44) (n 45) (n 46) (n 47) (n 48)) H := hP
  have hD : va_D A (w10 h0 X C (F 0) (F 1) (F 2) (F 3) (F 4) (F 5) (F 6) (F 7) (F 8) (F 10) (F 13) (F 14) (F 15) (F 16) (F 17) (F 18) (F 19) (F 20) (F 21) (F 22) (F 23) (F 24) (F 25) (F 26) (F 27) (F 28) (F 29) (F 30) (F 31) (F 32) (F 33) (F 34) (F 35) (F 36) (F 37) (F 38) (F 39) (F 40) (F 41) (F 42) (F 43) (F 49) (F 50) (F 51) (F 52) (F 53) (F 54) (F 55) (F 56) (F 57) (F 58) (F 59) (n 9) (n 11) (n 12) (n 44) (n 45) (n 46) (n 47) (n 48)) := hD
  rcases hw with ⟨rfl, w_32⟩ | ⟨rfl, w_32⟩
  · have w_32 : (0 ≤ v1.toInt ∧ v1.toInt < ((n 11)).toInt) := w_32
    try simp only [upd_eq] at w_32
    refine lv_if_ne (tgt := 10) hx hb dX10_run_5 (by decide) (fun _ => ?_) (fun c_33 => absurd c_33 (by decide))
    refine lv_iload_n hx hb dX10_run_10 rfl (lv_at hl 2 rfl) ?_
    rcases (show (v2.toInt < 0 ∨ 12 < v2.toInt) ∨ v2.toInt = 0 ∨ v2.toInt = 1 ∨ v2.toInt = 2 ∨ v2.toInt = 3 ∨ v2.toInt = 4 ∨ v2.toInt = 5 ∨ v2.toInt = 6 ∨ v2.toInt = 7 ∨ v2.toInt = 8 ∨ v2.toInt = 9 ∨ v2.toInt = 10 ∨ v2.toInt = 11 ∨ v2.toInt = 12 by omega) with sw_34 | sw_34 | sw_34 | sw_34 | sw_34 | sw_34 | sw_34 | sw_34 | sw_34 | sw_34 | sw_34 | sw_34 | sw_34 | sw_34
    · refine lv_tableOut (tgt := 166) hx hb dX10_run_11 sw_34 (by decide) ?_
      refine lv_iconst (v := -1) hx hb dX10_run_166 (by decide) ?_
      exact W.iret (v := -1) hx hb hr (fun t ht hW => ⟨⟨-1, (), rfl, trivial, by rw [ht]; exact hP, hD⟩, hS.F ht⟩) hS.2.2 dX10_run_167
    · refine lv_tableIn (tgt := 76) hx hb dX10_run_11 (by omega) (by omega) (by rw [sw_34]; rfl) (by decide) ?_
      refine lv_aload_n hx hb dX10_run_76 rfl (lv_at hl 0 rfl) ?_
      refine va_get (D := (dC, dI)) (ci := 10) (v := .ref (X 13)) (C := RX10) (T := TX10) (N := 60) hx hb hg gb_10 hown hK hP 0 rfl rfl 13 (by decide) (hg _ gm_fieldLink_RX10_45_ErrandGuildModel_state_AI_) (fun _ h9 => h9) rfl dX10_run_77 ?_
      refine lv_iload_n hx hb dX10_run_80 rfl (lv_at hl 1 rfl) ?_
      refine va_iald (f := F 13) hx hb hK hP 11 10 rfl rfl (vp_in_iff.mpr ⟨by omega, by omega⟩) dX10_run_81 ?_
      refine lv_topi (fun z_35 ez_35 => ?_)
      have qz_35 := congrArg Int32.toInt ez_35
      have bz_35 := bd_at b_3 ez_35
      exact W.iret (v := z_35) hx hb hr (fun t ht hW => ⟨⟨z_35, (), rfl, trivial, by rw [ht]; exact hP, hD⟩, hS.F ht⟩) hS.2.2 dX10_run_82
    · refine lv_tableIn (tgt := 83) hx hb dX10_run_11 (by omega) (by omega) (by rw [sw_34]; rfl) (by decide) ?_
      refine lv_aload_n hx hb dX10_run_83 rfl (lv_at hl 0 rfl) ?_
      refine va_get (D := (dC, dI)) (ci := 10) (v := .ref (X 14)) (C := RX10) (T := TX10) (N := 60) hx hb hg gb_10 hown hK hP 0 rfl rfl 14 (by decide) (hg _ gm_fieldLink_RX10_48_ErrandGuildModel_errand_AI_) (fun _ h9 => h9) rfl dX10_run_84 ?_
      refine lv_iload_n hx hb dX10_run_87 rfl (lv_at hl 1 rfl) ?_
      refine va_iald (f := F 14) hx hb hK hP 12 11 rfl rfl (vp_in_iff.mpr ⟨by omega, by omega⟩) dX10_run_88 ?_
      refine lv_topi (fun z_36 ez_36 => ?_)
      have qz_36 := congrArg Int32.toInt ez_36
      have bz_36 := bd_at b_4 ez_36
      exact W.iret (v := z_36) hx hb hr (fun t ht hW => ⟨⟨z_36, (), rfl, trivial, by rw [ht]; exact hP, hD⟩, hS.F ht⟩) hS.2.2 dX10_run_89
    · refine lv_tableIn (tgt := 90) hx hb dX10_run_11 (by omega) (by omega) (by rw [sw_34]; rfl) (by decide) ?_
      refine lv_aload_n hx hb dX10_run_90 rfl (lv_at hl 0 rfl) ?_
      refine va_get (D := (dC, dI)) (ci := 10) (v := .ref (X 15)) (C := RX10) (T := TX10) (N := 60) hx hb hg gb_10 hown hK hP 0 rfl rfl 15 (by decide) (hg _ gm_fieldLink_RX10_51_ErrandGuildModel_giver_AI_) (fun _ h9 => h9) rfl dX10_run_91 ?_
      refine lv_iload_n hx hb dX10_run_94 rfl (lv_at hl 1 rfl) ?_
      refine va_iald (f := F 15) hx hb hK hP 13 12 rfl rfl (vp_in_iff.mpr ⟨by omega, by omega⟩) dX10_run_95 ?_
      refine lv_topi (fun z_37 ez_37 => ?_)
      have qz_37 := congrArg Int32.toInt ez_37
      have bz_37 := bd_at b_5 ez_37
      exact W.iret (v := z_37) hx hb hr (fun t ht hW => ⟨⟨z_37, (), rfl, trivial, by rw [ht]; exact hP, hD⟩, hS.F ht⟩) hS.2.2 dX10_run_96
    · refine lv_tableIn (tgt := 97) hx hb dX10_run_11 (by omega) (by omega) (by rw [sw_34]; rfl) (by decide) ?_
      refine lv_aload_n hx hb dX10_run_97 rfl (lv_at hl 0 rfl) ?_
      refine va_get (D := (dC, dI)) (ci := 10) (v := .ref (X 16)) (C := RX10) (T := TX10) (N := 60) hx hb hg gb_10 hown hK hP 0 rfl rfl 16 (by decide) (hg _ gm_fieldLink_RX10_54_ErrandGuildModel_root_AI_) (fun _ h9 => h9) rfl dX10_run_98 ?_
      refine lv_iload_n hx hb dX10_run_101 rfl (lv_at hl 1 rfl) ?_
      refine va_iald (f := F 16) hx hb hK hP 14 13 rfl rfl (vp_in_iff.mpr ⟨by omega, by omega⟩) dX10_run_102 ?_
      refine lv_topi (fun z_38 ez_38 => ?_)
      have qz_38 := congrArg Int32.toInt ez_38
      have bz_38 := bd_at b_6 ez_38
      exact W.iret (v := z_38) hx hb hr (fun t ht hW => ⟨⟨z_38, (), rfl, trivial, by rw [ht]; exact hP, hD⟩, hS.F ht⟩) hS.2.2 dX10_run_103
    · refine lv_tableIn (tgt := 104) hx hb dX10_run_11 (by omega) (by omega) (by rw [sw_34]; rfl) (by decide) ?_
      refine lv_aload_n hx hb dX10_run_104 rfl (lv_at hl 0 rfl) ?_
      refine va_get (D := (dC, dI)) (ci := 10) (v := .ref (X 17)) (C := RX10) (T := TX10) (N := 60) hx hb hg gb_10 hown hK hP 0 rfl rfl 17 (by decide) (hg _ gm_fieldLink_RX10_57_ErrandGuildModel_depth_AI_) (fun _ h9 => h9) rfl dX10_run_105 ?_
      refine lv_iload_n hx hb dX10_run_108 rfl (lv_at hl 1 rfl) ?_
      refine va_iald (f := F 17) hx hb hK hP 15 14 rfl rfl (vp_in_iff.mpr ⟨by omega, by omega⟩) dX10_run_109 ?_
      refine lv_topi (fun z_39 ez_39 => ?_)
      have qz_39 := congrArg Int32.toInt ez_39
      exact W.iret (v := z_39) hx hb hr (fun t ht hW => ⟨⟨z_39, (), rfl, trivial, by rw [ht]; exact hP, hD⟩, hS.F ht⟩) hS.2.2 dX10_run_110
    · refine lv_tableIn (tgt := 111) hx hb dX10_run_11 (by omega) (by omega) (by rw [sw_34]; rfl) (by decide) ?_
      refine lv_aload_n hx hb dX10_run_111 rfl (lv_at hl 0 rfl) ?_
      refine va_get (D := (dC, dI)) (ci := 10) (v := .ref (X 18)) (C := RX10) (T := TX10) (N := 60) hx hb hg gb_10 hown hK hP 0 rfl rfl 18 (by decide) (hg _ gm_fieldLink_RX10_60_ErrandGuildModel_thread_AI_) (fun _ h9 => h9) rfl dX10_run_112 ?_
      refine lv_iload_n hx hb dX10_run_115 rfl (lv_at hl 1 rfl) ?_
      refine va_iald (f := F 18) hx hb hK hP 16 15 rfl rfl (vp_in_iff.mpr ⟨by omega, by omega⟩) dX10_run_116 ?_
      refine lv_topi (fun z_40 ez_40 => ?_)
      have qz_40 := congrArg Int32.toInt ez_40
      have bz_40 := bd_at b_7 ez_40
      exact W.iret (v := z_40) hx hb hr (fun t ht hW => ⟨⟨z_40, (), rfl, trivial, by rw [ht]; exact hP, hD⟩, hS.F ht⟩) hS.2.2 dX10_run_117
    · refine lv_tableIn (tgt := 118) hx hb dX10_run_11 (by omega) (by omega) (by rw [sw_34]; rfl) (by decide) ?_
      refine lv_aload_n hx hb dX10_run_118 rfl (lv_at hl 0 rfl) ?_
      refine va_get (D := (dC, dI)) (ci := 10) (v := .ref (X 19)) (C := RX10) (T := TX10) (N := 60) hx hb hg gb_10 hown hK hP 0 rfl rfl 19 (by decide) (hg _ gm_fieldLink_RX10_63_ErrandGuildModel_sum_AI_) (fun _ h9 => h9) rfl dX10_run_119 ?_
      refine lv_iload_n hx hb dX10_run_122 rfl (lv_at hl 1 rfl) ?_
      refine va_iald (f := F 19) hx hb hK hP 17 16 rfl rfl (vp_in_iff.mpr ⟨by omega, by omega⟩) dX10_run_123 ?_
      refine lv_topi (fun z_41 ez_41 => ?_)
      have qz_41 := congrArg Int32.toInt ez_41
      exact W.iret (v := z_41) hx hb hr (fun t ht hW => ⟨⟨z_41, (), rfl, trivial, by rw [ht]; exact hP, hD⟩, hS.F ht⟩) hS.2.2 dX10_run_124
    · refine lv_tableIn (tgt := 125) hx hb dX10_run_11 (by omega) (by omega) (by rw [sw_34]; rfl) (by decide) ?_
      refine lv_aload_n hx hb dX10_run_125 rfl (lv_at hl 0 rfl) ?_
      refine va_get (D := (dC, dI)) (ci := 10) (v := .ref (X 20)) (C := RX10) (T := TX10) (N := 60) hx hb hg gb_10 hown hK hP 0 rfl rfl 20 (by decide) (hg _ gm_fieldLink_RX10_66_ErrandGuildModel_place_AI_) (fun _ h9 => h9) rfl dX10_run_126 ?_
      refine lv_iload_n hx hb dX10_run_129 rfl (lv_at hl 1 rfl) ?_
      refine va_iald (f := F 20) hx hb hK hP 18 17 rfl rfl (vp_in_iff.mpr ⟨by omega, by omega⟩) dX10_run_130 ?_
      refine lv_topi (fun z_42 ez_42 => ?_)
      have qz_42 := congrArg Int32.toInt ez_42
      have bz_42 := bd_at b_8 ez_42
      exact W.iret (v := z_42) hx hb hr (fun t ht hW => ⟨⟨z_42, (), rfl, trivial, by rw [ht]; exact hP, hD⟩, hS.F ht⟩) hS.2.2 dX10_run_131
    · refine lv_tableIn (tgt := 132) hx hb dX10_run_11 (by omega) (by omega) (by rw [sw_34]; rfl) (by decide) ?_
      refine lv_aload_n hx hb dX10_run_132 rfl (lv_at hl 0 rfl) ?_
      refine va_get (D := (dC, dI)) (ci := 10) (v := .ref (X 36)) (C := RX10) (T := TX10) (N := 60) hx hb hg gb_10 hown hK hP 0 rfl rfl 36 (by decide) (hg _ gm_fieldLink_RX10_114_ErrandGuildModel_bindMany_AI_) (fun _ h9 => h9) rfl dX10_run_133 ?_
      refine lv_iload_n hx hb dX10_run_136 rfl (lv_at hl 1 rfl) ?_
      refine va_iald (f := F 36) hx hb hK hP 34 33 rfl rfl (vp_in_iff.mpr ⟨by omega, by omega⟩) dX10_run_137 ?_
      refine lv_topi (fun z_43 ez_43 => ?_)
      have qz_43 := congrArg Int32.toInt ez_43
      have bz_43 := bd_at b_10 ez_43
      exact W.iret (v := z_43) hx hb hr (fun t ht hW => ⟨⟨z_43, (), rfl, trivial, by rw [ht]; exact hP, hD⟩, hS.F ht⟩) hS.2.2 dX10_run_138
    · refine lv_tableIn (tgt := 139) hx hb dX10_run_11 (by omega) (by omega) (by rw [sw_34]; rfl) (by decide) ?_
      refine lv_aload_n hx hb dX10_run_139 rfl (lv_at hl 0 rfl) ?_
      refine va_get (D := (dC, dI)) (ci := 10) (v := .ref (X 39)) (C := RX10) (T := TX10) (N := 60) hx hb hg gb_10 hown hK hP 0 rfl rfl 39 (by decide) (hg _ gm_fieldLink_RX10_123_ErrandGuildModel_tryMany_AI_) (fun _ h9 => h9) rfl dX10_run_140 ?_
      refine lv_iload_n hx hb dX10_run_143 rfl (lv_at hl 1 rfl) ?_
      refine va_iald (f := F 39) hx hb hK hP 37 36 rfl rfl (vp_in_iff.mpr ⟨by omega, by omega⟩) dX10_run_144 ?_
      refine lv_topi (fun z_44 ez_44 => ?_)
      have qz_44 := congrArg Int32.toInt ez_44
      have bz_44 := bd_at b_11 ez_44
      exact W.iret (v := z_44) hx hb hr (fun t ht hW => ⟨⟨z_44, (), rfl, trivial, by rw [ht]; exact hP, hD⟩, hS.F ht⟩) hS.2.2 dX10_run_145
    · refine lv_tableIn (tgt := 146) hx hb dX10_run_11 (by omega) (by omega) (by rw [sw_34]; rfl) (by decide) ?_
      refine lv_aload_n hx hb dX10_run_146 rfl (lv_at hl 0 rfl) ?_
      refine va_get (D := (dC, dI)) (ci := 10) (v := .ref (X 22)) (C := RX10) (T := TX10) (N := 60) hx hb hg gb_10 hown hK hP 0 rfl rfl 22 (by decide) (hg _ gm_fieldLink_RX10_72_ErrandGuildModel_endedAt_AI_) (fun _ h9 => h9) rfl dX10_run_147 ?_
      refine lv_iload_n hx hb dX10_run_150 rfl (lv_at hl 1 rfl) ?_
      refine va_iald (f := F 22) hx hb hK hP 20 19 rfl rfl (vp_in_iff.mpr ⟨by omega, by omega⟩) dX10_run_151 ?_
      refine lv_topi (fun z_45 ez_45 => ?_)
      have qz_45 := congrArg Int32.toInt ez_45
      exact W.iret (v := z_45) hx hb hr (fun t ht hW => ⟨⟨z_45, (), rfl, trivial, by rw [ht]; exact hP, hD⟩, hS.F ht⟩) hS.2.2 dX10_run_152
    · refine lv_tableIn (tgt := 153) hx hb dX10_run_11 (by omega) (by omega) (by rw [sw_34]; rfl) (by decide) ?_
      refine lv_aload_n hx hb dX10_run_153 rfl (lv_at hl 0 rfl) ?_
      refine lv_iload_n hx hb dX10_run_154 rfl (lv_at hl 1 rfl) ?_
      have hFc := free_all hD hS hA
      refine va_calli (va_runV (As := [.int v1]) (rest := []) ⟨hx, hb, hml, hown, hg⟩ (c_X10_children l dC dI kp h0 X C F n v1 H.size ⟨b_1, b_2, b_3, b_4, b_5, b_6, b_7, b_8, b_9, b_10, b_11, b_12, i_13, i_14, i_15, i_16, i_17, i_18, i_19, j_20, j_21, j_22, j_23, j_24, j_25, j_26, j_27, j_28, j_29⟩ (by omega)) (cwV 1 hg (gw_V gm_methodLink_RX10_279_yX10_children gm_instanceMethod_yX10_children gm_selects_RX10_yX10_children_yX10_children gm_initialized_RX10 gm_code_yX10_children_cX10_children_4_some_int_) rfl rfl rfl (by decide +kernel) ⟨Nat.le_of_ble_eq_true rfl, Nat.le_of_ble_eq_true rfl⟩) ⟨fun a U g mk q => by obtain ⟨q0, q1, qP, qK, qD, qN⟩ := q; exact ⟨q0, q1, qP, va_K.moved (u := U) (U := U.calling g mk a) (Vm.Alike.refl U.vm) qK, qD, nx_same (u := U) (U := U.calling g mk a) rfl qN⟩, va_recv hK hP (ci := 10) (q0 := 0) rfl rfl, fun U hU hW => ⟨rfl, by rw [hU], by rw [hU]; exact hP, va_K.moved hW.alike hK, hD.weaken (fun _ _ _ _ => trivial), nx_warm hW hN⟩⟩ rfl rfl hl.1 rfl (lv_room (Nat.le_of_ble_eq_true rfl)) dX10_run_155 ⟨Nat.le_of_ble_eq_true rfl, Nat.le_of_ble_eq_true rfl⟩) hS (fun q _ h => hFc q h) hFc (fun r_46 u_47 t H1 locs ht hvm hw hB hz1 hk1 hS => ?_)
      obtain ⟨hP, hD⟩ := hB
      rw [ht] at hP
      have hD := hD.weaken (fun k q _ h => hFc _ h)
      generalize H1 = H at hP hS ⊢
      have hP : va_P (dC, dI) vwCl (w10 h0 X C (F 0) (F 1) (F 2) (F 3) (F 4) (F 5) (F 6) (F 7) (F 8) (F 10) (F 13) (F 14) (F 15) (F 16) (F 17) (F 18) (F 19) (F 20) (F 21) (F 22) (F 23) (F 24) (F 25) (F 26) (F 27) (F 28) (F 29) (F 30) (F 31) (F 32) (F 33) (F 34) (F 35) (F 36) (F 37) (F 38) (F 39) (F 40) (F 41) (F 42) (F 43) (F 49) (F 50) (F 51) (F 52) (F 53) (F 54) (F 55) (F 56) (F 57) (F 58) (F 59) (n 9) (n 11) (n 12) (n 44) (n 45) (n 46) (n 47) (n 48)) H := hP
      have hD : va_D A (w10 h0 X C (F 0) (F 1) (F 2) (F 3) (F 4) (F 5) (F 6) (F 7) (F 8) (F 10) (F 13) (F 14) (F 15) (F 16) (F 17) (F 18) (F 19) (F 20) (F 21) (F 22) (F 23) (F 24) (F 25) (F 26) (F 27) (F 28) (F 29) (F 30) (F 31) (F 32) (F 33) (F 34) (F 35) (F 36) (F 37) (F 38) (F 39) (F 40) (F 41) (F 42) (F 43) (F 49) (F 50) (F 51) (F 52) (F 53) (F 54) (F 55) (F 56) (F 57) (F 58) (F 59) (n 9) (n 11) (n 12) (n 44) (n 45) (n 46) (n 47) (n 48)) := hD
      exact W.iret (v := r_46) hx hb hr (fun t ht hW => ⟨⟨r_46, (), rfl, trivial, by rw [ht]; exact hP, hD⟩, hS.F ht⟩) hS.2.2 dX10_run_158
    · refine lv_tableIn (tgt := 159) hx hb dX10_run_11 (by omega) (by omega) (by rw [sw_34]; rfl) (by decide) ?_
      refine lv_aload_n hx hb dX10_run_159 rfl (lv_at hl 0 rfl) ?_
      refine va_get (D := (dC, dI)) (ci := 10) (v := .ref (X 23)) (C := RX10) (T := TX10) (N := 60) hx hb hg gb_10 hown hK hP 0 rfl rfl 23 (by decide) (hg _ gm_fieldLink_RX10_75_ErrandGuildModel_came_AI_) (fun _ h9 => h9) rfl dX10_run_160 ?_
      refine lv_iload_n hx hb dX10_run_163 rfl (lv_at hl 1 rfl) ?_
      refine va_iald (f := F 23) hx hb hK hP 21 20 rfl rfl (vp_in_iff.mpr ⟨by omega, by omega⟩) dX10_run_164 ?_
      refine lv_topi (fun z_49 ez_49 => ?_)
      have qz_49 := congrArg Int32.toInt ez_49
      exact W.iret (v := z_49) hx hb hr (fun t ht hW => ⟨⟨z_49, (), rfl, trivial, by rw [ht]; exact hP, hD⟩, hS.F ht⟩) hS.2.2 dX10_run_165
  · have w_32 : ¬ (0 ≤ v1.toInt ∧ v1.toInt < ((n 11)).toInt) := w_32
    try simp only [upd_eq] at w_32
    refine lv_if_ne (tgt := 10) hx hb dX10_run_5 (by decide) (fun c_50 => absurd c_50 (by decide)) (fun _ => ?_)
    refine lv_iconst (v := -1) hx hb dX10_run_8 (by decide) ?_
    exact W.iret (v := -1) hx hb hr (fun t ht hW => ⟨⟨-1, (), rfl, trivial, by rw [ht]; exact hP, hD⟩, hS.F ht⟩) hS.2.2 dX10_run_9

set_option maxHeartbeats 8000000 in
set_option maxRecDepth 100000 in
theorem c_X10_failure (l : Launch) (dC : Nat → ClassId) (dI : Nat → Nat → Nat) (kp : Int) (h0 : Nat) (X : Nat → Nat) (C : Nat → ClassId) (F : Nat → Nat → Int32) (n : Nat → Int32) (v1 : Int32) (v2 : Int32) (sz : Nat) (hI : I10 kp F n) : Met l yX10_failure (.code yX10_failure cX10_failure 3 (some .int) :: gw) ({ frames := 1, cells := 0, slots := 0, locals := 21 }) (va_Pc [.ref h0, .int v1, .int v2] (fun U => U.heap.size = sz ∧ va_P (dC, dI) vwCl (w10 h0 X C (F 0) (F 1) (F 2) (F 3) (F 4) (F 5) (F 6) (F 7) (F 8) (F 10) (F 13) (F 14) (F 15) (F 16) (F 17) (F 18) (F 19) (F 20) (F 21) (F 22) (F 23) (F 24) (F 25) (F 26) (F 27) (F 28) (F 29) (F 30) (F 31) (F 32) (F 33) (F 34) (F 35) (F 36) (F 37) (F 38) (F 39) (F 40) (F 41) (F 42) (F 43) (F 49) (F 50) (F 51) (F 52) (F 53) (F 54) (F 55) (F 56) (F 57) (F 58) (F 59) (n 9) (n 11) (n 12) (n 44) (n 45) (n 46) (n 47) (n 48)) U.heap ∧ va_K (dC, dI) vwCl (t10 C) U ∧ va_D (fun _ => True) (w10 h0 X C (F 0) (F 1) (F 2) (F 3) (F 4) (F 5) (F 6) (F 7) (F 8) (F 10) (F 13) (F 14) (F 15) (F 16) (F 17) (F 18) (F 19) (F 20) (F 21) (F 22) (F 23) (F 24) (F 25) (F 26) (F 27) (F 28) (F 29) (F 30) (F 31) (F 32) (F 33) (F 34) (F 35) (F 36) (F 37) (F 38) (F 39) (F 40) (F 41) (F 42) (F 43) (F 49) (F 50) (F 51) (F 52) (F 53) (F 54) (F 55) (F 56) (F 57) (F 58) (F 59) (n 9) (n 11) (n 12) (n 44) (n 45) (n 46) (n 47) (n 48)) ∧ nx U)) (va_Qi (fun (r : Int32) (u : Unit) => True) (fun _ t => va_P (dC, dI) vwCl (w10 h0 X C (F 0) (F 1) (F 2) (F 3) (F 4) (F 5) (F 6) (F 7) (F 8) (F 10) (F 13) (F 14) (F 15) (F 16) (F 17) (F 18) (F 19) (F 20) (F 21) (F 22) (F 23) (F 24) (F 25) (F 26) (F 27) (F 28) (F 29) (F 30) (F 31) (F 32) (F 33) (F 34) (F 35) (F 36) (F 37) (F 38) (F 39) (F 40) (F 41) (F 42) (F 43) (F 49) (F 50) (F 51) (F 52) (F 53) (F 54) (F 55) (F 56) (F 57) (F 58) (F 59) (n 9) (n 11) (n 12) (n 44) (n 45) (n 46) (n 47) (n 48)) t.heap ∧ va_D (va_A (w10 h0 X C (F 0) (F 1) (F 2) (F 3) (F 4) (F 5) (F 6) (F 7) (F 8) (F 10) (F 13) (F 14) (F 15) (F 16) (F 17) (F 18) (F 19) (F 20) (F 21) (F 22) (F 23) (F 24) (F 25) (F 26) (F 27) (F 28) (F 29) (F 30) (F 31) (F 32) (F 33) (F 34) (F 35) (F 36) (F 37) (F 38) (F 39) (F 40) (F 41) (F 42) (F 43) (F 49) (F 50) (F 51) (F 52) (F 53) (F 54) (F 55) (F 56) (F 57) (F 58) (F 59) (n 9) (n 11) (n 12) (n 44) (n 45) (n 46) (n 47) (n 48)) sz) (w10 h0 X C (F 0) (F 1) (F 2) (F 3) (F 4) (F 5) (F 6) (F 7) (F 8) (F 10) (F 13) (F 14) (F 15) (F 16) (F 17) (F 18) (F 19) (F 20) (F 21) (F 22) (F 23) (F 24) (F 25) (F 26) (F 27) (F 28) (F 29) (F 30) (F 31) (F 32) (F 33) (F 34) (F 35) (F 36) (F 37) (F 38) (F 39) (F 40) (F 41) (F 42) (F 43) (F 49) (F 50) (F 51) (F 52) (F 53) (F 54) (F 55) (F 56) (F 57) (F 58) (F 59) (n 9) (n 11) (n 12) (n 44) (n 45) (n 46) (n 47) (n 48))) (va_A (w10 h0 X C (F 0) (F 1) (F 2) (F 3) (F 4) (F 5) (F 6) (F 7) (F 8) (F 10) (F 13) (F 14) (F 15) (F 16) (F 17) (F 18) (F 19) (F 20) (F 21) (F 22) (F 23) (F 24) (F 25) (F 26) (F 27) (F 28) (F 29) (F 30) (F 31) (F 32) (F 33) (F 34) (F 35) (F 36) (F 37) (F 38) (F 39) (F 40) (F 41) (F 42) (F 43) (F 49) (F 50) (F 51) (F 52) (F 53) (F 54) (F 55) (F 56) (F 57) (F 58) (F 59) (n 9) (n 11) (n 12) (n 44) (n 45) (n 46) (n 47) (n 48)) sz)) 0 0 (va_A (w10 h0 X C (F 0) (F 1) (F 2) (F 3) (F 4) (F 5) (F 6) (F 7) (F 8) (F 10) (F 13) (F 14) (F 15) (F 16) (F 17) (F 18) (F 19) (F 20) (F 21) (F 22) (F 23) (F 24) (F 25) (F 26) (F 27) (F 28) (F 29) (F 30) (F 31) (F 32) (F 33) (F 34) (F 35) (F 36) (F 37) (F 38) (F 39) (F 40) (F 41) (F 42) (F 43) (F 49) (F 50) (F 51) (F 52) (F 53) (F 54) (F 55) (F 56) (F 57) (F 58) (F 59) (n 9) (n 11) (n 12) (n 44) (n 45) (n 46) (n 47) (n 48)) sz) := by
  refine Met.ofW (cc := cX10_failure) (maxL := 3) (ret := (some .int)) (by decide) rfl ?_
  intro p e s m args below meth c s₁ B hml hv
  obtain ⟨rfl, hsz, hP, hK, hD0, hN⟩ := hv
  have hx := B.exec
  have hb := B.bytes
  have hr := B.returns
  have hts := atoms_spec (ws := .code yX10_failure cX10_failure 3 (some .int) :: gw) B.pre
  have hg : ∀ w ∈ gw, w.before _ s = true := fun w h => hts w (List.mem_cons_of_mem _ h)
  have hown : s.vm.findClass RX10 = some m.cls := findClass_of_methodNamed B.named
  have hlocks := B.notSynchronized
  subst hsz
  have hD := hD0.self (sz := s.heap.size)
  generalize hAe : va_A (w10 h0 X C (F 0) (F 1) (F 2) (F 3) (F 4) (F 5) (F 6) (F 7) (F 8) (F 10) (F 13) (F 14) (F 15) (F 16) (F 17) (F 18) (F 19) (F 20) (F 21) (F 22) (F 23) (F 24) (F 25) (F 26) (F 27) (F 28) (F 29) (F 30) (F 31) (F 32) (F 33) (F 34) (F 35) (F 36) (F 37) (F 38) (F 39) (F 40) (F 41) (F 42) (F 43) (F 49) (F 50) (F 51) (F 52) (F 53) (F 54) (F 55) (F 56) (F 57) (F 58) (F 59) (n 9) (n 11) (n 12) (n 44) (n 45) (n 46) (n 47) (n 48)) s.heap.size = A at hD ⊢
  have hA : ∀ q : Nat, s.heap.size ≤ q → A q := fun q h => by rw [← hAe]; exact Or.inr h
  have hS : va_S A s.heap s.heap [] := va_S.rf
  have hP : va_P (dC, dI) vwCl (w10 h0 X C (F 0) (F 1) (F 2) (F 3) (F 4) (F 5) (F 6) (F 7) (F 8) (F 10) (F 13) (F 14) (F 15) (F 16) (F 17) (F 18) (F 19) (F 20) (F 21) (F 22) (F 23) (F 24) (F 25) (F 26) (F 27) (F 28) (F 29) (F 30) (F 31) (F 32) (F 33) (F 34) (F 35) (F 36) (F 37) (F 38) (F 39) (F 40) (F 41) (F 42) (F 43) (F 49) (F 50) (F 51) (F 52) (F 53) (F 54) (F 55) (F 56) (F 57) (F 58) (F 59) (n 9) (n 11) (n 12) (n 44) (n 45) (n 46) (n 47) (n 48)) s.heap := hP
  have hl := lv_entry ([.ref h0, .int v1, .int v2]) (n := 3) (Nat.le_of_ble_eq_true rfl)
  rw [lg_entry_eq]
  generalize (lg_sl ([.ref h0, .int v1, .int v2]) ++ List.replicate (3 - (lg_sl ([.ref h0, .int v1, .int v2])).length) Slot.unset).toArray = ls at hl ⊢
  have hl : lv_has ls 3 [(0, .ref h0), (1, .int v1), (2, .int v2)] := hl
  obtain ⟨b_1, b_2, b_3, b_4, b_5, b_6, b_7, b_8, b_9, b_10, b_11, b_12, i_13, i_14, i_15, i_16, i_17, i_18, i_19, j_20, j_21, j_22, j_23, j_24, j_25, j_26, j_27, j_28, j_29⟩ := id hI
  refine lv_aload_n hx hb dX10_failure_0 rfl (lv_at hl 0 rfl) ?_
  refine lv_iload_n hx hb dX10_failure_1 rfl (lv_at hl 1 rfl) ?_
  have hFc := free_all hD hS hA
  refine va_calli (va_runV (As := [.int v1]) (rest := []) ⟨hx, hb, hml, hown, hg⟩ (c_X10_isRun l dC dI kp h0 X C F n v1 s.heap.size ⟨b_1, b_2, b_3, b_4, b_5, b_6, b_7, b_8, b_9, b_10, b_11, b_12, i_13, i_14, i_15, i_16, i_17, i_18, i_19, j_20, j_21, j_22, j_23, j_24, j_25, j_26, j_27, j_28, j_29⟩) (cwV 1 hg (gw_V gm_methodLink_RX10_276_yX10_isRun gm_instanceMethod_yX10_isRun gm_selects_RX10_yX10_isRun_yX10_isRun gm_initialized_RX10 gm_code_yX10_isRun_cX10_isRun_2_some_boolean_) rfl rfl rfl (by decide +kernel) ⟨Nat.le_of_ble_eq_true rfl, Nat.le_of_ble_eq_true rfl⟩) ⟨fun a U g mk q => by obtain ⟨q0, q1, qP, qK, qD, qN⟩ := q; exact ⟨q0, q1, qP, va_K.moved (u := U) (U := U.calling g mk a) (Vm.Alike.refl U.vm) qK, qD, nx_same (u := U) (U := U.calling g mk a) rfl qN⟩, va_recv hK hP (ci := 10) (q0 := 0) rfl rfl, fun U hU hW => ⟨rfl, by rw [hU], by rw [hU]; exact hP, va_K.moved hW.alike hK, hD.weaken (fun _ _ _ _ => trivial), nx_warm hW hN⟩⟩ rfl rfl hl.1 rfl (lv_room (Nat.le_of_ble_eq_true rfl)) dX10_failure_2 ⟨Nat.le_of_ble_eq_true rfl, Nat.le_of_ble_eq_true rfl⟩) hS (fun q _ h => hFc q h) hFc (fun r_30 u_31 t H1 locs ht hvm hw hB hz1 hk1 hS => ?_)
  obtain ⟨hP, hD⟩ := hB
  rw [ht] at hP
  have hD := hD.weaken (fun k q _ h => hFc _ h)
  generalize H1 = H at hP hS ⊢
  have hP : va_P (dC, dI) vwCl (w10 h0 X C (F 0) (F 1) (F 2) (F 3) (F 4) (F 5) (F 6) (F 7) (F 8) (F 10) (F 13) (F 14) (F 15) (F 16) (F 17) (F 18) (F 19) (F 20) (F 21) (F 22) (F 23) (F 24) (F 25) (F 26) (F 27) (F 28) (F 29) (F 30) (F 31) (F 32) (F 33) (F 34) (F 35) (F 36) (F 37) (F 38) (F 39) (F 40) (F 41) (F 42) (F 43) (F 49) (F 50) (F 51) (F 52) (F 53) (F 54) (F 55) (F 56) (F 57) (F 58) (F 59) (n 9) (n 11) (n 12) (n 44) (n 45) (n 46) (n 47) (n 48)) H := hP
  have hD : va_D A (w10 h0 X C (F 0) (F 1) (F 2) (F 3) (F 4) (F 5) (F 6) (F 7) (F 8) (F 10) (F 13) (F 14) (F 15) (F 16) (F 17) (F 18) (F 19) (F 20) (F 21) (F 22) (F 23) (F 24) (F 25) (F 26) (F 27) (F 28) (F 29) (F 30) (F 31) (F 32) (F 33) (F 34) (F 35) (F 36) (F 37) (F 38) (F 39) (F 40) (F 41) (F 42) (F 43) (F 49) (F 50) (F 51) (F 52) (F 53) (F 54) (F 55) (F 56) (F 57) (F 58) (F 59) (n 9) (n 11) (n 12) (n 44) (n 45) (n 46) (n 47) (n 48)) := hD
  rcases hw with ⟨rfl, w_32⟩ | ⟨rfl, w_32⟩
  · have w_32 : (0 ≤ v1.toInt ∧ v1.toInt < ((n 11)).toInt) := w_32
    try simp only [upd_eq] at w_32
    refine lv_if_eq (tgt := 18) hx hb dX10_failure_5 (by decide) (fun c_33 => absurd c_33 (by decide)) (fun _ => ?_)
    refine lv_aload_n hx hb dX10_failure_8 rfl (lv_at hl 0 rfl) ?_
    refine va_get (D := (dC, dI)) (ci := 10) (v := .ref (X 13)) (C := RX10) (T := TX10) (N := 60) hx hb hg gb_10 hown hK hP 0 rfl rfl 13 (by decide) (hg _ gm_fieldLink_RX10_45_ErrandGuildModel_state_AI_) (fun _ h9 => h9) rfl dX10_failure_9 ?_
    refine lv_iload_n hx hb dX10_failure_12 rfl (lv_at hl 1 rfl) ?_
    refine va_iald (f := F 13) hx hb hK hP 11 10 rfl rfl (vp_in_iff.mpr ⟨by omega, by omega⟩) dX10_failure_13 ?_
    refine lv_topi (fun z_34 ez_34 => ?_)
    have qz_34 := congrArg Int32.toInt ez_34
    have bz_34 := bd_at b_3 ez_34
    refine lv_iconst (v := 4) hx hb dX10_failure_14 (by decide) ?_
    refine lv_icmp_eq (tgt := 20) hx hb dX10_failure_15 (by decide) (fun c_35 => ?_) (fun c_35 => ?_)
    · simp only [i_lt, i_le, i_eq, ti_4] at c_35
      refine lv_iload_n hx hb dX10_failure_20 rfl (lv_at hl 2 rfl) ?_
      rcases (show (v2.toInt < 0 ∨ 4 < v2.toInt) ∨ v2.toInt = 0 ∨ v2.toInt = 1 ∨ v2.toInt = 2 ∨ v2.toInt = 3 ∨ v2.toInt = 4 by omega) with sw_36 | sw_36 | sw_36 | sw_36 | sw_36 | sw_36
      · refine lv_tableOut (tgt := 99) hx hb dX10_failure_21 sw_36 (by decide) ?_
        refine lv_iconst (v := -1) hx hb dX10_failure_99 (by decide) ?_
        exact W.iret (v := -1) hx hb hr (fun t ht hW => ⟨⟨-1, (), rfl, trivial, by rw [ht]; exact hP, hD⟩, hS.F ht⟩) hS.2.2 dX10_failure_100
      · refine lv_tableIn (tgt := 56) hx hb dX10_failure_21 (by omega) (by omega) (by rw [sw_36]; rfl) (by decide) ?_
        refine lv_aload_n hx hb dX10_failure_56 rfl (lv_at hl 0 rfl) ?_
        refine va_get (D := (dC, dI)) (ci := 10) (v := .ref (X 28)) (C := RX10) (T := TX10) (N := 60) hx hb hg gb_10 hown hK hP 0 rfl rfl 28 (by decide) (hg _ gm_fieldLink_RX10_90_ErrandGuildModel_failKind_AI_) (fun _ h9 => h9) rfl dX10_failure_57 ?_
        refine lv_iload_n hx hb dX10_failure_60 rfl (lv_at hl 1 rfl) ?_
        refine va_iald (f := F 28) hx hb hK hP 26 25 rfl rfl (vp_in_iff.mpr ⟨by omega, by omega⟩) dX10_failure_61 ?_
        refine lv_topi (fun z_37 ez_37 => ?_)
        have qz_37 := congrArg Int32.toInt ez_37
        have bz_37 := bd_at b_9 ez_37
        exact W.iret (v := z_37) hx hb hr (fun t ht hW => ⟨⟨z_37, (), rfl, trivial, by rw [ht]; exact hP, hD⟩, hS.F ht⟩) hS.2.2 dX10_failure_62
      · refine lv_tableIn (tgt := 63) hx hb dX10_failure_21 (by omega) (by omega) (by rw [sw_36]; rfl) (by decide) ?_
        refine lv_aload_n hx hb dX10_failure_63 rfl (lv_at hl 0 rfl) ?_
        refine va_get (D := (dC, dI)) (ci := 10) (v := .ref (X 29)) (C := RX10) (T := TX10) (N := 60) hx hb hg gb_10 hown hK hP 0 rfl rfl 29 (by decide) (hg _ gm_fieldLink_RX10_93_ErrandGuildModel_failStep_AI_) (fun _ h9 => h9) rfl dX10_failure_64 ?_
        refine lv_iload_n hx hb dX10_failure_67 rfl (lv_at hl 1 rfl) ?_
        refine va_iald (f := F 29) hx hb hK hP 27 26 rfl rfl (vp_in_iff.mpr ⟨by omega, by omega⟩) dX10_failure_68 ?_
        refine lv_topi (fun z_38 ez_38 => ?_)
        have qz_38 := congrArg Int32.toInt ez_38
        exact W.iret (v := z_38) hx hb hr (fun t ht hW => ⟨⟨z_38, (), rfl, trivial, by rw [ht]; exact hP, hD⟩, hS.F ht⟩) hS.2.2 dX10_failure_69
      · refine lv_tableIn (tgt := 70) hx hb dX10_failure_21 (by omega) (by omega) (by rw [sw_36]; rfl) (by decide) ?_
        refine lv_aload_n hx hb dX10_failure_70 rfl (lv_at hl 0 rfl) ?_
        refine va_get (D := (dC, dI)) (ci := 10) (v := .ref (X 30)) (C := RX10) (T := TX10) (N := 60) hx hb hg gb_10 hown hK hP 0 rfl rfl 30 (by decide) (hg _ gm_fieldLink_RX10_96_ErrandGuildModel_failCause_AI_) (fun _ h9 => h9) rfl dX10_failure_71 ?_
        refine lv_iload_n hx hb dX10_failure_74 rfl (lv_at hl 1 rfl) ?_
        refine va_iald (f := F 30) hx hb hK hP 28 27 rfl rfl (vp_in_iff.mpr ⟨by omega, by omega⟩) dX10_failure_75 ?_
        refine lv_topi (fun z_39 ez_39 => ?_)
        have qz_39 := congrArg Int32.toInt ez_39
        exact W.iret (v := z_39) hx hb hr (fun t ht hW => ⟨⟨z_39, (), rfl, trivial, by rw [ht]; exact hP, hD⟩, hS.F ht⟩) hS.2.2 dX10_failure_76
      · refine lv_tableIn (tgt := 77) hx hb dX10_failure_21 (by omega) (by omega) (by rw [sw_36]; rfl) (by decide) ?_
        refine lv_aload_n hx hb dX10_failure_77 rfl (lv_at hl 0 rfl) ?_
        refine va_get (D := (dC, dI)) (ci := 10) (v := .ref (X 31)) (C := RX10) (T := TX10) (N := 60) hx hb hg gb_10 hown hK hP 0 rfl rfl 31 (by decide) (hg _ gm_fieldLink_RX10_99_ErrandGuildModel_failOthers_AI_) (fun _ h9 => h9) rfl dX10_failure_78 ?_
        refine lv_iload_n hx hb dX10_failure_81 rfl (lv_at hl 1 rfl) ?_
        refine va_iald (f := F 31) hx hb hK hP 29 28 rfl rfl (vp_in_iff.mpr ⟨by omega, by omega⟩) dX10_failure_82 ?_
        refine lv_topi (fun z_40 ez_40 => ?_)
        have qz_40 := congrArg Int32.toInt ez_40
        exact W.iret (v := z_40) hx hb hr (fun t ht hW => ⟨⟨z_40, (), rfl, trivial, by rw [ht]; exact hP, hD⟩, hS.F ht⟩) hS.2.2 dX10_failure_83
      · refine lv_tableIn (tgt := 84) hx hb dX10_failure_21 (by omega) (by omega) (by rw [sw_36]; rfl) (by decide) ?_
        refine lv_aload_n hx hb dX10_failure_84 rfl (lv_at hl 0 rfl) ?_
        refine va_get (D := (dC, dI)) (ci := 10) (v := .ref (X 32)) (C := RX10) (T := TX10) (N := 60) hx hb hg gb_10 hown hK hP 0 rfl rfl 32 (by decide) (hg _ gm_fieldLink_RX10_102_ErrandGuildModel_isUncaught_AZ_) (fun _ h9 => h9) rfl dX10_failure_85 ?_
        refine lv_iload_n hx hb dX10_failure_88 rfl (lv_at hl 1 rfl) ?_
        refine va_zald (f := F 32) hx hb hK hP 30 29 rfl rfl (vp_in_iff.mpr ⟨by omega, by omega⟩) dX10_failure_89 ?_
        refine lv_topi (fun z_41 ez_41 => ?_)
        have qz_41 := congrArg Int32.toInt ez_41
        refine lv_if_eq (tgt := 97) hx hb dX10_failure_90 (by decide) (fun c_42 => ?_) (fun c_42 => ?_)
        · simp only [i_lt, i_le, i_eq, ti_0] at c_42
          refine lv_iconst (v := 0) hx hb dX10_failure_97 (by decide) ?_
          exact W.iret (v := 0) hx hb hr (fun t ht hW => ⟨⟨0, (), rfl, trivial, by rw [ht]; exact hP, hD⟩, hS.F ht⟩) hS.2.2 dX10_failure_98
        · simp only [i_lt, i_le, i_eq, ti_0] at c_42
          refine lv_iconst (v := 1) hx hb dX10_failure_93 (by decide) ?_
          refine lv_goto (tgt := 98) hx hb dX10_failure_94 (by decide) ?_
          exact W.iret (v := 1) hx hb hr (fun t ht hW => ⟨⟨1, (), rfl, trivial, by rw [ht]; exact hP, hD⟩, hS.F ht⟩) hS.2.2 dX10_failure_98
    · simp only [i_lt, i_le, i_eq, ti_4] at c_35
      refine lv_iconst (v := -1) hx hb dX10_failure_18 (by decide) ?_
      exact W.iret (v := -1) hx hb hr (fun t ht hW => ⟨⟨-1, (), rfl, trivial, by rw [ht]; exact hP, hD⟩, hS.F ht⟩) hS.2.2 dX10_failure_19
  · have w_32 : ¬ (0 ≤ v1.toInt ∧ v1.toInt < ((n 11)).toInt) := w_32
    try simp only [upd_eq] at w_32
    refine lv_if_eq (tgt := 18) hx hb dX10_failure_5 (by decide) (fun _ => ?_) (fun c_43 => absurd c_43 (by decide))
    refine lv_iconst (v := -1) hx hb dX10_failure_18 (by decide) ?_
    exact W.iret (v := -1) hx hb hr (fun t ht hW => ⟨⟨-1, (), rfl, trivial, by rw [ht]; exact hP, hD⟩, hS.F ht⟩) hS.2.2 dX10_failure_19

set_option maxHeartbeats 8000000 in
set_option maxRecDepth 100000 in
theorem c_X10_trace (l : Launch) (dC : Nat → ClassId) (dI : Nat → Nat → Nat) (kp : Int) (h0 : Nat) (X : Nat → Nat) (C : Nat → ClassId) (F : Nat → Nat → Int32) (n : Nat → Int32) (v1 : Int32) (v2 : Int32) (sz : Nat) (hI : I10 kp F n) : Met l yX10_trace (.code yX10_trace cX10_trace 6 (some .int) :: gw) ({ frames := 1, cells := 0, slots := 0, locals := 21 }) (va_Pc [.ref h0, .int v1, .int v2] (fun U => U.heap.size = sz ∧ va_P (dC, dI) vwCl (w10 h0 X C (F 0) (F 1) (F 2) (F 3) (F 4) (F 5) (F 6) (F 7) (F 8) (F 10) (F 13) (F 14) (F 15) (F 16) (F 17) (F 18) (F 19) (F 20) (F 21) (F 22) (F 23) (F 24) (F 25) (F 26) (F 27) (F 28) (F 29) (F 30) (F 31) (F 32) (F 33) (F 34) (F 35) (F 36) (F 37) (F 38) (F 39) (F 40) (F 41) (F 42) (F 43) (F 49) (F 50) (F 51) (F 52) (F 53) (F 54) (F 55) (F 56) (F 57) (F 58) (F 59) (n 9) (n 11) (n 12) (n 44) (n 45) (n 46) (n 47) (n 48)) U.heap ∧ va_K (dC, dI) vwCl (t10 C) U ∧ va_D (fun _ => True) (w10 h0 X C (F 0) (F 1) (F 2) (F 3) (F 4) (F 5) (F 6) (F 7) (F 8) (F 10) (F 13) (F 14) (F 15) (F 16) (F 17) (F 18) (F 19) (F 20) (F 21) (F 22) (F 23) (F 24) (F 25) (F 26) (F 27) (F 28) (F 29) (F 30) (F 31) (F 32) (F 33) (F 34) (F 35) (F 36) (F 37) (F 38) (F 39) (F 40) (F 41) (F 42) (F 43) (F 49) (F 50) (F 51) (F 52) (F 53) (F 54) (F 55) (F 56) (F 57) (F 58) (F 59) (n 9) (n 11) (n 12) (n 44) (n 45) (n 46) (n 47) (n 48)) ∧ nx U)) (va_Qi (fun (r : Int32) (u : Unit) => True) (fun _ t => va_P (dC, dI) vwCl (w10 h0 X C (F 0) (F 1) (F 2) (F 3) (F 4) (F 5) (F 6) (F 7) (F 8) (F 10) (F 13) (F 14) (F 15) (F 16) (F 17) (F 18) (F 19) (F 20) (F 21) (F 22) (F 23) (F 24) (F 25) (F 26) (F 27) (F 28) (F 29) (F 30) (F 31) (F 32) (F 33) (F 34) (F 35) (F 36) (F 37) (F 38) (F 39) (F 40) (F 41) (F 42) (F 43) (F 49) (F 50) (F 51) (F 52) (F 53) (F 54) (F 55) (F 56) (F 57) (F 58) (F 59) (n 9) (n 11) (n 12) (n 44) (n 45) (n 46) (n 47) (n 48)) t.heap ∧ va_D (va_A (w10 h0 X C (F 0) (F 1) (F 2) (F 3) (F 4) (F 5) (F 6) (F 7) (F 8) (F 10) (F 13) (F 14) (F 15) (F 16) (F 17) (F 18) (F 19) (F 20) (F 21) (F 22) (F 23) (F 24) (F 25) (F 26) (F 27) (F 28) (F 29) (F 30) (F 31) (F 32) (F 33) (F 34) (F 35) (F 36) (F 37) (F 38) (F 39) (F 40) (F 41) (F 42) (F 43) (F 49) (F 50) (F 51) (F 52) (F 53) (F 54) (F 55) (F 56) (F 57) (F 58) (F 59) (n 9) (n 11) (n 12) (n 44) (n 45) (n 46) (n 47) (n 48)) sz) (w10 h0 X C (F 0) (F 1) (F 2) (F 3) (F 4) (F 5) (F 6) (F 7) (F 8) (F 10) (F 13) (F 14) (F 15) (F 16) (F 17) (F 18) (F 19) (F 20) (F 21) (F 22) (F 23) (F 24) (F 25) (F 26) (F 27) (F 28) (F 29) (F 30) (F 31) (F 32) (F 33) (F 34) (F 35) (F 36) (F 37) (F 38) (F 39) (F 40) (F 41) (F 42) (F 43) (F 49) (F 50) (F 51) (F 52) (F 53) (F 54) (F 55) (F 56) (F 57) (F 58) (F 59) (n 9) (n 11) (n 12) (n 44) (n 45) (n 46) (n 47) (n 48))) (va_A (w10 h0 X C (F 0) (F 1) (F 2) (F 3) (F 4) (F 5) (F 6) (F 7) (F 8) (F 10) (F 13) (F 14) (F 15) (F 16) (F 17) (F 18) (F 19) (F 20) (F 21) (F 22) (F 23) (F 24) (F 25) (F 26) (F 27) (F 28) (F 29) (F 30) (F 31) (F 32) (F 33) (F 34) (F 35) (F 36) (F 37) (F 38) (F 39) (F 40) (F 41) (F 42) (F 43) (F 49) (F 50) (F 51) (F 52) (F 53) (F 54) (F 55) (F 56) (F 57) (F 58) (F 59) (n 9) (n 11) (n 12) (n 44) (n 45) (n 46) (n 47) (n 48)) sz)) 0 0 (va_A (w10 h0 X C (F 0) (F 1) (F 2) (F 3) (F 4) (F 5) (F 6) (F 7) (F 8) (F 10) (F 13) (F 14) (F 15) (F 16) (F 17) (F 18) (F 19) (F 20) (F 21) (F 22) (F 23) (F 24) (F 25) (F 26) (F 27) (F 28) (F 29) (F 30) (F 31) (F 32) (F 33) (F 34) (F 35) (F 36) (F 37) (F 38) (F 39) (F 40) (F 41) (F 42) (F 43) (F 49) (F 50) (F 51) (F 52) (F 53) (F 54) (F 55) (F 56) (F 57) (F 58) (F 59) (n 9) (n 11) (n 12) (n 44) (n 45) (n 46) (n 47) (n 48)) sz) := by
  refine Met.ofW (cc := cX10_trace) (maxL := 6) (ret := (some .int)) (by decide) rfl ?_
  intro p e s m args below meth c s₁ B hml hv
  obtain ⟨rfl, hsz, hP, hK, hD0, hN⟩ := hv
  have hx := B.exec
  have hb := B.bytes
  have hr := B.returns
  have hts := atoms_spec (ws := .code yX10_trace cX10_trace 6 (some .int) :: gw) B.pre
  have hg : ∀ w ∈ gw, w.before _ s = true := fun w h => hts w (List.mem_cons_of_mem _ h)
  have hown : s.vm.findClass RX10 = some m.cls := findClass_of_methodNamed B.named
  have hlocks := B.notSynchronized
  subst hsz
  have hD := hD0.self (sz := s.heap.size)
  generalize hAe : va_A (w10 h0 X C (F 0) (F 1) (F 2) (F 3) (F 4) (F 5) (F 6) (F 7) (F 8) (F 10) (F 13) (F 14) (F 15) (F 16) (F 17) (F 18) (F 19) (F 20) (F 21) (F 22) (F 23) (F 24) (F 25) (F 26) (F 27) (F 28) (F 29) (F 30) (F 31) (F 32) (F 33) (F 34) (F 35) (F 36) (F 37) (F 38) (F 39) (F 40) (F 41) (F 42) (F 43) (F 49) (F 50) (F 51) (F 52) (F 53) (F 54) (F 55) (F 56) (F 57) (F 58) (F 59) (n 9) (n 11) (n 12) (n 44) (n 45) (n 46) (n 47) (n 48)) s.heap.size = A at hD ⊢
  have hA : ∀ q : Nat, s.heap.size ≤ q → A q := fun q h => by rw [← hAe]; exact Or.inr h
  have hS : va_S A s.heap s.heap [] := va_S.rf
  have hP : va_P (dC, dI) vwCl (w10 h0 X C (F 0) (F 1) (F 2) (F 3) (F 4) (F 5) (F 6) (F 7) (F 8) (F 10) (F 13) (F 14) (F 15) (F 16) (F 17) (F 18) (F 19) (F 20) (F 21) (F 22) (F 23) (F 24) (F 25) (F 26) (F 27) (F 28) (F 29) (F 30) (F 31) (F 32) (F 33) (F 34) (F 35) (F 36) (F 37) (F 38) (F 39) (F 40) (F 41) (F 42) (F 43) (F 49) (F 50) (F 51) (F 52) (F 53) (F 54) (F 55) (F 56) (F 57) (F 58) (F 59) (n 9) (n 11) (n 12) (n 44) (n 45) (n 46) (n 47) (n 48)) s.heap := hP
  have hl := lv_entry ([.ref h0, .int v1, .int v2]) (n := 6) (Nat.le_of_ble_eq_true rfl)
  rw [lg_entry_eq]
  generalize (lg_sl ([.ref h0, .int v1, .int v2]) ++ List.replicate (6 - (lg_sl ([.ref h0, .int v1, .int v2])).length) Slot.unset).toArray = ls at hl ⊢
  have hl : lv_has ls 6 [(0, .ref h0), (1, .int v1), (2, .int v2)] := hl
  obtain ⟨b_1, b_2, b_3, b_4, b_5, b_6, b_7, b_8, b_9, b_10, b_11, b_12, i_13, i_14, i_15, i_16, i_17, i_18, i_19, j_20, j_21, j_22, j_23, j_24, j_25, j_26, j_27, j_28, j_29⟩ := id hI
  have ub2 := i_ub v2
  refine lv_aload_n hx hb dX10_trace_0 rfl (lv_at hl 0 rfl) ?_
  refine lv_iload_n hx hb dX10_trace_1 rfl (lv_at hl 1 rfl) ?_
  have hFc := free_all hD hS hA
  refine va_calli (va_runV (As := [.int v1]) (rest := []) ⟨hx, hb, hml, hown, hg⟩ (c_X10_isRun l dC dI kp h0 X C F n v1 s.heap.size ⟨b_1, b_2, b_3, b_4, b_5, b_6, b_7, b_8, b_9, b_10, b_11, b_12, i_13, i_14, i_15, i_16, i_17, i_18, i_19, j_20, j_21, j_22, j_23, j_24, j_25, j_26, j_27, j_28, j_29⟩) (cwV 1 hg (gw_V gm_methodLink_RX10_276_yX10_isRun gm_instanceMethod_yX10_isRun gm_selects_RX10_yX10_isRun_yX10_isRun gm_initialized_RX10 gm_code_yX10_isRun_cX10_isRun_2_some_boolean_) rfl rfl rfl (by decide +kernel) ⟨Nat.le_of_ble_eq_true rfl, Nat.le_of_ble_eq_true rfl⟩) ⟨fun a U g mk q => by obtain ⟨q0, q1, qP, qK, qD, qN⟩ := q; exact ⟨q0, q1, qP, va_K.moved (u := U) (U := U.calling g mk a) (Vm.Alike.refl U.vm) qK, qD, nx_same (u := U) (U := U.calling g mk a) rfl qN⟩, va_recv hK hP (ci := 10) (q0 := 0) rfl rfl, fun U hU hW => ⟨rfl, by rw [hU], by rw [hU]; exact hP, va_K.moved hW.alike hK, hD.weaken (fun _ _ _ _ => trivial), nx_warm hW hN⟩⟩ rfl rfl hl.1 rfl (lv_room (Nat.le_of_ble_eq_true rfl)) dX10_trace_2 ⟨Nat.le_of_ble_eq_true rfl, Nat.le_of_ble_eq_true rfl⟩) hS (fun q _ h => hFc q h) hFc (fun r_30 u_31 t H1 locs ht hvm hw hB hz1 hk1 hS => ?_)
  obtain ⟨hP, hD⟩ := hB
  rw [ht] at hP
  have hD := hD.weaken (fun k q _ h => hFc _ h)
  generalize H1 = H at hP hS ⊢
  have hP : va_P (dC, dI) vwCl (w10 h0 X C (F 0) (F 1) (F 2) (F 3) (F 4) (F 5) (F 6) (F 7) (F 8) (F 10) (F 13) (F 14) (F 15) (F 16) (F 17) (F 18) (F 19) (F 20) (F 21) (F 22) (F 23) (F 24) (F 25) (F 26) (F 27) (F 28) (F 29) (F 30) (F 31) (F 32) (F 33) (F 34) (F 35) (F 36) (F 37) (F 38) (F 39) (F 40) (F 41) (F 42) (F 43) (F 49) (F 50) (F 51) (F 52) (F 53) (F 54) (F 55) (F 56) (F 57) (F 58) (F 59) (n 9) (n 11) (n 12) (n 44) (n 45) (n 46) (n 47) (n 48)) H := hP
  have hD : va_D A (w10 h0 X C (F 0) (F 1) (F 2) (F 3) (F 4) (F 5) (F 6) (F 7) (F 8) (F 10) (F 13) (F 14) (F 15) (F 16) (F 17) (F 18) (F 19) (F 20) (F 21) (F 22) (F 23) (F 24) (F 25) (F 26) (F 27) (F 28) (F 29) (F 30) (F 31) (F 32) (F 33) (F 34) (F 35) (F 36) (F 37) (F 38) (F 39) (F 40) (F 41) (F 42) (F 43) (F 49) (F 50) (F 51) (F 52) (F 53) (F 54) (F 55) (F 56) (F 57) (F 58) (F 59) (n 9) (n 11) (n 12) (n 44) (n 45) (n 46) (n 47) (n 48)) := hD
  rcases hw with ⟨rfl, w_32⟩ | ⟨rfl, w_32⟩
  · have w_32 : (0 ≤ v1.toInt ∧ v1.toInt < ((n 11)).toInt) := w_32
    try simp only [upd_eq] at w_32
    refine lv_if_eq (tgt := 22) hx hb dX10_trace_5 (by decide) (fun c_33 => absurd c_33 (by decide)) (fun _ => ?_)
    refine lv_aload_n hx hb dX10_trace_8 rfl (lv_at hl 0 rfl) ?_
    refine va_get (D := (dC, dI)) (ci := 10) (v := .ref (X 13)) (C := RX10) (T := TX10) (N := 60) hx hb hg gb_10 hown hK hP 0 rfl rfl 13 (by decide) (hg _ gm_fieldLink_RX10_45_ErrandGuildModel_state_AI_) (fun _ h9 => h9) rfl dX10_trace_9 ?_
    refine lv_iload_n hx hb dX10_trace_12 rfl (lv_at hl 1 rfl) ?_
    refine va_iald (f := F 13) hx hb hK hP 11 10 rfl rfl (vp_in_iff.mpr ⟨by omega, by omega⟩) dX10_trace_13 ?_
    refine lv_topi (fun z_34 ez_34 => ?_)
    have qz_34 := congrArg Int32.toInt ez_34
    have bz_34 := bd_at b_3 ez_34
    refine lv_iconst (v := 4) hx hb dX10_trace_14 (by decide) ?_
    refine lv_icmp_ne (tgt := 22) hx hb dX10_trace_15 (by decide) (fun c_35 => ?_) (fun c_35 => ?_)
    · simp only [i_lt, i_le, i_eq, ti_4] at c_35
      refine lv_iconst (v := -1) hx hb dX10_trace_22 (by decide) ?_
      exact W.iret (v := -1) hx hb hr (fun t ht hW => ⟨⟨-1, (), rfl, trivial, by rw [ht]; exact hP, hD⟩, hS.F ht⟩) hS.2.2 dX10_trace_23
    · simp only [i_lt, i_le, i_eq, ti_4] at c_35
      refine lv_iload_n hx hb dX10_trace_18 rfl (lv_at hl 2 rfl) ?_
      refine lv_if_ge (tgt := 24) hx hb dX10_trace_19 (by decide) (fun c_36 => ?_) (fun c_36 => ?_)
      · simp only [i_lt, i_le, i_eq, ti_0] at c_36
        refine lv_iload_n hx hb dX10_trace_24 rfl (lv_at hl 1 rfl) ?_
        refine lv_istore_n (lv' := [(3, .int v1), (0, .ref h0), (1, .int v1), (2, .int v2)]) hx hb dX10_trace_25 rfl hl (by decide) rfl (fun ls hl => ?_)
        refine lv_aload_n hx hb dX10_trace_26 rfl (lv_at hl 1 rfl) ?_
        refine va_get (D := (dC, dI)) (ci := 10) (v := .ref (X 29)) (C := RX10) (T := TX10) (N := 60) hx hb hg gb_10 hown hK hP 0 rfl rfl 29 (by decide) (hg _ gm_fieldLink_RX10_93_ErrandGuildModel_failStep_AI_) (fun _ h9 => h9) rfl dX10_trace_27 ?_
        refine lv_iload_n hx hb dX10_trace_30 rfl (lv_at hl 2 rfl) ?_
        refine va_iald (f := F 29) hx hb hK hP 27 26 rfl rfl (vp_in_iff.mpr ⟨by omega, by omega⟩) dX10_trace_31 ?_
        refine lv_topi (fun z_37 ez_37 => ?_)
        have qz_37 := congrArg Int32.toInt ez_37
        refine lv_istore (lv' := [(4, .int z_37), (3, .int v1), (0, .ref h0), (1, .int v1), (2, .int v2)]) hx hb dX10_trace_32 hl (by decide) rfl (fun ls hl => ?_)
        refine lv_iconst (v := 0) hx hb dX10_trace_34 (by decide) ?_
        refine lv_istore (lv' := [(5, .int 0), (4, .int z_37), (3, .int v1), (0, .ref h0), (1, .int v1), (2, .int v2)]) hx hb dX10_trace_35 hl (by decide) rfl (fun ls hl => ?_)
        have L37 : ∀ (fuel : Nat) (x_38 : Int32) (x_39 : Int32) (x_40 : Int32) (H : Heap) (locs : List Loc) (ls : Array Slot), (v2.toInt - x_40.toInt).toNat < fuel → (0 ≤ x_38.toInt ∧ x_38.toInt < 200) → (0 ≤ x_40.toInt) → va_P (dC, dI) vwCl (w10 h0 X C (F 0) (F 1) (F 2) (F 3) (F 4) (F 5) (F 6) (F 7) (F 8) (F 10) (F 13) (F 14) (F 15) (F 16) (F 17) (F 18) (F 19) (F 20) (F 21) (F 22) (F 23) (F 24) (F 25) (F 26) (F 27) (F 28) (F 29) (F 30) (F 31) (F 32) (F 33) (F 34) (F 35) (F 36) (F 37) (F 38) (F 39) (F 40) (F 41) (F 42) (F 43) (F 49) (F 50) (F 51) (F 52) (F 53) (F 54) (F 55) (F 56) (F 57) (F 58) (F 59) (n 9) (n 11) (n 12) (n 44) (n 45) (n 46) (n 47) (n 48)) H → va_D A (w10 h0 X C (F 0) (F 1) (F 2) (F 3) (F 4) (F 5) (F 6) (F 7) (F 8) (F 10) (F 13) (F 14) (F 15) (F 16) (F 17) (F 18) (F 19) (F 20) (F 21) (F 22) (F 23) (F 24) (F 25) (F 26) (F 27) (F 28) (F 29) (F 30) (F 31) (F 32) (F 33) (F 34) (F 35) (F 36) (F 37) (F 38) (F 39) (F 40) (F 41) (F 42) (F 43) (F 49) (F 50) (F 51) (F 52) (F 53) (F 54) (F 55) (F 56) (F 57) (F 58) (F 59) (n 9) (n 11) (n 12) (n 44) (n 45) (n 46) (n 47) (n 48)) → va_S A s.heap H locs → lv_has ls 6 [(5, .int x_40), (4, .int x_39), (3, .int x_38), (0, .ref h0), (1, .int v1), (2, .int v2)] → W p l e (headSpec (.code yX10_trace cX10_trace 6 (some .int) :: gw) ({ frames := 1, cells := 0, slots := 0, locals := 21 })).room s m ([.ref h0, .int v1, .int v2] : List Value).toArray below meth c H locs 0 0 (MQ below (va_Qi (fun (r : Int32) (u : Unit) => True) (fun _ t => va_P (dC, dI) vwCl (w10 h0 X C (F 0) (F 1) (F 2) (F 3) (F 4) (F 5) (F 6) (F 7) (F 8) (F 10) (F 13) (F 14) (F 15) (F 16) (F 17) (F 18) (F 19) (F 20) (F 21) (F 22) (F 23) (F 24) (F 25) (F 26) (F 27) (F 28) (F 29) (F 30) (F 31) (F 32) (F 33) (F 34) (F 35) (F 36) (F 37) (F 38) (F 39) (F 40) (F 41) (F 42) (F 43) (F 49) (F 50) (F 51) (F 52) (F 53) (F 54) (F 55) (F 56) (F 57) (F 58) (F 59) (n 9) (n 11) (n 12) (n 44) (n 45) (n 46) (n 47) (n 48)) t.heap ∧ va_D A (w10 h0 X C (F 0) (F 1) (F 2) (F 3) (F 4) (F 5) (F 6) (F 7) (F 8) (F 10) (F 13) (F 14) (F 15) (F 16) (F 17) (F 18) (F 19) (F 20) (F 21) (F 22) (F 23) (F 24) (F 25) (F 26) (F 27) (F 28) (F 29) (F 30) (F 31) (F 32) (F 33) (F 34) (F 35) (F 36) (F 37) (F 38) (F 39) (F 40) (F 41) (F 42) (F 43) (F 49) (F 50) (F 51) (F 52) (F 53) (F 54) (F 55) (F 56) (F 57) (F 58) (F 59) (n 9) (n 11) (n 12) (n 44) (n 45) (n 46) (n 47) (n 48))) A) ([.ref h0, .int v1, .int v2] : List Value).toArray s 0 0 A) (F0 m 37 ls []) := by
          intro fuel
          induction fuel with
          | zero => intro x_38 x_39 x_40 H locs ls hm; exact absurd hm (Nat.not_lt_zero _)
          | succ fuel_42 ih_41 =>
            intro x_38 x_39 x_40 H locs ls hm_45 v_43 v_44 hP hD hS hl
            refine lv_iload hx hb dX10_trace_37 (lv_at hl 0 rfl) ?_
            refine lv_iload_n hx hb dX10_trace_39 rfl (lv_at hl 5 rfl) ?_
            refine lv_icmp_ge (tgt := 71) hx hb dX10_trace_40 (by decide) (fun c_46 => ?_) (fun c_46 => ?_)
            · simp only [i_lt, i_le, i_eq] at c_46
              refine lv_bipush (v := 32) hx hb dX10_trace_71 (by decide) ?_
              refine lv_aload_n hx hb dX10_trace_73 rfl (lv_at hl 3 rfl) ?_
              refine va_get (D := (dC, dI)) (ci := 10) (v := .ref (X 14)) (C := RX10) (T := TX10) (N := 60) hx hb hg gb_10 hown hK hP 0 rfl rfl 14 (by decide) (hg _ gm_fieldLink_RX10_48_ErrandGuildModel_errand_AI_) (fun _ h9 => h9) rfl dX10_trace_74 ?_
              refine lv_iload_n hx hb dX10_trace_77 rfl (lv_at hl 2 rfl) ?_
              refine va_iald (f := F 14) hx hb hK hP 12 11 rfl rfl (vp_in_iff.mpr ⟨by omega, by omega⟩) dX10_trace_78 ?_
              refine lv_topi (fun z_47 ez_47 => ?_)
              have qz_47 := congrArg Int32.toInt ez_47
              have bz_47 := bd_at b_4 ez_47
              refine lv_imul hx hb dX10_trace_79 ?_
              refine lv_topi (fun z_48 ez_48 => ?_)
              have tz_48 : z_48.toInt = 32 * z_47.toInt := ar_mul ti_32 rfl ez_48 (by omega)
              refine lv_iload hx hb dX10_trace_80 (lv_at hl 1 rfl) ?_
              refine lv_iadd hx hb dX10_trace_82 ?_
              refine lv_topi (fun z_49 ez_49 => ?_)
              exact W.iret (v := z_49) hx hb hr (fun t ht hW => ⟨⟨z_49, (), rfl, trivial, by rw [ht]; exact hP, hD⟩, hS.F ht⟩) hS.2.2 dX10_trace_83
            · simp only [i_lt, i_le, i_eq] at c_46
              refine lv_aload_n hx hb dX10_trace_43 rfl (lv_at hl 3 rfl) ?_
              refine va_get (D := (dC, dI)) (ci := 10) (v := .ref (X 21)) (C := RX10) (T := TX10) (N := 60) hx hb hg gb_10 hown hK hP 0 rfl rfl 21 (by decide) (hg _ gm_fieldLink_RX10_69_ErrandGuildModel_gaveAt_AI_) (fun _ h9 => h9) rfl dX10_trace_44 ?_
              refine lv_iload_n hx hb dX10_trace_47 rfl (lv_at hl 2 rfl) ?_
              refine va_iald (f := F 21) hx hb hK hP 19 18 rfl rfl (vp_in_iff.mpr ⟨by omega, by omega⟩) dX10_trace_48 ?_
              refine lv_topi (fun z_50 ez_50 => ?_)
              have qz_50 := congrArg Int32.toInt ez_50
              refine lv_istore (lv' := [(4, .int z_50), (5, .int x_40), (3, .int x_38), (0, .ref h0), (1, .int v1), (2, .int v2)]) hx hb dX10_trace_49 hl (by decide) rfl (fun ls hl => ?_)
              refine lv_aload_n hx hb dX10_trace_51 rfl (lv_at hl 3 rfl) ?_
              refine va_get (D := (dC, dI)) (ci := 10) (v := .ref (X 15)) (C := RX10) (T := TX10) (N := 60) hx hb hg gb_10 hown hK hP 0 rfl rfl 15 (by decide) (hg _ gm_fieldLink_RX10_51_ErrandGuildModel_giver_AI_) (fun _ h9 => h9) rfl dX10_trace_52 ?_
              refine lv_iload_n hx hb dX10_trace_55 rfl (lv_at hl 2 rfl) ?_
              refine va_iald (f := F 15) hx hb hK hP 13 12 rfl rfl (vp_in_iff.mpr ⟨by omega, by omega⟩) dX10_trace_56 ?_
              refine lv_topi (fun z_51 ez_51 => ?_)
              have qz_51 := congrArg Int32.toInt ez_51
              have bz_51 := bd_at b_5 ez_51
              refine lv_istore_n (lv' := [(3, .int z_51), (4, .int z_50), (5, .int x_40), (0, .ref h0), (1, .int v1), (2, .int v2)]) hx hb dX10_trace_57 rfl hl (by decide) rfl (fun ls hl => ?_)
              refine lv_iload_n hx hb dX10_trace_58 rfl (lv_at hl 0 rfl) ?_
              refine lv_iconst (v := -1) hx hb dX10_trace_59 (by decide) ?_
              refine lv_icmp_ne (tgt := 65) hx hb dX10_trace_60 (by decide) (fun c_52 => ?_) (fun c_52 => ?_)
              · simp only [i_lt, i_le, i_eq, ti_m1] at c_52
                obtain ⟨y_53, ey_53⟩ : ∃ q : Int32, q = x_40 + (1) := ⟨_, rfl⟩
                refine lv_iinc (v := y_53) (lv' := [(5, .int y_53), (3, .int z_51), (4, .int z_50), (0, .ref h0), (1, .int v1), (2, .int v2)]) hx hb dX10_trace_65 hl (k := 2) rfl (by rw [ey_53]; rfl) (by decide) rfl (fun ls hl => ?_)
                have ty_53 : y_53.toInt = x_40.toInt + (1) := ar_add rfl ti_1 ey_53 (by omega)
                refine lv_goto (tgt := 37) hx hb dX10_trace_68 (by decide) ?_
                exact ih_41 z_51 z_50 y_53 H locs ls (by omega) (by omega) (by omega) hP hD hS (lv_sub hl [0, 2, 1, 3, 4, 5] rfl)
              · simp only [i_lt, i_le, i_eq, ti_m1] at c_52
                refine lv_iconst (v := -1) hx hb dX10_trace_63 (by decide) ?_
                exact W.iret (v := -1) hx hb hr (fun t ht hW => ⟨⟨-1, (), rfl, trivial, by rw [ht]; exact hP, hD⟩, hS.F ht⟩) hS.2.2 dX10_trace_64
        exact L37 _ v1 z_37 (0) _ _ _ (Nat.lt_succ_self _) (by have t_2 := ti_0; omega) (by have t_2 := ti_0; omega) hP hD hS (lv_sub hl [0, 1, 2, 3, 4, 5] rfl)
      · simp only [i_lt, i_le, i_eq, ti_0] at c_36
        refine lv_iconst (v := -1) hx hb dX10_trace_22 (by decide) ?_
        exact W.iret (v := -1) hx hb hr (fun t ht hW => ⟨⟨-1, (), rfl, trivial, by rw [ht]; exact hP, hD⟩, hS.F ht⟩) hS.2.2 dX10_trace_23
  · have w_32 : ¬ (0 ≤ v1.toInt ∧ v1.toInt < ((n 11)).toInt) := w_32
    try simp only [upd_eq] at w_32
    refine lv_if_eq (tgt := 22) hx hb dX10_trace_5 (by decide) (fun _ => ?_) (fun c_54 => absurd c_54 (by decide))
    refine lv_iconst (v := -1) hx hb dX10_trace_22 (by decide) ?_
    exact W.iret (v := -1) hx hb hr (fun t ht hW => ⟨⟨-1, (), rfl, trivial, by rw [ht]; exact hP, hD⟩, hS.F ht⟩) hS.2.2 dX10_trace_23

set_option maxHeartbeats 8000000 in
set_option maxRecDepth 100000 in
theorem c_X10_child (l : Launch) (dC : Nat → ClassId) (dI : Nat → Nat → Nat) (kp : Int) (h0 : Nat) (X : Nat → Nat) (C : Nat → ClassId) (F : Nat → Nat → Int32) (n : Nat → Int32) (v1 : Int32) (v2 : Int32) (sz : Nat) (hI : I10 kp F n) : Met l yX10_child (.code yX10_child cX10_child 5 (some .int) :: gw) ({ frames := 1, cells := 0, slots := 0, locals := 21 }) (va_Pc [.ref h0, .int v1, .int v2] (fun U => U.heap.size = sz ∧ va_P (dC, dI) vwCl (w10 h0 X C (F 0) (F 1) (F 2) (F 3) (F 4) (F 5) (F 6) (F 7) (F 8) (F 10) (F 13) (F 14) (F 15) (F 16) (F 17) (F 18) (F 19) (F 20) (F 21) (F 22) (F 23) (F 24) (F 25) (F 26) (F 27) (F 28) (F 29) (F 30) (F 31) (F 32) (F 33) (F 34) (F 35) (F 36) (F 37) (F 38) (F 39) (F 40) (F 41) (F 42) (F 43) (F 49) (F 50) (F 51) (F 52) (F 53) (F 54) (F 55) (F 56) (F 57) (F 58) (F 59) (n 9) (n 11) (n 12) (n 44) (n 45) (n 46) (n 47) (n 48)) U.heap ∧ va_K (dC, dI) vwCl (t10 C) U ∧ va_D (fun _ => True) (w10 h0 X C (F 0) (F 1) (F 2) (F 3) (F 4) (F 5) (F 6) (F 7) (F 8) (F 10) (F 13) (F 14) (F 15) (F 16) (F 17) (F 18) (F 19) (F 20) (F 21) (F 22) (F 23) (F 24) (F 25) (F 26) (F 27) (F 28) (F 29) (F 30) (F 31) (F 32) (F 33) (F 34) (F 35) (F 36) (F 37) (F 38) (F 39) (F 40) (F 41) (F 42) (F 43) (F 49) (F 50) (F 51) (F 52) (F 53) (F 54) (F 55) (F 56) (F 57) (F 58) (F 59) (n 9) (n 11) (n 12) (n 44) (n 45) (n 46) (n 47) (n 48)) ∧ nx U)) (va_Qi (fun (r : Int32) (u : Unit) => True) (fun _ t => va_P (dC, dI) vwCl (w10 h0 X C (F 0) (F 1) (F 2) (F 3) (F 4) (F 5) (F 6) (F 7) (F 8) (F 10) (F 13) (F 14) (F 15) (F 16) (F 17) (F 18) (F 19) (F 20) (F 21) (F 22) (F 23) (F 24) (F 25) (F 26) (F 27) (F 28) (F 29) (F 30) (F 31) (F 32) (F 33) (F 34) (F 35) (F 36) (F 37) (F 38) (F 39) (F 40) (F 41) (F 42) (F 43) (F 49) (F 50) (F 51) (F 52) (F 53) (F 54) (F 55) (F 56) (F 57) (F 58) (F 59) (n 9) (n 11) (n 12) (n 44) (n 45) (n 46) (n 47) (n 48)) t.heap ∧ va_D (va_A (w10 h0 X C (F 0) (F 1) (F 2) (F 3) (F 4) (F 5) (F 6) (F 7) (F 8) (F 10) (F 13) (F 14) (F 15) (F 16) (F 17) (F 18) (F 19) (F 20) (F 21) (F 22) (F 23) (F 24) (F 25) (F 26) (F 27) (F 28) (F 29) (F 30) (F 31) (F 32) (F 33) (F 34) (F 35) (F 36) (F 37) (F 38) (F 39) (F 40) (F 41) (F 42) (F 43) (F 49) (F 50) (F 51) (F 52) (F 53) (F 54) (F 55) (F 56) (F 57) (F 58) (F 59) (n 9) (n 11) (n 12) (n 44) (n 45) (n 46) (n 47) (n 48)) sz) (w10 h0 X C (F 0) (F 1) (F 2) (F 3) (F 4) (F 5) (F 6) (F 7) (F 8) (F 10) (F 13) (F 14) (F 15) (F 16) (F 17) (F 18) (F 19) (F 20) (F 21) (F 22) (F 23) (F 24) (F 25) (F 26) (F 27) (F 28) (F 29) (F 30) (F 31) (F 32) (F 33) (F 34) (F 35) (F 36) (F 37) (F 38) (F 39) (F 40) (F 41) (F 42) (F 43) (F 49) (F 50) (F 51) (F 52) (F 53) (F 54) (F 55) (F 56) (F 57) (F 58) (F 59) (n 9) (n 11) (n 12) (n 44) (n 45) (n 46) (n 47) (n 48))) (va_A (w10 h0 X C (F 0) (F 1) (F 2) (F 3) (F 4) (F 5) (F 6) (F 7) (F 8) (F 10) (F 13) (F 14) (F 15) (F 16) (F 17) (F 18) (F 19) (F 20) (F 21) (F 22) (F 23) (F 24) (F 25) (F 26) (F 27) (F 28) (F 29) (F 30) (F 31) (F 32) (F 33) (F 34) (F 35) (F 36) (F 37) (F 38) (F 39) (F 40) (F 41) (F 42) (F 43) (F 49) (F 50) (F 51) (F 52) (F 53) (F 54) (F 55) (F 56) (F 57) (F 58) (F 59) (n 9) (n 11) (n 12) (n 44) (n 45) (n 46) (n 47) (n 48)) sz)) 0 0 (va_A (w10 h0 X C (F 0) (F 1) (F 2) (F 3) (F 4) (F 5) (F 6) (F 7) (F 8) (F 10) (F 13) (F 14) (F 15) (F 16) (F 17) (F 18) (F 19) (F 20) (F 21) (F 22) (F 23) (F 24) (F 25) (F 26) (F 27) (F 28) (F 29) (F 30) (F 31) (F 32) (F 33) (F 34) (F 35) (F 36) (F 37) (F 38) (F 39) (F 40) (F 41) (F 42) (F 43) (F 49) (F 50) (F 51) (F 52) (F 53) (F 54) (F 55) (F 56) (F 57) (F 58) (F 59) (n 9) (n 11) (n 12) (n 44) (n 45) (n 46) (n 47) (n 48)) sz) := by
  refine Met.ofW (cc := cX10_child) (maxL := 5) (ret := (some .int)) (by decide) rfl ?_
  intro p e s m args below meth c s₁ B hml hv
  obtain ⟨rfl, hsz, hP, hK, hD0, hN⟩ := hv
  have hx := B.exec
  have hb := B.bytes
  have hr := B.returns
  have hts := atoms_spec (ws := .code yX10_child cX10_child 5 (some .int) :: gw) B.pre
  have hg : ∀ w ∈ gw, w.before _ s = true := fun w h => hts w (List.mem_cons_of_mem _ h)
  have hown : s.vm.findClass RX10 = some m.cls := findClass_of_methodNamed B.named
  have hlocks := B.notSynchronized
  subst hsz
  have hD := hD0.self (sz := s.heap.size)
  generalize hAe : va_A (w10 h0 X C (F 0) (F 1) (F 2) (F 3) (F 4) (F 5) (F 6) (F 7) (F 8) (F 10) (F 13) (F 14) (F 15) (F 16) (F 17) (F 18) (F 19) (F 20) (F 21) (F 22) (F 23) (F 24) (F 25) (F 26) (F 27) (F 28) (F 29) (F 30) (F 31) (F 32) (F 33) (F 34) (F 35) (F 36) (F 37) (F 38) (F 39) (F 40) (F 41) (F 42) (F 43) (F 49) (F 50) (F 51) (F 52) (F 53) (F 54) (F 55) (F 56) (F 57) (F 58) (F 59) (n 9) (n 11) (n 12) (n 44) (n 45) (n 46) (n 47) (n 48)) s.heap.size = A at hD ⊢
  have hA : ∀ q : Nat, s.heap.size ≤ q → A q := fun q h => by rw [← hAe]; exact Or.inr h
  have hS : va_S A s.heap s.heap [] := va_S.rf
  have hP : va_P (dC, dI) vwCl (w10 h0 X C (F 0) (F 1) (F 2) (F 3) (F 4) (F 5) (F 6) (F 7) (F 8) (F 10) (F 13) (F 14) (F 15) (F 16) (F 17) (F 18) (F 19) (F 20) (F 21) (F 22) (F 23) (F 24) (F 25) (F 26) (F 27) (F 28) (F 29) (F 30) (F 31) (F 32) (F 33) (F 34) (F 35) (F 36) (F 37) (F 38) (F 39) (F 40) (F 41) (F 42) (F 43) (F 49) (F 50) (F 51) (F 52) (F 53) (F 54) (F 55) (F 56) (F 57) (F 58) (F 59) (n 9) (n 11) (n 12) (n 44) (n 45) (n 46) (n 47) (n 48)) s.heap := hP
  have hl := lv_entry ([.ref h0, .int v1, .int v2]) (n := 5) (Nat.le_of_ble_eq_true rfl)
  rw [lg_entry_eq]
  generalize (lg_sl ([.ref h0, .int v1, .int v2]) ++ List.replicate (5 - (lg_sl ([.ref h0, .int v1, .int v2])).length) Slot.unset).toArray = ls at hl ⊢
  have hl : lv_has ls 5 [(0, .ref h0), (1, .int v1), (2, .int v2)] := hl
  obtain ⟨b_1, b_2, b_3, b_4, b_5, b_6, b_7, b_8, b_9, b_10, b_11, b_12, i_13, i_14, i_15, i_16, i_17, i_18, i_19, j_20, j_21, j_22, j_23, j_24, j_25, j_26, j_27, j_28, j_29⟩ := id hI
  refine lv_aload_n hx hb dX10_child_0 rfl (lv_at hl 0 rfl) ?_
  refine lv_iload_n hx hb dX10_child_1 rfl (lv_at hl 1 rfl) ?_
  have hFc := free_all hD hS hA
  refine va_calli (va_runV (As := [.int v1]) (rest := []) ⟨hx, hb, hml, hown, hg⟩ (c_X10_isRun l dC dI kp h0 X C F n v1 s.heap.size ⟨b_1, b_2, b_3, b_4, b_5, b_6, b_7, b_8, b_9, b_10, b_11, b_12, i_13, i_14, i_15, i_16, i_17, i_18, i_19, j_20, j_21, j_22, j_23, j_24, j_25, j_26, j_27, j_28, j_29⟩) (cwV 1 hg (gw_V gm_methodLink_RX10_276_yX10_isRun gm_instanceMethod_yX10_isRun gm_selects_RX10_yX10_isRun_yX10_isRun gm_initialized_RX10 gm_code_yX10_isRun_cX10_isRun_2_some_boolean_) rfl rfl rfl (by decide +kernel) ⟨Nat.le_of_ble_eq_true rfl, Nat.le_of_ble_eq_true rfl⟩) ⟨fun a U g mk q => by obtain ⟨q0, q1, qP, qK, qD, qN⟩ := q; exact ⟨q0, q1, qP, va_K.moved (u := U) (U := U.calling g mk a) (Vm.Alike.refl U.vm) qK, qD, nx_same (u := U) (U := U.calling g mk a) rfl qN⟩, va_recv hK hP (ci := 10) (q0 := 0) rfl rfl, fun U hU hW => ⟨rfl, by rw [hU], by rw [hU]; exact hP, va_K.moved hW.alike hK, hD.weaken (fun _ _ _ _ => trivial), nx_warm hW hN⟩⟩ rfl rfl hl.1 rfl (lv_room (Nat.le_of_ble_eq_true rfl)) dX10_child_2 ⟨Nat.le_of_ble_eq_true rfl, Nat.le_of_ble_eq_true rfl⟩) hS (fun q _ h => hFc q h) hFc (fun r_30 u_31 t H1 locs ht hvm hw hB hz1 hk1 hS => ?_)
  obtain ⟨hP, hD⟩ := hB
  rw [ht] at hP
  have hD := hD.weaken (fun k q _ h => hFc _ h)
  generalize H1 = H at hP hS ⊢
  have hP : va_P (dC, dI) vwCl (w10 h0 X C (F 0) (F 1) (F 2) (F 3) (F 4) (F 5) (F 6) (F 7) (F 8) (F 10) (F 13) (F 14) (F 15) (F 16) (F 17) (F 18) (F 19) (F 20) (F 21) (F 22) (F 23) (F 24) (F 25) (F 26) (F 27) (F 28) (F 29) (F 30) (F 31) (F 32) (F 33) (F 34) (F 35) (F 36) (F 37) (F 38) (F 39) (F 40) (F 41) (F 42) (F 43) (F 49) (F 50) (F 51) (F 52) (F 53) (F 54) (F 55) (F 56) (F 57) (F 58) (F 59) (n 9) (n 11) (n 12) (n 44) (n 45) (n 46) (n 47) (n 48)) H := hP
  have hD : va_D A (w10 h0 X C (F 0) (F 1) (F 2) (F 3) (F 4) (F 5) (F 6) (F 7) (F 8) (F 10) (F 13) (F 14) (F 15) (F 16) (F 17) (F 18) (F 19) (F 20) (F 21) (F 22) (F 23) (F 24) (F 25) (F 26) (F 27) (F 28) (F 29) (F 30) (F 31) (F 32) (F 33) (F 34) (F 35) (F 36) (F 37) (F 38) (F 39) (F 40) (F 41) (F 42) (F 43) (F 49) (F 50) (F 51) (F 52) (F 53) (F 54) (F 55) (F 56) (F 57) (F 58) (F 59) (n 9) (n 11) (n 12) (n 44) (n 45) (n 46) (n 47) (n 48)) := hD
  rcases hw with ⟨rfl, w_32⟩ | ⟨rfl, w_32⟩
  · have w_32 : (0 ≤ v1.toInt ∧ v1.toInt < ((n 11)).toInt) := w_32
    try simp only [upd_eq] at w_32
    refine lv_if_eq (tgt := 12) hx hb dX10_child_5 (by decide) (fun c_33 => absurd c_33 (by decide)) (fun _ => ?_)
    refine lv_iload_n hx hb dX10_child_8 rfl (lv_at hl 2 rfl) ?_
    refine lv_if_ge (tgt := 14) hx hb dX10_child_9 (by decide) (fun c_34 => ?_) (fun c_34 => ?_)
    · simp only [i_lt, i_le, i_eq, ti_0] at c_34
      refine lv_iconst (v := 0) hx hb dX10_child_14 (by decide) ?_
      refine lv_istore_n (lv' := [(3, .int 0), (0, .ref h0), (1, .int v1), (2, .int v2)]) hx hb dX10_child_15 rfl hl (by decide) rfl (fun ls hl => ?_)
      refine lv_iload_n hx hb dX10_child_16 rfl (lv_at hl 2 rfl) ?_
      refine lv_iconst (v := 1) hx hb dX10_child_17 (by decide) ?_
      refine lv_iadd hx hb dX10_child_18 ?_
      refine lv_topi (fun z_35 ez_35 => ?_)
      have tz_35 : z_35.toInt = v1.toInt + 1 := ar_add rfl ti_1 ez_35 (by omega)
      refine lv_istore (lv' := [(4, .int z_35), (3, .int 0), (0, .ref h0), (1, .int v1), (2, .int v2)]) hx hb dX10_child_19 hl (by decide) rfl (fun ls hl => ?_)
      have L21 : ∀ (fuel : Nat) (x_36 : Int32) (x_37 : Int32) (H : Heap) (locs : List Loc) (ls : Array Slot), (201 - x_37.toInt).toNat < fuel → (0 ≤ x_37.toInt ∧ x_37.toInt ≤ 200) → (0 ≤ x_36.toInt ∧ x_36.toInt ≤ x_37.toInt) → va_P (dC, dI) vwCl (w10 h0 X C (F 0) (F 1) (F 2) (F 3) (F 4) (F 5) (F 6) (F 7) (F 8) (F 10) (F 13) (F 14) (F 15) (F 16) (F 17) (F 18) (F 19) (F 20) (F 21) (F 22) (F 23) (F 24) (F 25) (F 26) (F 27) (F 28) (F 29) (F 30) (F 31) (F 32) (F 33) (F 34) (F 35) (F 36) (F 37) (F 38) (F 39) (F 40) (F 41) (F 42) (F 43) (F 49) (F 50) (F 51) (F 52) (F 53) (F 54) (F 55) (F 56) (F 57) (F 58) (F 59) (n 9) (n 11) (n 12) (n 44) (n 45) (n 46) (n 47) (n 48)) H → va_D A (w10 h0 X C (F 0) (F 1) (F 2) (F 3) (F 4) (F 5) (F 6) (F 7) (F 8) (F 10) (F 13) (F 14) (F 15) (F 16) (F 17) (F 18) (F 19) (F 20) (F 21) (F 22) (F 23) (F 24) (F 25) (F 26) (F 27) (F 28) (F 29) (F 30) (F 31) (F 32) (F 33) (F 34) (F 35) (F 36) (F 37) (F 38) (F 39) (F 40) (F 41) (F 42) (F 43) (F 49) (F 50) (F 51) (F 52) (F 53) (F 54) (F 55) (F 56) (F 57) (F 58) (F 59) (n 9) (n 11) (n 12) (n 44) (n 45) (n 46) (n 47) (n 48)) → va_S A s.heap H locs → lv_has ls 5 [(4, .int x_37), (3, .int x_36), (0, .ref h0), (1, .int v1), (2, .int v2)] → W p l e (headSpec (.code yX10_child cX10_child 5 (some .int) :: gw) ({ frames := 1, cells := 0, slots := 0, locals := 21 })).room s m ([.ref h0, .int v1, .int v2] : List Value).toArray below meth c H locs 0 0 (MQ below (va_Qi (fun (r : Int32) (u : Unit) => True) (fun _ t => va_P (dC, dI) vwCl (w10 h0 X C (F 0) (F 1) (F 2) (F 3) (F 4) (F 5) (F 6) (F 7) (F 8) (F 10) (F 13) (F 14) (F 15) (F 16) (F 17) (F 18) (F 19) (F 20) (F 21) (F 22) (F 23) (F 24) (F 25) (F 26) (F 27) (F 28) (F 29) (F 30) (F 31) (F 32) (F 33) (F 34) (F 35) (F 36) (F 37) (F 38) (F 39) (F 40) (F 41) (F 42) (F 43) (F 49) (F 50) (F 51) (F 52) (F 53) (F 54) (F 55) (F 56) (F 57) (F 58) (F 59) (n 9) (n 11) (n 12) (n 44) (n 45) (n 46) (n 47) (n 48)) t.heap ∧ va_D A (w10 h0 X C (F 0) (F 1) (F 2) (F 3) (F 4) (F 5) (F 6) (F 7) (F 8) (F 10) (F 13) (F 14) (F 15) (F 16) (F 17) (F 18) (F 19) (F 20) (F 21) (F 22) (F 23) (F 24) (F 25) (F 26) (F 27) (F 28) (F 29) (F 30) (F 31) (F 32) (F 33) (F 34) (F 35) (F 36) (F 37) (F 38) (F 39) (F 40) (F 41) (F 42) (F 43) (F 49) (F 50) (F 51) (F 52) (F 53) (F 54) (F 55) (F 56) (F 57) (F 58) (F 59) (n 9) (n 11) (n 12) (n 44) (n 45) (n 46) (n 47) (n 48))) A) ([.ref h0, .int v1, .int v2] : List Value).toArray s 0 0 A) (F0 m 21 ls []) := by
        intro fuel
        induction fuel with
        | zero => intro x_36 x_37 H locs ls hm; exact absurd hm (Nat.not_lt_zero _)
        | succ fuel_39 ih_38 =>
          intro x_36 x_37 H locs ls hm_42 v_40 v_41 hP hD hS hl
          refine lv_iload hx hb dX10_child_21 (lv_at hl 0 rfl) ?_
          refine lv_aload_n hx hb dX10_child_23 rfl (lv_at hl 2 rfl) ?_
          refine va_get (D := (dC, dI)) (ci := 10) (v := .int (n 11)) (C := RX10) (T := TX10) (N := 60) hx hb hg gb_10 hown hK hP 0 rfl rfl 11 (by decide) (hg _ gm_fieldLink_RX10_176_ErrandGuildModel_runs_I_) (fun _ h9 => h9) rfl dX10_child_24 ?_
          refine lv_icmp_ge (tgt := 62) hx hb dX10_child_27 (by decide) (fun c_43 => ?_) (fun c_43 => ?_)
          · simp only [i_lt, i_le, i_eq] at c_43
            refine lv_iconst (v := -1) hx hb dX10_child_62 (by decide) ?_
            exact W.iret (v := -1) hx hb hr (fun t ht hW => ⟨⟨-1, (), rfl, trivial, by rw [ht]; exact hP, hD⟩, hS.F ht⟩) hS.2.2 dX10_child_63
          · simp only [i_lt, i_le, i_eq] at c_43
            refine lv_aload_n hx hb dX10_child_30 rfl (lv_at hl 2 rfl) ?_
            refine va_get (D := (dC, dI)) (ci := 10) (v := .ref (X 15)) (C := RX10) (T := TX10) (N := 60) hx hb hg gb_10 hown hK hP 0 rfl rfl 15 (by decide) (hg _ gm_fieldLink_RX10_51_ErrandGuildModel_giver_AI_) (fun _ h9 => h9) rfl dX10_child_31 ?_
            refine lv_iload hx hb dX10_child_34 (lv_at hl 0 rfl) ?_
            refine va_iald (f := F 15) hx hb hK hP 13 12 rfl rfl (vp_in_iff.mpr ⟨by omega, by omega⟩) dX10_child_36 ?_
            refine lv_topi (fun z_44 ez_44 => ?_)
            have qz_44 := congrArg Int32.toInt ez_44
            have bz_44 := bd_at b_5 ez_44
            refine lv_iload_n hx hb dX10_child_37 rfl (lv_at hl 3 rfl) ?_
            refine lv_icmp_eq (tgt := 44) hx hb dX10_child_38 (by decide) (fun c_45 => ?_) (fun c_45 => ?_)
            · simp only [i_lt, i_le, i_eq] at c_45
              refine lv_iload_n hx hb dX10_child_44 rfl (lv_at hl 1 rfl) ?_
              refine lv_iload_n hx hb dX10_child_45 rfl (lv_at hl 4 rfl) ?_
              refine lv_icmp_ne (tgt := 52) hx hb dX10_child_46 (by decide) (fun c_46 => ?_) (fun c_46 => ?_)
              · simp only [i_lt, i_le, i_eq] at c_46
                refine lv_iload_n hx hb dX10_child_52 rfl (lv_at hl 1 rfl) ?_
                refine lv_iconst (v := 1) hx hb dX10_child_53 (by decide) ?_
                refine lv_iadd hx hb dX10_child_54 ?_
                refine lv_topi (fun z_47 ez_47 => ?_)
                have tz_47 : z_47.toInt = x_36.toInt + 1 := ar_add rfl ti_1 ez_47 (by omega)
                refine lv_istore_n (lv' := [(3, .int z_47), (4, .int x_37), (0, .ref h0), (1, .int v1), (2, .int v2)]) hx hb dX10_child_55 rfl hl (by decide) rfl (fun ls hl => ?_)
                obtain ⟨y_48, ey_48⟩ : ∃ q : Int32, q = x_37 + (1) := ⟨_, rfl⟩
                refine lv_iinc (v := y_48) (lv' := [(4, .int y_48), (3, .int z_47), (0, .ref h0), (1, .int v1), (2, .int v2)]) hx hb dX10_child_56 hl (k := 1) rfl (by rw [ey_48]; rfl) (by decide) rfl (fun ls hl => ?_)
                have ty_48 : y_48.toInt = x_37.toInt + (1) := ar_add rfl ti_1 ey_48 (by omega)
                refine lv_goto (tgt := 21) hx hb dX10_child_59 (by decide) ?_
                exact ih_38 z_47 y_48 H locs ls (by omega) (by omega) (by omega) hP hD hS (lv_sub hl [0, 1, 2, 3, 4] rfl)
              · simp only [i_lt, i_le, i_eq] at c_46
                refine lv_iload hx hb dX10_child_49 (lv_at hl 0 rfl) ?_
                exact W.iret (v := x_37) hx hb hr (fun t ht hW => ⟨⟨x_37, (), rfl, trivial, by rw [ht]; exact hP, hD⟩, hS.F ht⟩) hS.2.2 dX10_child_51
            · simp only [i_lt, i_le, i_eq] at c_45
              refine lv_goto (tgt := 56) hx hb dX10_child_41 (by decide) ?_
              obtain ⟨y_49, ey_49⟩ : ∃ q : Int32, q = x_37 + (1) := ⟨_, rfl⟩
              refine lv_iinc (v := y_49) (lv' := [(4, .int y_49), (3, .int x_36), (0, .ref h0), (1, .int v1), (2, .int v2)]) hx hb dX10_child_56 hl (k := 0) rfl (by rw [ey_49]; rfl) (by decide) rfl (fun ls hl => ?_)
              have ty_49 : y_49.toInt = x_37.toInt + (1) := ar_add rfl ti_1 ey_49 (by omega)
              refine lv_goto (tgt := 21) hx hb dX10_child_59 (by decide) ?_
              exact ih_38 x_36 y_49 H locs ls (by omega) (by omega) (by omega) hP hD hS (lv_sub hl [0, 1, 2, 3, 4] rfl)
      exact L21 _ (0) z_35 _ _ _ (Nat.lt_succ_self _) (by have t_0 := ti_0; omega) (by have t_0 := ti_0; omega) hP hD hS (lv_sub hl [0, 1, 2, 3, 4] rfl)
    · simp only [i_lt, i_le, i_eq, ti_0] at c_34
      refine lv_iconst (v := -1) hx hb dX10_child_12 (by decide) ?_
      exact W.iret (v := -1) hx hb hr (fun t ht hW => ⟨⟨-1, (), rfl, trivial, by rw [ht]; exact hP, hD⟩, hS.F ht⟩) hS.2.2 dX10_child_13
  · have w_32 : ¬ (0 ≤ v1.toInt ∧ v1.toInt < ((n 11)).toInt) := w_32
    try simp only [upd_eq] at w_32
    refine lv_if_eq (tgt := 12) hx hb dX10_child_5 (by decide) (fun _ => ?_) (fun c_50 => absurd c_50 (by decide))
    refine lv_iconst (v := -1) hx hb dX10_child_12 (by decide) ?_
    exact W.iret (v := -1) hx hb hr (fun t ht hW => ⟨⟨-1, (), rfl, trivial, by rw [ht]; exact hP, hD⟩, hS.F ht⟩) hS.2.2 dX10_child_13

set_option maxHeartbeats 8000000 in
set_option maxRecDepth 100000 in
theorem c_X10_value (l : Launch) (dC : Nat → ClassId) (dI : Nat → Nat → Nat) (kp : Int) (h0 : Nat) (X : Nat → Nat) (C : Nat → ClassId) (F : Nat → Nat → Int32) (n : Nat → Int32) (v1 : Int32) (v2 : Int32) (sz : Nat) (hI : I10 kp F n) : Met l yX10_value (.code yX10_value cX10_value 3 (some .int) :: gw) ({ frames := 2, cells := 0, slots := 0, locals := 47 }) (va_Pc [.ref h0, .int v1, .int v2] (fun U => U.heap.size = sz ∧ va_P (dC, dI) vwCl (w10 h0 X C (F 0) (F 1) (F 2) (F 3) (F 4) (F 5) (F 6) (F 7) (F 8) (F 10) (F 13) (F 14) (F 15) (F 16) (F 17) (F 18) (F 19) (F 20) (F 21) (F 22) (F 23) (F 24) (F 25) (F 26) (F 27) (F 28) (F 29) (F 30) (F 31) (F 32) (F 33) (F 34) (F 35) (F 36) (F 37) (F 38) (F 39) (F 40) (F 41) (F 42) (F 43) (F 49) (F 50) (F 51) (F 52) (F 53) (F 54) (F 55) (F 56) (F 57) (F 58) (F 59) (n 9) (n 11) (n 12) (n 44) (n 45) (n 46) (n 47) (n 48)) U.heap ∧ va_K (dC, dI) vwCl (t10 C) U ∧ va_D (fun _ => True) (w10 h0 X C (F 0) (F 1) (F 2) (F 3) (F 4) (F 5) (F 6) (F 7) (F 8) (F 10) (F 13) (F 14) (F 15) (F 16) (F 17) (F 18) (F 19) (F 20) (F 21) (F 22) (F 23) (F 24) (F 25) (F 26) (F 27) (F 28) (F 29) (F 30) (F 31) (F 32) (F 33) (F 34) (F 35) (F 36) (F 37) (F 38) (F 39) (F 40) (F 41) (F 42) (F 43) (F 49) (F 50) (F 51) (F 52) (F 53) (F 54) (F 55) (F 56) (F 57) (F 58) (F 59) (n 9) (n 11) (n 12) (n 44) (n 45) (n 46) (n 47) (n 48)) ∧ nx U)) (va_Qi (fun (r : Int32) (u : Unit) => True) (fun _ t => va_P (dC, dI) vwCl (w10 h0 X C (F 0) (F 1) (F 2) (F 3) (F 4) (F 5) (F 6) (F 7) (F 8) (F 10) (F 13) (F 14) (F 15) (F 16) (F 17) (F 18) (F 19) (F 20) (F 21) (F 22) (F 23) (F 24) (F 25) (F 26) (F 27) (F 28) (F 29) (F 30) (F 31) (F 32) (F 33) (F 34) (F 35) (F 36) (F 37) (F 38) (F 39) (F 40) (F 41) (F 42) (F 43) (F 49) (F 50) (F 51) (F 52) (F 53) (F 54) (F 55) (F 56) (F 57) (F 58) (F 59) (n 9) (n 11) (n 12) (n 44) (n 45) (n 46) (n 47) (n 48)) t.heap ∧ va_D (va_A (w10 h0 X C (F 0) (F 1) (F 2) (F 3) (F 4) (F 5) (F 6) (F 7) (F 8) (F 10) (F 13) (F 14) (F 15) (F 16) (F 17) (F 18) (F 19) (F 20) (F 21) (F 22) (F 23) (F 24) (F 25) (F 26) (F 27) (F 28) (F 29) (F 30) (F 31) (F 32) (F 33) (F 34) (F 35) (F 36) (F 37) (F 38) (F 39) (F 40) (F 41) (F 42) (F 43) (F 49) (F 50) (F 51) (F 52) (F 53) (F 54) (F 55) (F 56) (F 57) (F 58) (F 59) (n 9) (n 11) (n 12) (n 44) (n 45) (n 46) (n 47) (n 48)) sz) (w10 h0 X C (F 0) (F 1) (F 2) (F 3) (F 4) (F 5) (F 6) (F 7) (F 8) (F 10) (F 13) (F 14) (F 15) (F 16) (F 17) (F 18) (F 19) (F 20) (F 21) (F 22) (F 23) (F 24) (F 25) (F 26) (F 27) (F 28) (F 29) (F 30) (F 31) (F 32) (F 33) (F 34) (F 35) (F 36) (F 37) (F 38) (F 39) (F 40) (F 41) (F 42) (F 43) (F 49) (F 50) (F 51) (F 52) (F 53) (F 54) (F 55) (F 56) (F 57) (F 58) (F 59) (n 9) (n 11) (n 12) (n 44) (n 45) (n 46) (n 47) (n 48))) (va_A (w10 h0 X C (F 0) (F 1) (F 2) (F 3) (F 4) (F 5) (F 6) (F 7) (F 8) (F 10) (F 13) (F 14) (F 15) (F 16) (F 17) (F 18) (F 19) (F 20) (F 21) (F 22) (F 23) (F 24) (F 25) (F 26) (F 27) (F 28) (F 29) (F 30) (F 31) (F 32) (F 33) (F 34) (F 35) (F 36) (F 37) (F 38) (F 39) (F 40) (F 41) (F 42) (F 43) (F 49) (F 50) (F 51) (F 52) (F 53) (F 54) (F 55) (F 56) (F 57) (F 58) (F 59) (n 9) (n 11) (n 12) (n 44) (n 45) (n 46) (n 47) (n 48)) sz)) 0 0 (va_A (w10 h0 X C (F 0) (F 1) (F 2) (F 3) (F 4) (F 5) (F 6) (F 7) (F 8) (F 10) (F 13) (F 14) (F 15) (F 16) (F 17) (F 18) (F 19) (F 20) (F 21) (F 22) (F 23) (F 24) (F 25) (F 26) (F 27) (F 28) (F 29) (F 30) (F 31) (F 32) (F 33) (F 34) (F 35) (F 36) (F 37) (F 38) (F 39) (F 40) (F 41) (F 42) (F 43) (F 49) (F 50) (F 51) (F 52) (F 53) (F 54) (F 55) (F 56) (F 57) (F 58) (F 59) (n 9) (n 11) (n 12) (n 44) (n 45) (n 46) (n 47) (n 48)) sz) := by
  refine Met.ofW (cc := cX10_value) (maxL := 3) (ret := (some .int)) (by decide) rfl ?_
  intro p e s m args below meth c s₁ B hml hv
  obtain ⟨rfl, hsz, hP, hK, hD0, hN⟩ := hv
  have hx := B.exec
  have hb := B.bytes
  have hr := B.returns
  have hts := atoms_spec (ws := .code yX10_value cX10_value 3 (some .int) :: gw) B.pre
  have hg : ∀ w ∈ gw, w.before _ s = true := fun w h => hts w (List.mem_cons_of_mem _ h)
  have hown : s.vm.findClass RX10 = some m.cls := findClass_of_methodNamed B.named
  have hlocks := B.notSynchronized
  subst hsz
  have hD := hD0.self (sz := s.heap.size)
  generalize hAe : va_A (w10 h0 X C (F 0) (F 1) (F 2) (F 3) (F 4) (F 5) (F 6) (F 7) (F 8) (F 10) (F 13) (F 14) (F 15) (F 16) (F 17) (F 18) (F 19) (F 20) (F 21) (F 22) (F 23) (F 24) (F 25) (F 26) (F 27) (F 28) (F 29) (F 30) (F 31) (F 32) (F 33) (F 34) (F 35) (F 36) (F 37) (F 38) (F 39) (F 40) (F 41) (F 42) (F 43) (F 49) (F 50) (F 51) (F 52) (F 53) (F 54) (F 55) (F 56) (F 57) (F 58) (F 59) (n 9) (n 11) (n 12) (n 44) (n 45) (n 46) (n 47) (n 48)) s.heap.size = A at hD ⊢
  have hA : ∀ q : Nat, s.heap.size ≤ q → A q := fun q h => by rw [← hAe]; exact Or.inr h
  have hS : va_S A s.heap s.heap [] := va_S.rf
  have hP : va_P (dC, dI) vwCl (w10 h0 X C (F 0) (F 1) (F 2) (F 3) (F 4) (F 5) (F 6) (F 7) (F 8) (F 10) (F 13) (F 14) (F 15) (F 16) (F 17) (F 18) (F 19) (F 20) (F 21) (F 22) (F 23) (F 24) (F 25) (F 26) (F 27) (F 28) (F 29) (F 30) (F 31) (F 32) (F 33) (F 34) (F 35) (F 36) (F 37) (F 38) (F 39) (F 40) (F 41) (F 42) (F 43) (F 49) (F 50) (F 51) (F 52) (F 53) (F 54) (F 55) (F 56) (F 57) (F 58) (F 59) (n 9) (n 11) (n 12) (n 44) (n 45) (n 46) (n 47) (n 48)) s.heap := hP
  have hl := lv_entry ([.ref h0, .int v1, .int v2]) (n := 3) (Nat.le_of_ble_eq_true rfl)
  rw [lg_entry_eq]
  generalize (lg_sl ([.ref h0, .int v1, .int v2]) ++ List.replicate (3 - (lg_sl ([.ref h0, .int v1, .int v2])).length) Slot.unset).toArray = ls at hl ⊢
  have hl : lv_has ls 3 [(0, .ref h0), (1, .int v1), (2, .int v2)] := hl
  obtain ⟨b_1, b_2, b_3, b_4, b_5, b_6, b_7, b_8, b_9, b_10, b_11, b_12, i_13, i_14, i_15, i_16, i_17, i_18, i_19, j_20, j_21, j_22, j_23, j_24, j_25, j_26, j_27, j_28, j_29⟩ := id hI
  refine lv_aload_n hx hb dX10_value_0 rfl (lv_at hl 0 rfl) ?_
  refine lv_iload_n hx hb dX10_value_1 rfl (lv_at hl 1 rfl) ?_
  have hFc := free_all hD hS hA
  refine va_calli (va_runV (As := [.int v1]) (rest := []) ⟨hx, hb, hml, hown, hg⟩ (c_X10_isRun l dC dI kp h0 X C F n v1 s.heap.size ⟨b_1, b_2, b_3, b_4, b_5, b_6, b_7, b_8, b_9, b_10, b_11, b_12, i_13, i_14, i_15, i_16, i_17, i_18, i_19, j_20, j_21, j_22, j_23, j_24, j_25, j_26, j_27, j_28, j_29⟩) (cwV 1 hg (gw_V gm_methodLink_RX10_276_yX10_isRun gm_instanceMethod_yX10_isRun gm_selects_RX10_yX10_isRun_yX10_isRun gm_initialized_RX10 gm_code_yX10_isRun_cX10_isRun_2_some_boolean_) rfl rfl rfl (by decide +kernel) ⟨Nat.le_of_ble_eq_true rfl, Nat.le_of_ble_eq_true rfl⟩) ⟨fun a U g mk q => by obtain ⟨q0, q1, qP, qK, qD, qN⟩ := q; exact ⟨q0, q1, qP, va_K.moved (u := U) (U := U.calling g mk a) (Vm.Alike.refl U.vm) qK, qD, nx_same (u := U) (U := U.calling g mk a) rfl qN⟩, va_recv hK hP (ci := 10) (q0 := 0) rfl rfl, fun U hU hW => ⟨rfl, by rw [hU], by rw [hU]; exact hP, va_K.moved hW.alike hK, hD.weaken (fun _ _ _ _ => trivial), nx_warm hW hN⟩⟩ rfl rfl hl.1 rfl (lv_room (Nat.le_of_ble_eq_true rfl)) dX10_value_2 ⟨Nat.le_of_ble_eq_true rfl, Nat.le_of_ble_eq_true rfl⟩) hS (fun q _ h => hFc q h) hFc (fun r_30 u_31 t H1 locs ht hvm hw hB hz1 hk1 hS => ?_)
  obtain ⟨hP, hD⟩ := hB
  rw [ht] at hP
  have hD := hD.weaken (fun k q _ h => hFc _ h)
  generalize H1 = H at hP hS ⊢
  have hP : va_P (dC, dI) vwCl (w10 h0 X C (F 0) (F 1) (F 2) (F 3) (F 4) (F 5) (F 6) (F 7) (F 8) (F 10) (F 13) (F 14) (F 15) (F 16) (F 17) (F 18) (F 19) (F 20) (F 21) (F 22) (F 23) (F 24) (F 25) (F 26) (F 27) (F 28) (F 29) (F 30) (F 31) (F 32) (F 33) (F 34) (F 35) (F 36) (F 37) (F 38) (F 39) (F 40) (F 41) (F 42) (F 43) (F 49) (F 50) (F 51) (F 52) (F 53) (F 54) (F 55) (F 56) (F 57) (F 58) (F 59) (n 9) (n 11) (n 12) (n 44) (n 45) (n 46) (n 47) (n 48)) H := hP
  have hD : va_D A (w10 h0 X C (F 0) (F 1) (F 2) (F 3) (F 4) (F 5) (F 6) (F 7) (F 8) (F 10) (F 13) (F 14) (F 15) (F 16) (F 17) (F 18) (F 19) (F 20) (F 21) (F 22) (F 23) (F 24) (F 25) (F 26) (F 27) (F 28) (F 29) (F 30) (F 31) (F 32) (F 33) (F 34) (F 35) (F 36) (F 37) (F 38) (F 39) (F 40) (F 41) (F 42) (F 43) (F 49) (F 50) (F 51) (F 52) (F 53) (F 54) (F 55) (F 56) (F 57) (F 58) (F 59) (n 9) (n 11) (n 12) (n 44) (n 45) (n 46) (n 47) (n 48)) := hD
  rcases hw with ⟨rfl, w_32⟩ | ⟨rfl, w_32⟩
  · have w_32 : (0 ≤ v1.toInt ∧ v1.toInt < ((n 11)).toInt) := w_32
    try simp only [upd_eq] at w_32
    refine lv_if_eq (tgt := 24) hx hb dX10_value_5 (by decide) (fun c_33 => absurd c_33 (by decide)) (fun _ => ?_)
    refine lv_iload_n hx hb dX10_value_8 rfl (lv_at hl 2 rfl) ?_
    have hPc := hP.sub (ws' := []) [] rfl
    have hDc := hD.sub (ws' := []) [] (by decide) rfl
    have hKc := hK.sub (tys' := []) [] rfl
    have hFc := va_free (wc := []) hD hS hA [] rfl
    refine va_calli (va_runS (As := [.int v2]) (rest := []) ⟨hx, hb, hml, hown, hg⟩ (c_X10_isSlot l dC dI v2 H.size) (va_cwS 1 hg (gw_S gm_methodLink_RX10_172_yX10_isSlot gm_static_yX10_isSlot gm_initialized_RX10 gm_code_yX10_isSlot_cX10_isSlot_1_some_boolean_) rfl rfl rfl (by decide +kernel) ⟨Nat.le_of_ble_eq_true rfl, Nat.le_of_ble_eq_true rfl⟩) ⟨fun a U g mk q => by obtain ⟨q0, q1, qP, qK, qD, qN⟩ := q; exact ⟨q0, q1, qP, va_K.moved (u := U) (U := U.calling g mk a) (Vm.Alike.refl U.vm) qK, qD, nx_same (u := U) (U := U.calling g mk a) rfl qN⟩, fun U hU hW => ⟨rfl, by rw [hU], by rw [hU]; exact hPc, va_K.moved hW.alike hKc, hDc.weaken (fun _ _ _ _ => trivial), nx_warm hW hN⟩⟩ rfl rfl hl.1 rfl (lv_room (Nat.le_of_ble_eq_true rfl)) dX10_value_9 ⟨Nat.le_of_ble_eq_true rfl, Nat.le_of_ble_eq_true rfl⟩) hS (fun q _ h => hFc q h) hFc (fun r_34 u_35 t H1 locs ht hvm hw hB hz1 hk1 hS => ?_)
    obtain ⟨hP, hD⟩ := va_join (wr := (w10 h0 X C (F 0) (F 1) (F 2) (F 3) (F 4) (F 5) (F 6) (F 7) (F 8) (F 10) (F 13) (F 14) (F 15) (F 16) (F 17) (F 18) (F 19) (F 20) (F 21) (F 22) (F 23) (F 24) (F 25) (F 26) (F 27) (F 28) (F 29) (F 30) (F 31) (F 32) (F 33) (F 34) (F 35) (F 36) (F 37) (F 38) (F 39) (F 40) (F 41) (F 42) (F 43) (F 49) (F 50) (F 51) (F 52) (F 53) (F 54) (F 55) (F 56) (F 57) (F 58) (F 59) (n 9) (n 11) (n 12) (n 44) (n 45) (n 46) (n 47) (n 48))) (w1 := []) hP hD [] [0, 1, 2, 3, 4, 5, 6, 7, 8, 9, 10, 11, 12, 13, 14, 15, 16, 17, 18, 19, 20, 21, 22, 23, 24, 25, 26, 27, 28, 29, 30, 31, 32, 33, 34, 35, 36, 37, 38, 39, 40, 41, 42, 43, 44, 45, 46, 47, 48, 49, 50, 51, 52] rfl rfl (by decide +kernel) (fun _ _ h => by simp at h) hk1 hFc nil_P nil_D
    generalize H1 = H at hP hS ⊢
    have hP : va_P (dC, dI) vwCl (w10 h0 X C (F 0) (F 1) (F 2) (F 3) (F 4) (F 5) (F 6) (F 7) (F 8) (F 10) (F 13) (F 14) (F 15) (F 16) (F 17) (F 18) (F 19) (F 20) (F 21) (F 22) (F 23) (F 24) (F 25) (F 26) (F 27) (F 28) (F 29) (F 30) (F 31) (F 32) (F 33) (F 34) (F 35) (F 36) (F 37) (F 38) (F 39) (F 40) (F 41) (F 42) (F 43) (F 49) (F 50) (F 51) (F 52) (F 53) (F 54) (F 55) (F 56) (F 57) (F 58) (F 59) (n 9) (n 11) (n 12) (n 44) (n 45) (n 46) (n 47) (n 48)) H := hP
    have hD : va_D A (w10 h0 X C (F 0) (F 1) (F 2) (F 3) (F 4) (F 5) (F 6) (F 7) (F 8) (F 10) (F 13) (F 14) (F 15) (F 16) (F 17) (F 18) (F 19) (F 20) (F 21) (F 22) (F 23) (F 24) (F 25) (F 26) (F 27) (F 28) (F 29) (F 30) (F 31) (F 32) (F 33) (F 34) (F 35) (F 36) (F 37) (F 38) (F 39) (F 40) (F 41) (F 42) (F 43) (F 49) (F 50) (F 51) (F 52) (F 53) (F 54) (F 55) (F 56) (F 57) (F 58) (F 59) (n 9) (n 11) (n 12) (n 44) (n 45) (n 46) (n 47) (n 48)) := hD
    rcases hw with ⟨rfl, w_36⟩ | ⟨rfl, w_36⟩
    · refine lv_if_eq (tgt := 24) hx hb dX10_value_12 (by decide) (fun c_37 => absurd c_37 (by decide)) (fun _ => ?_)
      refine lv_aload_n hx hb dX10_value_15 rfl (lv_at hl 0 rfl) ?_
      refine lv_iload_n hx hb dX10_value_16 rfl (lv_at hl 1 rfl) ?_
      refine lv_iload_n hx hb dX10_value_17 rfl (lv_at hl 2 rfl) ?_
      have hFc := free_all hD hS hA
      refine va_calli (va_runV (As := [.int v1, .int v2]) (rest := []) ⟨hx, hb, hml, hown, hg⟩ (c_X10_reads l dC dI kp h0 X C F n v1 v2 H.size ⟨b_1, b_2, b_3, b_4, b_5, b_6, b_7, b_8, b_9, b_10, b_11, b_12, i_13, i_14, i_15, i_16, i_17, i_18, i_19, j_20, j_21, j_22, j_23, j_24, j_25, j_26, j_27, j_28, j_29⟩ (by omega) (by omega)) (cwV 2 hg (gw_V gm_methodLink_RX10_201_yX10_reads gm_instanceMethod_yX10_reads gm_selects_RX10_yX10_reads_yX10_reads gm_initialized_RX10 gm_code_yX10_reads_cX10_reads_5_some_int_) rfl rfl rfl (by decide +kernel) ⟨Nat.le_of_ble_eq_true rfl, Nat.le_of_ble_eq_true rfl⟩) ⟨fun a U g mk q => by obtain ⟨q0, q1, qP, qK, qD, qN⟩ := q; exact ⟨q0, q1, qP, va_K.moved (u := U) (U := U.calling g mk a) (Vm.Alike.refl U.vm) qK, qD, nx_same (u := U) (U := U.calling g mk a) rfl qN⟩, va_recv hK hP (ci := 10) (q0 := 0) rfl rfl, fun U hU hW => ⟨rfl, by rw [hU], by rw [hU]; exact hP, va_K.moved hW.alike hK, hD.weaken (fun _ _ _ _ => trivial), nx_warm hW hN⟩⟩ rfl rfl hl.1 rfl (lv_room (Nat.le_of_ble_eq_true rfl)) dX10_value_18 ⟨Nat.le_of_ble_eq_true rfl, Nat.le_of_ble_eq_true rfl⟩) hS (fun q _ h => hFc q h) hFc (fun r_38 u_39 t H1 locs ht hvm hw hB hz1 hk1 hS => ?_)
      obtain ⟨hP, hD⟩ := hB
      rw [ht] at hP
      have hD := hD.weaken (fun k q _ h => hFc _ h)
      generalize H1 = H at hP hS ⊢
      have hP : va_P (dC, dI) vwCl (w10 h0 X C (F 0) (F 1) (F 2) (F 3) (F 4) (F 5) (F 6) (F 7) (F 8) (F 10) (F 13) (F 14) (F 15) (F 16) (F 17) (F 18) (F 19) (F 20) (F 21) (F 22) (F 23) (F 24) (F 25) (F 26) (F 27) (F 28) (F 29) (F 30) (F 31) (F 32) (F 33) (F 34) (F 35) (F 36) (F 37) (F 38) (F 39) (F 40) (F 41) (F 42) (F 43) (F 49) (F 50) (F 51) (F 52) (F 53) (F 54) (F 55) (F 56) (F 57) (F 58) (F 59) (n 9) (n 11) (n 12) (n 44) (n 45) (n 46) (n 47) (n 48)) H := hP
      have hD : va_D A (w10 h0 X C (F 0) (F 1) (F 2) (F 3) (F 4) (F 5) (F 6) (F 7) (F 8) (F 10) (F 13) (F 14) (F 15) (F 16) (F 17) (F 18) (F 19) (F 20) (F 21) (F 22) (F 23) (F 24) (F 25) (F 26) (F 27) (F 28) (F 29) (F 30) (F 31) (F 32) (F 33) (F 34) (F 35) (F 36) (F 37) (F 38) (F 39) (F 40) (F 41) (F 42) (F 43) (F 49) (F 50) (F 51) (F 52) (F 53) (F 54) (F 55) (F 56) (F 57) (F 58) (F 59) (n 9) (n 11) (n 12) (n 44) (n 45) (n 46) (n 47) (n 48)) := hD
      refine lv_goto (tgt := 25) hx hb dX10_value_21 (by decide) ?_
      exact W.iret (v := r_38) hx hb hr (fun t ht hW => ⟨⟨r_38, (), rfl, trivial, by rw [ht]; exact hP, hD⟩, hS.F ht⟩) hS.2.2 dX10_value_25
    · refine lv_if_eq (tgt := 24) hx hb dX10_value_12 (by decide) (fun _ => ?_) (fun c_41 => absurd c_41 (by decide))
      refine lv_iconst (v := 0) hx hb dX10_value_24 (by decide) ?_
      exact W.iret (v := 0) hx hb hr (fun t ht hW => ⟨⟨0, (), rfl, trivial, by rw [ht]; exact hP, hD⟩, hS.F ht⟩) hS.2.2 dX10_value_25
  · have w_32 : ¬ (0 ≤ v1.toInt ∧ v1.toInt < ((n 11)).toInt) := w_32
    try simp only [upd_eq] at w_32
    refine lv_if_eq (tgt := 24) hx hb dX10_value_5 (by decide) (fun _ => ?_) (fun c_42 => absurd c_42 (by decide))
    refine lv_iconst (v := 0) hx hb dX10_value_24 (by decide) ?_
    exact W.iret (v := 0) hx hb hr (fun t ht hW => ⟨⟨0, (), rfl, trivial, by rw [ht]; exact hP, hD⟩, hS.F ht⟩) hS.2.2 dX10_value_25

set_option maxHeartbeats 8000000 in
set_option maxRecDepth 100000 in
theorem c_X10_seen (l : Launch) (dC : Nat → ClassId) (dI : Nat → Nat → Nat) (kp : Int) (h0 : Nat) (X : Nat → Nat) (C : Nat → ClassId) (F : Nat → Nat → Int32) (n : Nat → Int32) (v1 : Int32) (v2 : Int32) (sz : Nat) (hI : I10 kp F n) : Met l yX10_seen (.code yX10_seen cX10_seen 3 (some .int) :: gw) ({ frames := 0, cells := 0, slots := 0, locals := 0 }) (va_Pc [.ref h0, .int v1, .int v2] (fun U => U.heap.size = sz ∧ va_P (dC, dI) vwCl (w10 h0 X C (F 0) (F 1) (F 2) (F 3) (F 4) (F 5) (F 6) (F 7) (F 8) (F 10) (F 13) (F 14) (F 15) (F 16) (F 17) (F 18) (F 19) (F 20) (F 21) (F 22) (F 23) (F 24) (F 25) (F 26) (F 27) (F 28) (F 29) (F 30) (F 31) (F 32) (F 33) (F 34) (F 35) (F 36) (F 37) (F 38) (F 39) (F 40) (F 41) (F 42) (F 43) (F 49) (F 50) (F 51) (F 52) (F 53) (F 54) (F 55) (F 56) (F 57) (F 58) (F 59) (n 9) (n 11) (n 12) (n 44) (n 45) (n 46) (n 47) (n 48)) U.heap ∧ va_K (dC, dI) vwCl (t10 C) U ∧ va_D (fun _ => True) (w10 h0 X C (F 0) (F 1) (F 2) (F 3) (F 4) (F 5) (F 6) (F 7) (F 8) (F 10) (F 13) (F 14) (F 15) (F 16) (F 17) (F 18) (F 19) (F 20) (F 21) (F 22) (F 23) (F 24) (F 25) (F 26) (F 27) (F 28) (F 29) (F 30) (F 31) (F 32) (F 33) (F 34) (F 35) (F 36) (F 37) (F 38) (F 39) (F 40) (F 41) (F 42) (F 43) (F 49) (F 50) (F 51) (F 52) (F 53) (F 54) (F 55) (F 56) (F 57) (F 58) (F 59) (n 9) (n 11) (n 12) (n 44) (n 45) (n 46) (n 47) (n 48)) ∧ nx U)) (va_Qi (fun (r : Int32) (u : Unit) => True) (fun _ t => va_P (dC, dI) vwCl (w10 h0 X C (F 0) (F 1) (F 2) (F 3) (F 4) (F 5) (F 6) (F 7) (F 8) (F 10) (F 13) (F 14) (F 15) (F 16) (F 17) (F 18) (F 19) (F 20) (F 21) (F 22) (F 23) (F 24) (F 25) (F 26) (F 27) (F 28) (F 29) (F 30) (F 31) (F 32) (F 33) (F 34) (F 35) (F 36) (F 37) (F 38) (F 39) (F 40) (F 41) (F 42) (F 43) (F 49) (F 50) (F 51) (F 52) (F 53) (F 54) (F 55) (F 56) (F 57) (F 58) (F 59) (n 9) (n 11) (n 12) (n 44) (n 45) (n 46) (n 47) (n 48)) t.heap ∧ va_D (va_A (w10 h0 X C (F 0) (F 1) (F 2) (F 3) (F 4) (F 5) (F 6) (F 7) (F 8) (F 10) (F 13) (F 14) (F 15) (F 16) (F 17) (F 18) (F 19) (F 20) (F 21) (F 22) (F 23) (F 24) (F 25) (F 26) (F 27) (F 28) (F 29) (F 30) (F 31) (F 32) (F 33) (F 34) (F 35) (F 36) (F 37) (F 38) (F 39) (F 40) (F 41) (F 42) (F 43) (F 49) (F 50) (F 51) (F 52) (F 53) (F 54) (F 55) (F 56) (F 57) (F 58) (F 59) (n 9) (n 11) (n 12) (n 44) (n 45) (n 46) (n 47) (n 48)) sz) (w10 h0 X C (F 0) (F 1) (F 2) (F 3) (F 4) (F 5) (F 6) (F 7) (F 8) (F 10) (F 13) (F 14) (F 15) (F 16) (F 17) (F 18) (F 19) (F 20) (F 21) (F 22) (F 23) (F 24) (F 25) (F 26) (F 27) (F 28) (F 29) (F 30) (F 31) (F 32) (F 33) (F 34) (F 35) (F 36) (F 37) (F 38) (F 39) (F 40) (F 41) (F 42) (F 43) (F 49) (F 50) (F 51) (F 52) (F 53) (F 54) (F 55) (F 56) (F 57) (F 58) (F 59) (n 9) (n 11) (n 12) (n 44) (n 45) (n 46) (n 47) (n 48))) (va_A (w10 h0 X C (F 0) (F 1) (F 2) (F 3) (F 4) (F 5) (F 6) (F 7) (F 8) (F 10) (F 13) (F 14) (F 15) (F 16) (F 17) (F 18) (F 19) (F 20) (F 21) (F 22) (F 23) (F 24) (F 25) (F 26) (F 27) (F 28) (F 29) (F 30) (F 31) (F 32) (F 33) (F 34) (F 35) (F 36) (F 37) (F 38) (F 39) (F 40) (F 41) (F 42) (F 43) (F 49) (F 50) (F 51) (F 52) (F 53) (F 54) (F 55) (F 56) (F 57) (F 58) (F 59) (n 9) (n 11) (n 12) (n 44) (n 45) (n 46) (n 47) (n 48)) sz)) 0 0 (va_A (w10 h0 X C (F 0) (F 1) (F 2) (F 3) (F 4) (F 5) (F 6) (F 7) (F 8) (F 10) (F 13) (F 14) (F 15) (F 16) (F 17) (F 18) (F 19) (F 20) (F 21) (F 22) (F 23) (F 24) (F 25) (F 26) (F 27) (F 28) (F 29) (F 30) (F 31) (F 32) (F 33) (F 34) (F 35) (F 36) (F 37) (F 38) (F 39) (F 40) (F 41) (F 42) (F 43) (F 49) (F 50) (F 51) (F 52) (F 53) (F 54) (F 55) (F 56) (F 57) (F 58) (F 59) (n 9) (n 11) (n 12) (n 44) (n 45) (n 46) (n 47) (n 48)) sz) := by
  refine Met.ofW (cc := cX10_seen) (maxL := 3) (ret := (some .int)) (by decide) rfl ?_
  intro p e s m args below meth c s₁ B hml hv
  obtain ⟨rfl, hsz, hP, hK, hD0, hN⟩ := hv
  have hx := B.exec
  have hb := B.bytes
  have hr := B.returns
  have hts := atoms_spec (ws := .code yX10_seen cX10_seen 3 (some .int) :: gw) B.pre
  have hg : ∀ w ∈ gw, w.before _ s = true := fun w h => hts w (List.mem_cons_of_mem _ h)
  have hown : s.vm.findClass RX10 = some m.cls := findClass_of_methodNamed B.named
  have hlocks := B.notSynchronized
  subst hsz
  have hD := hD0.self (sz := s.heap.size)
  generalize hAe : va_A (w10 h0 X C (F 0) (F 1) (F 2) (F 3) (F 4) (F 5) (F 6) (F 7) (F 8) (F 10) (F 13) (F 14) (F 15) (F 16) (F 17) (F 18) (F 19) (F 20) (F 21) (F 22) (F 23) (F 24) (F 25) (F 26) (F 27) (F 28) (F 29) (F 30) (F 31) (F 32) (F 33) (F 34) (F 35) (F 36) (F 37) (F 38) (F 39) (F 40) (F 41) (F 42) (F 43) (F 49) (F 50) (F 51) (F 52) (F 53) (F 54) (F 55) (F 56) (F 57) (F 58) (F 59) (n 9) (n 11) (n 12) (n 44) (n 45) (n 46) (n 47) (n 48)) s.heap.size = A at hD ⊢
  have hA : ∀ q : Nat, s.heap.size ≤ q → A q := fun q h => by rw [← hAe]; exact Or.inr h
  have hS : va_S A s.heap s.heap [] := va_S.rf
  have hP : va_P (dC, dI) vwCl (w10 h0 X C (F 0) (F 1) (F 2) (F 3) (F 4) (F 5) (F 6) (F 7) (F 8) (F 10) (F 13) (F 14) (F 15) (F 16) (F 17) (F 18) (F 19) (F 20) (F 21) (F 22) (F 23) (F 24) (F 25) (F 26) (F 27) (F 28) (F 29) (F 30) (F 31) (F 32) (F 33) (F 34) (F 35) (F 36) (F 37) (F 38) (F 39) (F 40) (F 41) (F 42) (F 43) (F 49) (F 50) (F 51) (F 52) (F 53) (F 54) (F 55) (F 56) (F 57) (F 58) (F 59) (n 9) (n 11) (n 12) (n 44) (n 45) (n 46) (n 47) (n 48)) s.heap := hP
  have hl := lv_entry ([.ref h0, .int v1, .int v2]) (n := 3) (Nat.le_of_ble_eq_true rfl)
  rw [lg_entry_eq]
  generalize (lg_sl ([.ref h0, .int v1, .int v2]) ++ List.replicate (3 - (lg_sl ([.ref h0, .int v1, .int v2])).length) Slot.unset).toArray = ls at hl ⊢
  have hl : lv_has ls 3 [(0, .ref h0), (1, .int v1), (2, .int v2)] := hl
  obtain ⟨b_1, b_2, b_3, b_4, b_5, b_6, b_7, b_8, b_9, b_10, b_11, b_12, i_13, i_14, i_15, i_16, i_17, i_18, i_19, j_20, j_21, j_22, j_23, j_24, j_25, j_26, j_27, j_28, j_29⟩ := id hI
  refine lv_iload_n hx hb dX10_seen_0 rfl (lv_at hl 1 rfl) ?_
  refine lv_if_lt (tgt := 19) hx hb dX10_seen_1 (by decide) (fun c_30 => ?_) (fun c_30 => ?_)
  · simp only [i_lt, i_le, i_eq, ti_0] at c_30
    refine lv_iconst (v := -1) hx hb dX10_seen_19 (by decide) ?_
    exact W.iret (v := -1) hx hb hr (fun t ht hW => ⟨⟨-1, (), rfl, trivial, by rw [ht]; exact hP, hD⟩, hS.F ht⟩) hS.2.2 dX10_seen_20
  · simp only [i_lt, i_le, i_eq, ti_0] at c_30
    refine lv_iload_n hx hb dX10_seen_4 rfl (lv_at hl 1 rfl) ?_
    refine lv_aload_n hx hb dX10_seen_5 rfl (lv_at hl 0 rfl) ?_
    refine va_get (D := (dC, dI)) (ci := 10) (v := .int (n 45)) (C := RX10) (T := TX10) (N := 60) hx hb hg gb_10 hown hK hP 0 rfl rfl 45 (by decide) (hg _ gm_fieldLink_RX10_189_ErrandGuildModel_seenMany_I_) (fun _ h9 => h9) rfl dX10_seen_6 ?_
    refine lv_icmp_ge (tgt := 19) hx hb dX10_seen_9 (by decide) (fun c_31 => ?_) (fun c_31 => ?_)
    · simp only [i_lt, i_le, i_eq] at c_31
      refine lv_iconst (v := -1) hx hb dX10_seen_19 (by decide) ?_
      exact W.iret (v := -1) hx hb hr (fun t ht hW => ⟨⟨-1, (), rfl, trivial, by rw [ht]; exact hP, hD⟩, hS.F ht⟩) hS.2.2 dX10_seen_20
    · simp only [i_lt, i_le, i_eq] at c_31
      refine lv_iload_n hx hb dX10_seen_12 rfl (lv_at hl 1 rfl) ?_
      refine lv_sipush (v := 1000) hx hb dX10_seen_13 (by decide) ?_
      refine lv_icmp_lt (tgt := 21) hx hb dX10_seen_16 (by decide) (fun c_32 => ?_) (fun c_32 => ?_)
      · simp only [i_lt, i_le, i_eq, ti_1000] at c_32
        refine lv_iload_n hx hb dX10_seen_21 rfl (lv_at hl 2 rfl) ?_
        rcases (show (v2.toInt < 0 ∨ 3 < v2.toInt) ∨ v2.toInt = 0 ∨ v2.toInt = 1 ∨ v2.toInt = 2 ∨ v2.toInt = 3 by omega) with sw_33 | sw_33 | sw_33 | sw_33 | sw_33
        · refine lv_tableOut (tgt := 80) hx hb dX10_seen_22 sw_33 (by decide) ?_
          refine lv_iconst (v := -1) hx hb dX10_seen_80 (by decide) ?_
          exact W.iret (v := -1) hx hb hr (fun t ht hW => ⟨⟨-1, (), rfl, trivial, by rw [ht]; exact hP, hD⟩, hS.F ht⟩) hS.2.2 dX10_seen_81
        · refine lv_tableIn (tgt := 52) hx hb dX10_seen_22 (by omega) (by omega) (by rw [sw_33]; rfl) (by decide) ?_
          refine lv_aload_n hx hb dX10_seen_52 rfl (lv_at hl 0 rfl) ?_
          refine va_get (D := (dC, dI)) (ci := 10) (v := .ref (X 49)) (C := RX10) (T := TX10) (N := 60) hx hb hg gb_10 hown hK hP 0 rfl rfl 49 (by decide) (hg _ gm_fieldLink_RX10_138_ErrandGuildModel_seenRun_AI_) (fun _ h9 => h9) rfl dX10_seen_53 ?_
          refine lv_iload_n hx hb dX10_seen_56 rfl (lv_at hl 1 rfl) ?_
          refine va_iald (f := F 49) hx hb hK hP 42 41 rfl rfl (vp_in_iff.mpr ⟨by omega, by omega⟩) dX10_seen_57 ?_
          refine lv_topi (fun z_34 ez_34 => ?_)
          have qz_34 := congrArg Int32.toInt ez_34
          exact W.iret (v := z_34) hx hb hr (fun t ht hW => ⟨⟨z_34, (), rfl, trivial, by rw [ht]; exact hP, hD⟩, hS.F ht⟩) hS.2.2 dX10_seen_58
        · refine lv_tableIn (tgt := 59) hx hb dX10_seen_22 (by omega) (by omega) (by rw [sw_33]; rfl) (by decide) ?_
          refine lv_aload_n hx hb dX10_seen_59 rfl (lv_at hl 0 rfl) ?_
          refine va_get (D := (dC, dI)) (ci := 10) (v := .ref (X 50)) (C := RX10) (T := TX10) (N := 60) hx hb hg gb_10 hown hK hP 0 rfl rfl 50 (by decide) (hg _ gm_fieldLink_RX10_141_ErrandGuildModel_seenSlot_AI_) (fun _ h9 => h9) rfl dX10_seen_60 ?_
          refine lv_iload_n hx hb dX10_seen_63 rfl (lv_at hl 1 rfl) ?_
          refine va_iald (f := F 50) hx hb hK hP 43 42 rfl rfl (vp_in_iff.mpr ⟨by omega, by omega⟩) dX10_seen_64 ?_
          refine lv_topi (fun z_35 ez_35 => ?_)
          have qz_35 := congrArg Int32.toInt ez_35
          exact W.iret (v := z_35) hx hb hr (fun t ht hW => ⟨⟨z_35, (), rfl, trivial, by rw [ht]; exact hP, hD⟩, hS.F ht⟩) hS.2.2 dX10_seen_65
        · refine lv_tableIn (tgt := 66) hx hb dX10_seen_22 (by omega) (by omega) (by rw [sw_33]; rfl) (by decide) ?_
          refine lv_aload_n hx hb dX10_seen_66 rfl (lv_at hl 0 rfl) ?_
          refine va_get (D := (dC, dI)) (ci := 10) (v := .ref (X 51)) (C := RX10) (T := TX10) (N := 60) hx hb hg gb_10 hown hK hP 0 rfl rfl 51 (by decide) (hg _ gm_fieldLink_RX10_144_ErrandGuildModel_seenValue_AI_) (fun _ h9 => h9) rfl dX10_seen_67 ?_
          refine lv_iload_n hx hb dX10_seen_70 rfl (lv_at hl 1 rfl) ?_
          refine va_iald (f := F 51) hx hb hK hP 44 43 rfl rfl (vp_in_iff.mpr ⟨by omega, by omega⟩) dX10_seen_71 ?_
          refine lv_topi (fun z_36 ez_36 => ?_)
          have qz_36 := congrArg Int32.toInt ez_36
          exact W.iret (v := z_36) hx hb hr (fun t ht hW => ⟨⟨z_36, (), rfl, trivial, by rw [ht]; exact hP, hD⟩, hS.F ht⟩) hS.2.2 dX10_seen_72
        · refine lv_tableIn (tgt := 73) hx hb dX10_seen_22 (by omega) (by omega) (by rw [sw_33]; rfl) (by decide) ?_
          refine lv_aload_n hx hb dX10_seen_73 rfl (lv_at hl 0 rfl) ?_
          refine va_get (D := (dC, dI)) (ci := 10) (v := .ref (X 52)) (C := RX10) (T := TX10) (N := 60) hx hb hg gb_10 hown hK hP 0 rfl rfl 52 (by decide) (hg _ gm_fieldLink_RX10_147_ErrandGuildModel_seenStep_AI_) (fun _ h9 => h9) rfl dX10_seen_74 ?_
          refine lv_iload_n hx hb dX10_seen_77 rfl (lv_at hl 1 rfl) ?_
          refine va_iald (f := F 52) hx hb hK hP 45 44 rfl rfl (vp_in_iff.mpr ⟨by omega, by omega⟩) dX10_seen_78 ?_
          refine lv_topi (fun z_37 ez_37 => ?_)
          have qz_37 := congrArg Int32.toInt ez_37
          exact W.iret (v := z_37) hx hb hr (fun t ht hW => ⟨⟨z_37, (), rfl, trivial, by rw [ht]; exact hP, hD⟩, hS.F ht⟩) hS.2.2 dX10_seen_79
      · simp only [i_lt, i_le, i_eq, ti_1000] at c_32
        refine lv_iconst (v := -1) hx hb dX10_seen_19 (by decide) ?_
        exact W.iret (v := -1) hx hb hr (fun t ht hW => ⟨⟨-1, (), rfl, trivial, by rw [ht]; exact hP, hD⟩, hS.F ht⟩) hS.2.2 dX10_seen_20

set_option maxHeartbeats 8000000 in
set_option maxRecDepth 100000 in
theorem c_X10_remark (l : Launch) (dC : Nat → ClassId) (dI : Nat → Nat → Nat) (kp : Int) (h0 : Nat) (X : Nat → Nat) (C : Nat → ClassId) (F : Nat → Nat → Int32) (n : Nat → Int32) (v1 : Int32) (v2 : Int32) (sz : Nat) (hI : I10 kp F n) : Met l yX10_remark (.code yX10_remark cX10_remark 5 (some .int) :: gw) ({ frames := 0, cells := 0, slots := 0, locals := 0 }) (va_Pc [.ref h0, .int v1, .int v2] (fun U => U.heap.size = sz ∧ va_P (dC, dI) vwCl (w10 h0 X C (F 0) (F 1) (F 2) (F 3) (F 4) (F 5) (F 6) (F 7) (F 8) (F 10) (F 13) (F 14) (F 15) (F 16) (F 17) (F 18) (F 19) (F 20) (F 21) (F 22) (F 23) (F 24) (F 25) (F 26) (F 27) (F 28) (F 29) (F 30) (F 31) (F 32) (F 33) (F 34) (F 35) (F 36) (F 37) (F 38) (F 39) (F 40) (F 41) (F 42) (F 43) (F 49) (F 50) (F 51) (F 52) (F 53) (F 54) (F 55) (F 56) (F 57) (F 58) (F 59) (n 9) (n 11) (n 12) (n 44) (n 45) (n 46) (n 47) (n 48)) U.heap ∧ va_K (dC, dI) vwCl (t10 C) U ∧ va_D (fun _ => True) (w10 h0 X C (F 0) (F 1) (F 2) (F 3) (F 4) (F 5) (F 6) (F 7) (F 8) (F 10) (F 13) (F 14) (F 15) (F 16) (F 17) (F 18) (F 19) (F 20) (F 21) (F 22) (F 23) (F 24) (F 25) (F 26) (F 27) (F 28) (F 29) (F 30) (F 31) (F 32) (F 33) (F 34) (F 35) (F 36) (F 37) (F 38) (F 39) (F 40) (F 41) (F 42) (F 43) (F 49) (F 50) (F 51) (F 52) (F 53) (F 54) (F 55) (F 56) (F 57) (F 58) (F 59) (n 9) (n 11) (n 12) (n 44) (n 45) (n 46) (n 47) (n 48)) ∧ nx U)) (va_Qi (fun (r : Int32) (u : Unit) => True) (fun _ t => va_P (dC, dI) vwCl (w10 h0 X C (F 0) (F 1) (F 2) (F 3) (F 4) (F 5) (F 6) (F 7) (F 8) (F 10) (F 13) (F 14) (F 15) (F 16) (F 17) (F 18) (F 19) (F 20) (F 21) (F 22) (F 23) (F 24) (F 25) (F 26) (F 27) (F 28) (F 29) (F 30) (F 31) (F 32) (F 33) (F 34) (F 35) (F 36) (F 37) (F 38) (F 39) (F 40) (F 41) (F 42) (F 43) (F 49) (F 50) (F 51) (F 52) (F 53) (F 54) (F 55) (F 56) (F 57) (F 58) (F 59) (n 9) (n 11) (n 12) (n 44) (n 45) (n 46) (n 47) (n 48)) t.heap ∧ va_D (va_A (w10 h0 X C (F 0) (F 1) (F 2) (F 3) (F 4) (F 5) (F 6) (F 7) (F 8) (F 10) (F 13) (F 14) (F 15) (F 16) (F 17) (F 18) (F 19) (F 20) (F 21) (F 22) (F 23) (F 24) (F 25) (F 26) (F 27) (F 28) (F 29) (F 30) (F 31) (F 32) (F 33) (F 34) (F 35) (F 36) (F 37) (F 38) (F 39) (F 40) (F 41) (F 42) (F 43) (F 49) (F 50) (F 51) (F 52) (F 53) (F 54) (F 55) (F 56) (F 57) (F 58) (F 59) (n 9) (n 11) (n 12) (n 44) (n 45) (n 46) (n 47) (n 48)) sz) (w10 h0 X C (F 0) (F 1) (F 2) (F 3) (F 4) (F 5) (F 6) (F 7) (F 8) (F 10) (F 13) (F 14) (F 15) (F 16) (F 17) (F 18) (F 19) (F 20) (F 21) (F 22) (F 23) (F 24) (F 25) (F 26) (F 27) (F 28) (F 29) (F 30) (F 31) (F 32) (F 33) (F 34) (F 35) (F 36) (F 37) (F 38) (F 39) (F 40) (F 41) (F 42) (F 43) (F 49) (F 50) (F 51) (F 52) (F 53) (F 54) (F 55) (F 56) (F 57) (F 58) (F 59) (n 9) (n 11) (n 12) (n 44) (n 45) (n 46) (n 47) (n 48))) (va_A (w10 h0 X C (F 0) (F 1) (F 2) (F 3) (F 4) (F 5) (F 6) (F 7) (F 8) (F 10) (F 13) (F 14) (F 15) (F 16) (F 17) (F 18) (F 19) (F 20) (F 21) (F 22) (F 23) (F 24) (F 25) (F 26) (F 27) (F 28) (F 29) (F 30) (F 31) (F 32) (F 33) (F 34) (F 35) (F 36) (F 37) (F 38) (F 39) (F 40) (F 41) (F 42) (F 43) (F 49) (F 50) (F 51) (F 52) (F 53) (F 54) (F 55) (F 56) (F 57) (F 58) (F 59) (n 9) (n 11) (n 12) (n 44) (n 45) (n 46) (n 47) (n 48)) sz)) 0 0 (va_A (w10 h0 X C (F 0) (F 1) (F 2) (F 3) (F 4) (F 5) (F 6) (F 7) (F 8) (F 10) (F 13) (F 14) (F 15) (F 16) (F 17) (F 18) (F 19) (F 20) (F 21) (F 22) (F 23) (F 24) (F 25) (F 26) (F 27) (F 28) (F 29) (F 30) (F 31) (F 32) (F 33) (F 34) (F 35) (F 36) (F 37) (F 38) (F 39) (F 40) (F 41) (F 42) (F 43) (F 49) (F 50) (F 51) (F 52) (F 53) (F 54) (F 55) (F 56) (F 57) (F 58) (F 59) (n 9) (n 11) (n 12) (n 44) (n 45) (n 46) (n 47) (n 48)) sz) := by
  refine Met.ofW (cc := cX10_remark) (maxL := 5) (ret := (some .int)) (by decide) rfl ?_
  intro p e s m args below meth c s₁ B hml hv
  obtain ⟨rfl, hsz, hP, hK, hD0, hN⟩ := hv
  have hx := B.exec
  have hb := B.bytes
  have hr := B.returns
  have hts := atoms_spec (ws := .code yX10_remark cX10_remark 5 (some .int) :: gw) B.pre
  have hg : ∀ w ∈ gw, w.before _ s = true := fun w h => hts w (List.mem_cons_of_mem _ h)
  have hown : s.vm.findClass RX10 = some m.cls := findClass_of_methodNamed B.named
  have hlocks := B.notSynchronized
  subst hsz
  have hD := hD0.self (sz := s.heap.size)
  generalize hAe : va_A (w10 h0 X C (F 0) (F 1) (F 2) (F 3) (F 4) (F 5) (F 6) (F 7) (F 8) (F 10) (F 13) (F 14) (F 15) (F 16) (F 17) (F 18) (F 19) (F 20) (F 21) (F 22) (F 23) (F 24) (F 25) (F 26) (F 27) (F 28) (F 29) (F 30) (F 31) (F 32) (F 33) (F 34) (F 35) (F 36) (F 37) (F 38) (F 39) (F 40) (F 41) (F 42) (F 43) (F 49) (F 50) (F 51) (F 52) (F 53) (F 54) (F 55) (F 56) (F 57) (F 58) (F 59) (n 9) (n 11) (n 12) (n 44) (n 45) (n 46) (n 47) (n 48)) s.heap.size = A at hD ⊢
  have hA : ∀ q : Nat, s.heap.size ≤ q → A q := fun q h => by rw [← hAe]; exact Or.inr h
  have hS : va_S A s.heap s.heap [] := va_S.rf
  have hP : va_P (dC, dI) vwCl (w10 h0 X C (F 0) (F 1) (F 2) (F 3) (F 4) (F 5) (F 6) (F 7) (F 8) (F 10) (F 13) (F 14) (F 15) (F 16) (F 17) (F 18) (F 19) (F 20) (F 21) (F 22) (F 23) (F 24) (F 25) (F 26) (F 27) (F 28) (F 29) (F 30) (F 31) (F 32) (F 33) (F 34) (F 35) (F 36) (F 37) (F 38) (F 39) (F 40) (F 41) (F 42) (F 43) (F 49) (F 50) (F 51) (F 52) (F 53) (F 54) (F 55) (F 56) (F 57) (F 58) (F 59) (n 9) (n 11) (n 12) (n 44) (n 45) (n 46) (n 47) (n 48)) s.heap := hP
  have hl := lv_entry ([.ref h0, .int v1, .int v2]) (n := 5) (Nat.le_of_ble_eq_true rfl)
  rw [lg_entry_eq]
  generalize (lg_sl ([.ref h0, .int v1, .int v2]) ++ List.replicate (5 - (lg_sl ([.ref h0, .int v1, .int v2])).length) Slot.unset).toArray = ls at hl ⊢
  have hl : lv_has ls 5 [(0, .ref h0), (1, .int v1), (2, .int v2)] := hl
  obtain ⟨b_1, b_2, b_3, b_4, b_5, b_6, b_7, b_8, b_9, b_10, b_11, b_12, i_13, i_14, i_15, i_16, i_17, i_18, i_19, j_20, j_21, j_22, j_23, j_24, j_25, j_26, j_27, j_28, j_29⟩ := id hI
  refine lv_iconst (v := 0) hx hb dX10_remark_0 (by decide) ?_
  refine lv_istore_n (lv' := [(3, .int 0), (0, .ref h0), (1, .int v1), (2, .int v2)]) hx hb dX10_remark_1 rfl hl (by decide) rfl (fun ls hl => ?_)
  refine lv_iconst (v := 0) hx hb dX10_remark_2 (by decide) ?_
  refine lv_istore (lv' := [(4, .int 0), (3, .int 0), (0, .ref h0), (1, .int v1), (2, .int v2)]) hx hb dX10_remark_3 hl (by decide) rfl (fun ls hl => ?_)
  have L5 : ∀ (fuel : Nat) (x_30 : Int32) (x_31 : Int32) (H : Heap) (locs : List Loc) (ls : Array Slot), (310001 - x_31.toInt).toNat < fuel → (0 ≤ x_31.toInt ∧ x_31.toInt ≤ 310000) → (0 ≤ x_30.toInt ∧ x_30.toInt ≤ x_31.toInt) → va_P (dC, dI) vwCl (w10 h0 X C (F 0) (F 1) (F 2) (F 3) (F 4) (F 5) (F 6) (F 7) (F 8) (F 10) (F 13) (F 14) (F 15) (F 16) (F 17) (F 18) (F 19) (F 20) (F 21) (F 22) (F 23) (F 24) (F 25) (F 26) (F 27) (F 28) (F 29) (F 30) (F 31) (F 32) (F 33) (F 34) (F 35) (F 36) (F 37) (F 38) (F 39) (F 40) (F 41) (F 42) (F 43) (F 49) (F 50) (F 51) (F 52) (F 53) (F 54) (F 55) (F 56) (F 57) (F 58) (F 59) (n 9) (n 11) (n 12) (n 44) (n 45) (n 46) (n 47) (n 48)) H → va_D A (w10 h0 X C (F 0) (F 1) (F 2) (F 3) (F 4) (F 5) (F 6) (F 7) (F 8) (F 10) (F 13) (F 14) (F 15) (F 16) (F 17) (F 18) (F 19) (F 20) (F 21) (F 22) (F 23) (F 24) (F 25) (F 26) (F 27) (F 28) (F 29) (F 30) (F 31) (F 32) (F 33) (F 34) (F 35) (F 36) (F 37) (F 38) (F 39) (F 40) (F 41) (F 42) (F 43) (F 49) (F 50) (F 51) (F 52) (F 53) (F 54) (F 55) (F 56) (F 57) (F 58) (F 59) (n 9) (n 11) (n 12) (n 44) (n 45) (n 46) (n 47) (n 48)) → va_S A s.heap H locs → lv_has ls 5 [(4, .int x_31), (3, .int x_30), (0, .ref h0), (1, .int v1), (2, .int v2)] → W p l e (headSpec (.code yX10_remark cX10_remark 5 (some .int) :: gw) ({ frames := 0, cells := 0, slots := 0, locals := 0 })).room s m ([.ref h0, .int v1, .int v2] : List Value).toArray below meth c H locs 0 0 (MQ below (va_Qi (fun (r : Int32) (u : Unit) => True) (fun _ t => va_P (dC, dI) vwCl (w10 h0 X C (F 0) (F 1) (F 2) (F 3) (F 4) (F 5) (F 6) (F 7) (F 8) (F 10) (F 13) (F 14) (F 15) (F 16) (F 17) (F 18) (F 19) (F 20) (F 21) (F 22) (F 23) (F 24) (F 25) (F 26) (F 27) (F 28) (F 29) (F 30) (F 31) (F 32) (F 33) (F 34) (F 35) (F 36) (F 37) (F 38) (F 39) (F 40) (F 41) (F 42) (F 43) (F 49) (F 50) (F 51) (F 52) (F 53) (F 54) (F 55) (F 56) (F 57) (F 58) (F 59) (n 9) (n 11) (n 12) (n 44) (n 45) (n 46) (n 47) (n 48)) t.heap ∧ va_D A (w10 h0 X C (F 0) (F 1) (F 2) (F 3) (F 4) (F 5) (F 6) (F 7) (F 8) (F 10) (F 13) (F 14) (F 15) (F 16) (F 17) (F 18) (F 19) (F 20) (F 21) (F 22) (F 23) (F 24) (F 25) (F 26) (F 27) (F 28) (F 29) (F 30) (F 31) (F 32) (F 33) (F 34) (F 35) (F 36) (F 37) (F 38) (F 39) (F 40) (F 41) (F 42) (F 43) (F 49) (F 50) (F 51) (F 52) (F 53) (F 54) (F 55) (F 56) (F 57) (F 58) (F 59) (n 9) (n 11) (n 12) (n 44) (n 45) (n 46) (n 47) (n 48))) A) ([.ref h0, .int v1, .int v2] : List Value).toArray s 0 0 A) (F0 m 5 ls []) := by
    intro fuel
    induction fuel with
    | zero => intro x_30 x_31 H locs ls hm; exact absurd hm (Nat.not_lt_zero _)
    | succ fuel_33 ih_32 =>
      intro x_30 x_31 H locs ls hm_36 v_34 v_35 hP hD hS hl
      refine lv_iload hx hb dX10_remark_5 (lv_at hl 0 rfl) ?_
      refine lv_aload_n hx hb dX10_remark_7 rfl (lv_at hl 2 rfl) ?_
      refine va_get (D := (dC, dI)) (ci := 10) (v := .int (n 46)) (C := RX10) (T := TX10) (N := 60) hx hb hg gb_10 hown hK hP 0 rfl rfl 46 (by decide) (hg _ gm_fieldLink_RX10_192_ErrandGuildModel_remarkMany_I_) (fun _ h9 => h9) rfl dX10_remark_8 ?_
      refine lv_icmp_ge (tgt := 55) hx hb dX10_remark_11 (by decide) (fun c_37 => ?_) (fun c_37 => ?_)
      · simp only [i_lt, i_le, i_eq] at c_37
        refine lv_iconst (v := 0) hx hb dX10_remark_55 (by decide) ?_
        exact W.iret (v := 0) hx hb hr (fun t ht hW => ⟨⟨0, (), rfl, trivial, by rw [ht]; exact hP, hD⟩, hS.F ht⟩) hS.2.2 dX10_remark_56
      · simp only [i_lt, i_le, i_eq] at c_37
        refine lv_iload_n hx hb dX10_remark_14 rfl (lv_at hl 4 rfl) ?_
        refine lv_if_lt (tgt := 55) hx hb dX10_remark_15 (by decide) (fun c_38 => ?_) (fun c_38 => ?_)
        · simp only [i_lt, i_le, i_eq, ti_0] at c_38
          refine lv_iconst (v := 0) hx hb dX10_remark_55 (by decide) ?_
          exact W.iret (v := 0) hx hb hr (fun t ht hW => ⟨⟨0, (), rfl, trivial, by rw [ht]; exact hP, hD⟩, hS.F ht⟩) hS.2.2 dX10_remark_56
        · simp only [i_lt, i_le, i_eq, ti_0] at c_38
          refine lv_aload_n hx hb dX10_remark_18 rfl (lv_at hl 2 rfl) ?_
          refine va_get (D := (dC, dI)) (ci := 10) (v := .ref (X 53)) (C := RX10) (T := TX10) (N := 60) hx hb hg gb_10 hown hK hP 0 rfl rfl 53 (by decide) (hg _ gm_fieldLink_RX10_151_ErrandGuildModel_remarkRoot_AI_) (fun _ h9 => h9) rfl dX10_remark_19 ?_
          refine lv_iload hx hb dX10_remark_22 (lv_at hl 0 rfl) ?_
          refine va_iald (f := F 53) hx hb hK hP 46 45 rfl rfl (vp_in_iff.mpr ⟨by omega, by omega⟩) dX10_remark_24 ?_
          refine lv_topi (fun z_39 ez_39 => ?_)
          have qz_39 := congrArg Int32.toInt ez_39
          refine lv_iload_n hx hb dX10_remark_25 rfl (lv_at hl 3 rfl) ?_
          refine lv_icmp_eq (tgt := 32) hx hb dX10_remark_26 (by decide) (fun c_40 => ?_) (fun c_40 => ?_)
          · simp only [i_lt, i_le, i_eq] at c_40
            refine lv_iload_n hx hb dX10_remark_32 rfl (lv_at hl 1 rfl) ?_
            refine lv_iload_n hx hb dX10_remark_33 rfl (lv_at hl 4 rfl) ?_
            refine lv_icmp_ne (tgt := 45) hx hb dX10_remark_34 (by decide) (fun c_41 => ?_) (fun c_41 => ?_)
            · simp only [i_lt, i_le, i_eq] at c_41
              refine lv_iload_n hx hb dX10_remark_45 rfl (lv_at hl 1 rfl) ?_
              refine lv_iconst (v := 1) hx hb dX10_remark_46 (by decide) ?_
              refine lv_iadd hx hb dX10_remark_47 ?_
              refine lv_topi (fun z_42 ez_42 => ?_)
              have tz_42 : z_42.toInt = x_30.toInt + 1 := ar_add rfl ti_1 ez_42 (by omega)
              refine lv_istore_n (lv' := [(3, .int z_42), (4, .int x_31), (0, .ref h0), (1, .int v1), (2, .int v2)]) hx hb dX10_remark_48 rfl hl (by decide) rfl (fun ls hl => ?_)
              obtain ⟨y_43, ey_43⟩ : ∃ q : Int32, q = x_31 + (1) := ⟨_, rfl⟩
              refine lv_iinc (v := y_43) (lv' := [(4, .int y_43), (3, .int z_42), (0, .ref h0), (1, .int v1), (2, .int v2)]) hx hb dX10_remark_49 hl (k := 1) rfl (by rw [ey_43]; rfl) (by decide) rfl (fun ls hl => ?_)
              have ty_43 : y_43.toInt = x_31.toInt + (1) := ar_add rfl ti_1 ey_43 (by omega)
              refine lv_goto (tgt := 5) hx hb dX10_remark_52 (by decide) ?_
              exact ih_32 z_42 y_43 H locs ls (by omega) (by omega) (by omega) hP hD hS (lv_sub hl [0, 1, 2, 3, 4] rfl)
            · simp only [i_lt, i_le, i_eq] at c_41
              refine lv_aload_n hx hb dX10_remark_37 rfl (lv_at hl 2 rfl) ?_
              refine va_get (D := (dC, dI)) (ci := 10) (v := .ref (X 54)) (C := RX10) (T := TX10) (N := 60) hx hb hg gb_10 hown hK hP 0 rfl rfl 54 (by decide) (hg _ gm_fieldLink_RX10_154_ErrandGuildModel_remarkValue_AI_) (fun _ h9 => h9) rfl dX10_remark_38 ?_
              refine lv_iload hx hb dX10_remark_41 (lv_at hl 0 rfl) ?_
              refine va_iald (f := F 54) hx hb hK hP 47 46 rfl rfl (vp_in_iff.mpr ⟨by omega, by omega⟩) dX10_remark_43 ?_
              refine lv_topi (fun z_44 ez_44 => ?_)
              have qz_44 := congrArg Int32.toInt ez_44
              exact W.iret (v := z_44) hx hb hr (fun t ht hW => ⟨⟨z_44, (), rfl, trivial, by rw [ht]; exact hP, hD⟩, hS.F ht⟩) hS.2.2 dX10_remark_44
          · simp only [i_lt, i_le, i_eq] at c_40
            refine lv_goto (tgt := 49) hx hb dX10_remark_29 (by decide) ?_
            obtain ⟨y_45, ey_45⟩ : ∃ q : Int32, q = x_31 + (1) := ⟨_, rfl⟩
            refine lv_iinc (v := y_45) (lv' := [(4, .int y_45), (3, .int x_30), (0, .ref h0), (1, .int v1), (2, .int v2)]) hx hb dX10_remark_49 hl (k := 0) rfl (by rw [ey_45]; rfl) (by decide) rfl (fun ls hl => ?_)
            have ty_45 : y_45.toInt = x_31.toInt + (1) := ar_add rfl ti_1 ey_45 (by omega)
            refine lv_goto (tgt := 5) hx hb dX10_remark_52 (by decide) ?_
            exact ih_32 x_30 y_45 H locs ls (by omega) (by omega) (by omega) hP hD hS (lv_sub hl [0, 1, 2, 3, 4] rfl)
  exact L5 _ (0) (0) _ _ _ (Nat.lt_succ_self _) (by have t_0 := ti_0; have t_1 := ti_0; omega) (by have t_0 := ti_0; have t_1 := ti_0; omega) hP hD hS (lv_sub hl [0, 1, 2, 3, 4] rfl)

set_option maxHeartbeats 8000000 in
set_option maxRecDepth 100000 in
theorem c_X10_handled (l : Launch) (dC : Nat → ClassId) (dI : Nat → Nat → Nat) (kp : Int) (h0 : Nat) (X : Nat → Nat) (C : Nat → ClassId) (F : Nat → Nat → Int32) (n : Nat → Int32) (v1 : Int32) (v2 : Int32) (sz : Nat) (hI : I10 kp F n) : Met l yX10_handled (.code yX10_handled cX10_handled 3 (some .int) :: gw) ({ frames := 0, cells := 0, slots := 0, locals := 0 }) (va_Pc [.ref h0, .int v1, .int v2] (fun U => U.heap.size = sz ∧ va_P (dC, dI) vwCl (w10 h0 X C (F 0) (F 1) (F 2) (F 3) (F 4) (F 5) (F 6) (F 7) (F 8) (F 10) (F 13) (F 14) (F 15) (F 16) (F 17) (F 18) (F 19) (F 20) (F 21) (F 22) (F 23) (F 24) (F 25) (F 26) (F 27) (F 28) (F 29) (F 30) (F 31) (F 32) (F 33) (F 34) (F 35) (F 36) (F 37) (F 38) (F 39) (F 40) (F 41) (F 42) (F 43) (F 49) (F 50) (F 51) (F 52) (F 53) (F 54) (F 55) (F 56) (F 57) (F 58) (F 59) (n 9) (n 11) (n 12) (n 44) (n 45) (n 46) (n 47) (n 48)) U.heap ∧ va_K (dC, dI) vwCl (t10 C) U ∧ va_D (fun _ => True) (w10 h0 X C (F 0) (F 1) (F 2) (F 3) (F 4) (F 5) (F 6) (F 7) (F 8) (F 10) (F 13) (F 14) (F 15) (F 16) (F 17) (F 18) (F 19) (F 20) (F 21) (F 22) (F 23) (F 24) (F 25) (F 26) (F 27) (F 28) (F 29) (F 30) (F 31) (F 32) (F 33) (F 34) (F 35) (F 36) (F 37) (F 38) (F 39) (F 40) (F 41) (F 42) (F 43) (F 49) (F 50) (F 51) (F 52) (F 53) (F 54) (F 55) (F 56) (F 57) (F 58) (F 59) (n 9) (n 11) (n 12) (n 44) (n 45) (n 46) (n 47) (n 48)) ∧ nx U)) (va_Qi (fun (r : Int32) (u : Unit) => True) (fun _ t => va_P (dC, dI) vwCl (w10 h0 X C (F 0) (F 1) (F 2) (F 3) (F 4) (F 5) (F 6) (F 7) (F 8) (F 10) (F 13) (F 14) (F 15) (F 16) (F 17) (F 18) (F 19) (F 20) (F 21) (F 22) (F 23) (F 24) (F 25) (F 26) (F 27) (F 28) (F 29) (F 30) (F 31) (F 32) (F 33) (F 34) (F 35) (F 36) (F 37) (F 38) (F 39) (F 40) (F 41) (F 42) (F 43) (F 49) (F 50) (F 51) (F 52) (F 53) (F 54) (F 55) (F 56) (F 57) (F 58) (F 59) (n 9) (n 11) (n 12) (n 44) (n 45) (n 46) (n 47) (n 48)) t.heap ∧ va_D (va_A (w10 h0 X C (F 0) (F 1) (F 2) (F 3) (F 4) (F 5) (F 6) (F 7) (F 8) (F 10) (F 13) (F 14) (F 15) (F 16) (F 17) (F 18) (F 19) (F 20) (F 21) (F 22) (F 23) (F 24) (F 25) (F 26) (F 27) (F 28) (F 29) (F 30) (F 31) (F 32) (F 33) (F 34) (F 35) (F 36) (F 37) (F 38) (F 39) (F 40) (F 41) (F 42) (F 43) (F 49) (F 50) (F 51) (F 52) (F 53) (F 54) (F 55) (F 56) (F 57) (F 58) (F 59) (n 9) (n 11) (n 12) (n 44) (n 45) (n 46) (n 47) (n 48)) sz) (w10 h0 X C (F 0) (F 1) (F 2) (F 3) (F 4) (F 5) (F 6) (F 7) (F 8) (F 10) (F 13) (F 14) (F 15) (F 16) (F 17) (F 18) (F 19) (F 20) (F 21) (F 22) (F 23) (F 24) (F 25) (F 26) (F 27) (F 28) (F 29) (F 30) (F 31) (F 32) (F 33) (F 34) (F 35) (F 36) (F 37) (F 38) (F 39) (F 40) (F 41) (F 42) (F 43) (F 49) (F 50) (F 51) (F 52) (F 53) (F 54) (F 55) (F 56) (F 57) (F 58) (F 59) (n 9) (n 11) (n 12) (n 44) (n 45) (n 46) (n 47) (n 48))) (va_A (w10 h0 X C (F 0) (F 1) (F 2) (F 3) (F 4) (F 5) (F 6) (F 7) (F 8) (F 10) (F 13) (F 14) (F 15) (F 16) (F 17) (F 18) (F 19) (F 20) (F 21) (F 22) (F 23) (F 24) (F 25) (F 26) (F 27) (F 28) (F 29) (F 30) (F 31) (F 32) (F 33) (F 34) (F 35) (F 36) (F 37) (F 38) (F 39) (F 40) (F 41) (F 42) (F 43) (F 49) (F 50) (F 51) (F 52) (F 53) (F 54) (F 55) (F 56) (F 57) (F 58) (F 59) (n 9) (n 11) (n 12) (n 44) (n 45) (n 46) (n 47) (n 48)) sz)) 0 0 (va_A (w10 h0 X C (F 0) (F 1) (F 2) (F 3) (F 4) (F 5) (F 6) (F 7) (F 8) (F 10) (F 13) (F 14) (F 15) (F 16) (F 17) (F 18) (F 19) (F 20) (F 21) (F 22) (F 23) (F 24) (F 25) (F 26) (F 27) (F 28) (F 29) (F 30) (F 31) (F 32) (F 33) (F 34) (F 35) (F 36) (F 37) (F 38) (F 39) (F 40) (F 41) (F 42) (F 43) (F 49) (F 50) (F 51) (F 52) (F 53) (F 54) (F 55) (F 56) (F 57) (F 58) (F 59) (n 9) (n 11) (n 12) (n 44) (n 45) (n 46) (n 47) (n 48)) sz) := by
  refine Met.ofW (cc := cX10_handled) (maxL := 3) (ret := (some .int)) (by decide) rfl ?_
  intro p e s m args below meth c s₁ B hml hv
  obtain ⟨rfl, hsz, hP, hK, hD0, hN⟩ := hv
  have hx := B.exec
  have hb := B.bytes
  have hr := B.returns
  have hts := atoms_spec (ws := .code yX10_handled cX10_handled 3 (some .int) :: gw) B.pre
  have hg : ∀ w ∈ gw, w.before _ s = true := fun w h => hts w (List.mem_cons_of_mem _ h)
  have hown : s.vm.findClass RX10 = some m.cls := findClass_of_methodNamed B.named
  have hlocks := B.notSynchronized
  subst hsz
  have hD := hD0.self (sz := s.heap.size)
  generalize hAe : va_A (w10 h0 X C (F 0) (F 1) (F 2) (F 3) (F 4) (F 5) (F 6) (F 7) (F 8) (F 10) (F 13) (F 14) (F 15) (F 16) (F 17) (F 18) (F 19) (F 20) (F 21) (F 22) (F 23) (F 24) (F 25) (F 26) (F 27) (F 28) (F 29) (F 30) (F 31) (F 32) (F 33) (F 34) (F 35) (F 36) (F 37) (F 38) (F 39) (F 40) (F 41) (F 42) (F 43) (F 49) (F 50) (F 51) (F 52) (F 53) (F 54) (F 55) (F 56) (F 57) (F 58) (F 59) (n 9) (n 11) (n 12) (n 44) (n 45) (n 46) (n 47) (n 48)) s.heap.size = A at hD ⊢
  have hA : ∀ q : Nat, s.heap.size ≤ q → A q := fun q h => by rw [← hAe]; exact Or.inr h
  have hS : va_S A s.heap s.heap [] := va_S.rf
  have hP : va_P (dC, dI) vwCl (w10 h0 X C (F 0) (F 1) (F 2) (F 3) (F 4) (F 5) (F 6) (F 7) (F 8) (F 10) (F 13) (F 14) (F 15) (F 16) (F 17) (F 18) (F 19) (F 20) (F 21) (F 22) (F 23) (F 24) (F 25) (F 26) (F 27) (F 28) (F 29) (F 30) (F 31) (F 32) (F 33) (F 34) (F 35) (F 36) (F 37) (F 38) (F 39) (F 40) (F 41) (F 42) (F 43) (F 49) (F 50) (F 51) (F 52) (F 53) (F 54) (F 55) (F 56) (F 57) (F 58) (F 59) (n 9) (n 11) (n 12) (n 44) (n 45) (n 46) (n 47) (n 48)) s.heap := hP
  have hl := lv_entry ([.ref h0, .int v1, .int v2]) (n := 3) (Nat.le_of_ble_eq_true rfl)
  rw [lg_entry_eq]
  generalize (lg_sl ([.ref h0, .int v1, .int v2]) ++ List.replicate (3 - (lg_sl ([.ref h0, .int v1, .int v2])).length) Slot.unset).toArray = ls at hl ⊢
  have hl : lv_has ls 3 [(0, .ref h0), (1, .int v1), (2, .int v2)] := hl
  obtain ⟨b_1, b_2, b_3, b_4, b_5, b_6, b_7, b_8, b_9, b_10, b_11, b_12, i_13, i_14, i_15, i_16, i_17, i_18, i_19, j_20, j_21, j_22, j_23, j_24, j_25, j_26, j_27, j_28, j_29⟩ := id hI
  refine lv_iload_n hx hb dX10_handled_0 rfl (lv_at hl 1 rfl) ?_
  refine lv_if_lt (tgt := 12) hx hb dX10_handled_1 (by decide) (fun c_30 => ?_) (fun c_30 => ?_)
  · simp only [i_lt, i_le, i_eq, ti_0] at c_30
    refine lv_iconst (v := -1) hx hb dX10_handled_12 (by decide) ?_
    exact W.iret (v := -1) hx hb hr (fun t ht hW => ⟨⟨-1, (), rfl, trivial, by rw [ht]; exact hP, hD⟩, hS.F ht⟩) hS.2.2 dX10_handled_13
  · simp only [i_lt, i_le, i_eq, ti_0] at c_30
    refine lv_iload_n hx hb dX10_handled_4 rfl (lv_at hl 1 rfl) ?_
    refine lv_aload_n hx hb dX10_handled_5 rfl (lv_at hl 0 rfl) ?_
    refine va_get (D := (dC, dI)) (ci := 10) (v := .int (n 47)) (C := RX10) (T := TX10) (N := 60) hx hb hg gb_10 hown hK hP 0 rfl rfl 47 (by decide) (hg _ gm_fieldLink_RX10_195_ErrandGuildModel_handledMany_I_) (fun _ h9 => h9) rfl dX10_handled_6 ?_
    refine lv_icmp_lt (tgt := 14) hx hb dX10_handled_9 (by decide) (fun c_31 => ?_) (fun c_31 => ?_)
    · simp only [i_lt, i_le, i_eq] at c_31
      refine lv_iload_n hx hb dX10_handled_14 rfl (lv_at hl 2 rfl) ?_
      rcases (show (v2.toInt < 0 ∨ 3 < v2.toInt) ∨ v2.toInt = 0 ∨ v2.toInt = 1 ∨ v2.toInt = 2 ∨ v2.toInt = 3 by omega) with sw_32 | sw_32 | sw_32 | sw_32 | sw_32
      · refine lv_tableOut (tgt := 72) hx hb dX10_handled_15 sw_32 (by decide) ?_
        refine lv_iconst (v := -1) hx hb dX10_handled_72 (by decide) ?_
        exact W.iret (v := -1) hx hb hr (fun t ht hW => ⟨⟨-1, (), rfl, trivial, by rw [ht]; exact hP, hD⟩, hS.F ht⟩) hS.2.2 dX10_handled_73
      · refine lv_tableIn (tgt := 44) hx hb dX10_handled_15 (by omega) (by omega) (by rw [sw_32]; rfl) (by decide) ?_
        refine lv_aload_n hx hb dX10_handled_44 rfl (lv_at hl 0 rfl) ?_
        refine va_get (D := (dC, dI)) (ci := 10) (v := .ref (X 55)) (C := RX10) (T := TX10) (N := 60) hx hb hg gb_10 hown hK hP 0 rfl rfl 55 (by decide) (hg _ gm_fieldLink_RX10_157_ErrandGuildModel_handledRun_AI_) (fun _ h9 => h9) rfl dX10_handled_45 ?_
        refine lv_iload_n hx hb dX10_handled_48 rfl (lv_at hl 1 rfl) ?_
        refine va_iald (f := F 55) hx hb hK hP 48 47 rfl rfl (vp_in_iff.mpr ⟨by omega, by omega⟩) dX10_handled_49 ?_
        refine lv_topi (fun z_33 ez_33 => ?_)
        have qz_33 := congrArg Int32.toInt ez_33
        exact W.iret (v := z_33) hx hb hr (fun t ht hW => ⟨⟨z_33, (), rfl, trivial, by rw [ht]; exact hP, hD⟩, hS.F ht⟩) hS.2.2 dX10_handled_50
      · refine lv_tableIn (tgt := 51) hx hb dX10_handled_15 (by omega) (by omega) (by rw [sw_32]; rfl) (by decide) ?_
        refine lv_aload_n hx hb dX10_handled_51 rfl (lv_at hl 0 rfl) ?_
        refine va_get (D := (dC, dI)) (ci := 10) (v := .ref (X 56)) (C := RX10) (T := TX10) (N := 60) hx hb hg gb_10 hown hK hP 0 rfl rfl 56 (by decide) (hg _ gm_fieldLink_RX10_160_ErrandGuildModel_handledLevel_AI_) (fun _ h9 => h9) rfl dX10_handled_52 ?_
        refine lv_iload_n hx hb dX10_handled_55 rfl (lv_at hl 1 rfl) ?_
        refine va_iald (f := F 56) hx hb hK hP 49 48 rfl rfl (vp_in_iff.mpr ⟨by omega, by omega⟩) dX10_handled_56 ?_
        refine lv_topi (fun z_34 ez_34 => ?_)
        have qz_34 := congrArg Int32.toInt ez_34
        exact W.iret (v := z_34) hx hb hr (fun t ht hW => ⟨⟨z_34, (), rfl, trivial, by rw [ht]; exact hP, hD⟩, hS.F ht⟩) hS.2.2 dX10_handled_57
      · refine lv_tableIn (tgt := 58) hx hb dX10_handled_15 (by omega) (by omega) (by rw [sw_32]; rfl) (by decide) ?_
        refine lv_aload_n hx hb dX10_handled_58 rfl (lv_at hl 0 rfl) ?_
        refine va_get (D := (dC, dI)) (ci := 10) (v := .ref (X 57)) (C := RX10) (T := TX10) (N := 60) hx hb hg gb_10 hown hK hP 0 rfl rfl 57 (by decide) (hg _ gm_fieldLink_RX10_163_ErrandGuildModel_handledEffect_AI_) (fun _ h9 => h9) rfl dX10_handled_59 ?_
        refine lv_iload_n hx hb dX10_handled_62 rfl (lv_at hl 1 rfl) ?_
        refine va_iald (f := F 57) hx hb hK hP 50 49 rfl rfl (vp_in_iff.mpr ⟨by omega, by omega⟩) dX10_handled_63 ?_
        refine lv_topi (fun z_35 ez_35 => ?_)
        have qz_35 := congrArg Int32.toInt ez_35
        exact W.iret (v := z_35) hx hb hr (fun t ht hW => ⟨⟨z_35, (), rfl, trivial, by rw [ht]; exact hP, hD⟩, hS.F ht⟩) hS.2.2 dX10_handled_64
      · refine lv_tableIn (tgt := 65) hx hb dX10_handled_15 (by omega) (by omega) (by rw [sw_32]; rfl) (by decide) ?_
        refine lv_aload_n hx hb dX10_handled_65 rfl (lv_at hl 0 rfl) ?_
        refine va_get (D := (dC, dI)) (ci := 10) (v := .ref (X 58)) (C := RX10) (T := TX10) (N := 60) hx hb hg gb_10 hown hK hP 0 rfl rfl 58 (by decide) (hg _ gm_fieldLink_RX10_166_ErrandGuildModel_handledThrew_AI_) (fun _ h9 => h9) rfl dX10_handled_66 ?_
        refine lv_iload_n hx hb dX10_handled_69 rfl (lv_at hl 1 rfl) ?_
        refine va_iald (f := F 58) hx hb hK hP 51 50 rfl rfl (vp_in_iff.mpr ⟨by omega, by omega⟩) dX10_handled_70 ?_
        refine lv_topi (fun z_36 ez_36 => ?_)
        have qz_36 := congrArg Int32.toInt ez_36
        exact W.iret (v := z_36) hx hb hr (fun t ht hW => ⟨⟨z_36, (), rfl, trivial, by rw [ht]; exact hP, hD⟩, hS.F ht⟩) hS.2.2 dX10_handled_71
    · simp only [i_lt, i_le, i_eq] at c_31
      refine lv_iconst (v := -1) hx hb dX10_handled_12 (by decide) ?_
      exact W.iret (v := -1) hx hb hr (fun t ht hW => ⟨⟨-1, (), rfl, trivial, by rw [ht]; exact hP, hD⟩, hS.F ht⟩) hS.2.2 dX10_handled_13

set_option maxHeartbeats 8000000 in
set_option maxRecDepth 100000 in
theorem c_X10_order (l : Launch) (dC : Nat → ClassId) (dI : Nat → Nat → Nat) (kp : Int) (h0 : Nat) (X : Nat → Nat) (C : Nat → ClassId) (F : Nat → Nat → Int32) (n : Nat → Int32) (v1 : Int32) (sz : Nat) (hI : I10 kp F n) : Met l yX10_order (.code yX10_order cX10_order 2 (some .int) :: gw) ({ frames := 0, cells := 0, slots := 0, locals := 0 }) (va_Pc [.ref h0, .int v1] (fun U => U.heap.size = sz ∧ va_P (dC, dI) vwCl (w10 h0 X C (F 0) (F 1) (F 2) (F 3) (F 4) (F 5) (F 6) (F 7) (F 8) (F 10) (F 13) (F 14) (F 15) (F 16) (F 17) (F 18) (F 19) (F 20) (F 21) (F 22) (F 23) (F 24) (F 25) (F 26) (F 27) (F 28) (F 29) (F 30) (F 31) (F 32) (F 33) (F 34) (F 35) (F 36) (F 37) (F 38) (F 39) (F 40) (F 41) (F 42) (F 43) (F 49) (F 50) (F 51) (F 52) (F 53) (F 54) (F 55) (F 56) (F 57) (F 58) (F 59) (n 9) (n 11) (n 12) (n 44) (n 45) (n 46) (n 47) (n 48)) U.heap ∧ va_K (dC, dI) vwCl (t10 C) U ∧ va_D (fun _ => True) (w10 h0 X C (F 0) (F 1) (F 2) (F 3) (F 4) (F 5) (F 6) (F 7) (F 8) (F 10) (F 13) (F 14) (F 15) (F 16) (F 17) (F 18) (F 19) (F 20) (F 21) (F 22) (F 23) (F 24) (F 25) (F 26) (F 27) (F 28) (F 29) (F 30) (F 31) (F 32) (F 33) (F 34) (F 35) (F 36) (F 37) (F 38) (F 39) (F 40) (F 41) (F 42) (F 43) (F 49) (F 50) (F 51) (F 52) (F 53) (F 54) (F 55) (F 56) (F 57) (F 58) (F 59) (n 9) (n 11) (n 12) (n 44) (n 45) (n 46) (n 47) (n 48)) ∧ nx U)) (va_Qi (fun (r : Int32) (u : Unit) => True) (fun _ t => va_P (dC, dI) vwCl (w10 h0 X C (F 0) (F 1) (F 2) (F 3) (F 4) (F 5) (F 6) (F 7) (F 8) (F 10) (F 13) (F 14) (F 15) (F 16) (F 17) (F 18) (F 19) (F 20) (F 21) (F 22) (F 23) (F 24) (F 25) (F 26) (F 27) (F 28) (F 29) (F 30) (F 31) (F 32) (F 33) (F 34) (F 35) (F 36) (F 37) (F 38) (F 39) (F 40) (F 41) (F 42) (F 43) (F 49) (F 50) (F 51) (F 52) (F 53) (F 54) (F 55) (F 56) (F 57) (F 58) (F 59) (n 9) (n 11) (n 12) (n 44) (n 45) (n 46) (n 47) (n 48)) t.heap ∧ va_D (va_A (w10 h0 X C (F 0) (F 1) (F 2) (F 3) (F 4) (F 5) (F 6) (F 7) (F 8) (F 10) (F 13) (F 14) (F 15) (F 16) (F 17) (F 18) (F 19) (F 20) (F 21) (F 22) (F 23) (F 24) (F 25) (F 26) (F 27) (F 28) (F 29) (F 30) (F 31) (F 32) (F 33) (F 34) (F 35) (F 36) (F 37) (F 38) (F 39) (F 40) (F 41) (F 42) (F 43) (F 49) (F 50) (F 51) (F 52) (F 53) (F 54) (F 55) (F 56) (F 57) (F 58) (F 59) (n 9) (n 11) (n 12) (n 44) (n 45) (n 46) (n 47) (n 48)) sz) (w10 h0 X C (F 0) (F 1) (F 2) (F 3) (F 4) (F 5) (F 6) (F 7) (F 8) (F 10) (F 13) (F 14) (F 15) (F 16) (F 17) (F 18) (F 19) (F 20) (F 21) (F 22) (F 23) (F 24) (F 25) (F 26) (F 27) (F 28) (F 29) (F 30) (F 31) (F 32) (F 33) (F 34) (F 35) (F 36) (F 37) (F 38) (F 39) (F 40) (F 41) (F 42) (F 43) (F 49) (F 50) (F 51) (F 52) (F 53) (F 54) (F 55) (F 56) (F 57) (F 58) (F 59) (n 9) (n 11) (n 12) (n 44) (n 45) (n 46) (n 47) (n 48))) (va_A (w10 h0 X C (F 0) (F 1) (F 2) (F 3) (F 4) (F 5) (F 6) (F 7) (F 8) (F 10) (F 13) (F 14) (F 15) (F 16) (F 17) (F 18) (F 19) (F 20) (F 21) (F 22) (F 23) (F 24) (F 25) (F 26) (F 27) (F 28) (F 29) (F 30) (F 31) (F 32) (F 33) (F 34) (F 35) (F 36) (F 37) (F 38) (F 39) (F 40) (F 41) (F 42) (F 43) (F 49) (F 50) (F 51) (F 52) (F 53) (F 54) (F 55) (F 56) (F 57) (F 58) (F 59) (n 9) (n 11) (n 12) (n 44) (n 45) (n 46) (n 47) (n 48)) sz)) 0 0 (va_A (w10 h0 X C (F 0) (F 1) (F 2) (F 3) (F 4) (F 5) (F 6) (F 7) (F 8) (F 10) (F 13) (F 14) (F 15) (F 16) (F 17) (F 18) (F 19) (F 20) (F 21) (F 22) (F 23) (F 24) (F 25) (F 26) (F 27) (F 28) (F 29) (F 30) (F 31) (F 32) (F 33) (F 34) (F 35) (F 36) (F 37) (F 38) (F 39) (F 40) (F 41) (F 42) (F 43) (F 49) (F 50) (F 51) (F 52) (F 53) (F 54) (F 55) (F 56) (F 57) (F 58) (F 59) (n 9) (n 11) (n 12) (n 44) (n 45) (n 46) (n 47) (n 48)) sz) := by
  refine Met.ofW (cc := cX10_order) (maxL := 2) (ret := (some .int)) (by decide) rfl ?_
  intro p e s m args below meth c s₁ B hml hv
  obtain ⟨rfl, hsz, hP, hK, hD0, hN⟩ := hv
  have hx := B.exec
  have hb := B.bytes
  have hr := B.returns
  have hts := atoms_spec (ws := .code yX10_order cX10_order 2 (some .int) :: gw) B.pre
  have hg : ∀ w ∈ gw, w.before _ s = true := fun w h => hts w (List.mem_cons_of_mem _ h)
  have hown : s.vm.findClass RX10 = some m.cls := findClass_of_methodNamed B.named
  have hlocks := B.notSynchronized
  subst hsz
  have hD := hD0.self (sz := s.heap.size)
  generalize hAe : va_A (w10 h0 X C (F 0) (F 1) (F 2) (F 3) (F 4) (F 5) (F 6) (F 7) (F 8) (F 10) (F 13) (F 14) (F 15) (F 16) (F 17) (F 18) (F 19) (F 20) (F 21) (F 22) (F 23) (F 24) (F 25) (F 26) (F 27) (F 28) (F 29) (F 30) (F 31) (F 32) (F 33) (F 34) (F 35) (F 36) (F 37) (F 38) (F 39) (F 40) (F 41) (F 42) (F 43) (F 49) (F 50) (F 51) (F 52) (F 53) (F 54) (F 55) (F 56) (F 57) (F 58) (F 59) (n 9) (n 11) (n 12) (n 44) (n 45) (n 46) (n 47) (n 48)) s.heap.size = A at hD ⊢
  have hA : ∀ q : Nat, s.heap.size ≤ q → A q := fun q h => by rw [← hAe]; exact Or.inr h
  have hS : va_S A s.heap s.heap [] := va_S.rf
  have hP : va_P (dC, dI) vwCl (w10 h0 X C (F 0) (F 1) (F 2) (F 3) (F 4) (F 5) (F 6) (F 7) (F 8) (F 10) (F 13) (F 14) (F 15) (F 16) (F 17) (F 18) (F 19) (F 20) (F 21) (F 22) (F 23) (F 24) (F 25) (F 26) (F 27) (F 28) (F 29) (F 30) (F 31) (F 32) (F 33) (F 34) (F 35) (F 36) (F 37) (F 38) (F 39) (F 40) (F 41) (F 42) (F 43) (F 49) (F 50) (F 51) (F 52) (F 53) (F 54) (F 55) (F 56) (F 57) (F 58) (F 59) (n 9) (n 11) (n 12) (n 44) (n 45) (n 46) (n 47) (n 48)) s.heap := hP
  have hl := lv_entry ([.ref h0, .int v1]) (n := 2) (Nat.le_of_ble_eq_true rfl)
  rw [lg_entry_eq]
  generalize (lg_sl ([.ref h0, .int v1]) ++ List.replicate (2 - (lg_sl ([.ref h0, .int v1])).length) Slot.unset).toArray = ls at hl ⊢
  have hl : lv_has ls 2 [(0, .ref h0), (1, .int v1)] := hl
  obtain ⟨b_1, b_2, b_3, b_4, b_5, b_6, b_7, b_8, b_9, b_10, b_11, b_12, i_13, i_14, i_15, i_16, i_17, i_18, i_19, j_20, j_21, j_22, j_23, j_24, j_25, j_26, j_27, j_28, j_29⟩ := id hI
  refine lv_iload_n hx hb dX10_order_0 rfl (lv_at hl 1 rfl) ?_
  refine lv_if_lt (tgt := 28) hx hb dX10_order_1 (by decide) (fun c_30 => ?_) (fun c_30 => ?_)
  · simp only [i_lt, i_le, i_eq, ti_0] at c_30
    refine lv_iconst (v := -1) hx hb dX10_order_28 (by decide) ?_
    exact W.iret (v := -1) hx hb hr (fun t ht hW => ⟨⟨-1, (), rfl, trivial, by rw [ht]; exact hP, hD⟩, hS.F ht⟩) hS.2.2 dX10_order_29
  · simp only [i_lt, i_le, i_eq, ti_0] at c_30
    refine lv_iload_n hx hb dX10_order_4 rfl (lv_at hl 1 rfl) ?_
    refine lv_aload_n hx hb dX10_order_5 rfl (lv_at hl 0 rfl) ?_
    refine va_get (D := (dC, dI)) (ci := 10) (v := .int (n 48)) (C := RX10) (T := TX10) (N := 60) hx hb hg gb_10 hown hK hP 0 rfl rfl 48 (by decide) (hg _ gm_fieldLink_RX10_198_ErrandGuildModel_orderMany_I_) (fun _ h9 => h9) rfl dX10_order_6 ?_
    refine lv_icmp_ge (tgt := 28) hx hb dX10_order_9 (by decide) (fun c_31 => ?_) (fun c_31 => ?_)
    · simp only [i_lt, i_le, i_eq] at c_31
      refine lv_iconst (v := -1) hx hb dX10_order_28 (by decide) ?_
      exact W.iret (v := -1) hx hb hr (fun t ht hW => ⟨⟨-1, (), rfl, trivial, by rw [ht]; exact hP, hD⟩, hS.F ht⟩) hS.2.2 dX10_order_29
    · simp only [i_lt, i_le, i_eq] at c_31
      refine lv_iload_n hx hb dX10_order_12 rfl (lv_at hl 1 rfl) ?_
      refine lv_sipush (v := 2000) hx hb dX10_order_13 (by decide) ?_
      refine lv_icmp_ge (tgt := 28) hx hb dX10_order_16 (by decide) (fun c_32 => ?_) (fun c_32 => ?_)
      · simp only [i_lt, i_le, i_eq, ti_2000] at c_32
        refine lv_iconst (v := -1) hx hb dX10_order_28 (by decide) ?_
        exact W.iret (v := -1) hx hb hr (fun t ht hW => ⟨⟨-1, (), rfl, trivial, by rw [ht]; exact hP, hD⟩, hS.F ht⟩) hS.2.2 dX10_order_29
      · simp only [i_lt, i_le, i_eq, ti_2000] at c_32
        refine lv_aload_n hx hb dX10_order_19 rfl (lv_at hl 0 rfl) ?_
        refine va_get (D := (dC, dI)) (ci := 10) (v := .ref (X 59)) (C := RX10) (T := TX10) (N := 60) hx hb hg gb_10 hown hK hP 0 rfl rfl 59 (by decide) (hg _ gm_fieldLink_RX10_169_ErrandGuildModel_order_AI_) (fun _ h9 => h9) rfl dX10_order_20 ?_
        refine lv_iload_n hx hb dX10_order_23 rfl (lv_at hl 1 rfl) ?_
        refine va_iald (f := F 59) hx hb hK hP 52 51 rfl rfl (vp_in_iff.mpr ⟨by omega, by omega⟩) dX10_order_24 ?_
        refine lv_topi (fun z_33 ez_33 => ?_)
        have qz_33 := congrArg Int32.toInt ez_33
        refine lv_goto (tgt := 29) hx hb dX10_order_25 (by decide) ?_
        exact W.iret (v := z_33) hx hb hr (fun t ht hW => ⟨⟨z_33, (), rfl, trivial, by rw [ht]; exact hP, hD⟩, hS.F ht⟩) hS.2.2 dX10_order_29

set_option maxHeartbeats 8000000 in
set_option maxRecDepth 100000 in
theorem c_X10_count (l : Launch) (dC : Nat → ClassId) (dI : Nat → Nat → Nat) (kp : Int) (h0 : Nat) (X : Nat → Nat) (C : Nat → ClassId) (F : Nat → Nat → Int32) (n : Nat → Int32) (v1 : Int32) (sz : Nat) (hI : I10 kp F n) : Met l yX10_count (.code yX10_count cX10_count 2 (some .int) :: gw) ({ frames := 1, cells := 0, slots := 0, locals := 23 }) (va_Pc [.ref h0, .int v1] (fun U => U.heap.size = sz ∧ va_P (dC, dI) vwCl (w10 h0 X C (F 0) (F 1) (F 2) (F 3) (F 4) (F 5) (F 6) (F 7) (F 8) (F 10) (F 13) (F 14) (F 15) (F 16) (F 17) (F 18) (F 19) (F 20) (F 21) (F 22) (F 23) (F 24) (F 25) (F 26) (F 27) (F 28) (F 29) (F 30) (F 31) (F 32) (F 33) (F 34) (F 35) (F 36) (F 37) (F 38) (F 39) (F 40) (F 41) (F 42) (F 43) (F 49) (F 50) (F 51) (F 52) (F 53) (F 54) (F 55) (F 56) (F 57) (F 58) (F 59) (n 9) (n 11) (n 12) (n 44) (n 45) (n 46) (n 47) (n 48)) U.heap ∧ va_K (dC, dI) vwCl (t10 C) U ∧ va_D (fun _ => True) (w10 h0 X C (F 0) (F 1) (F 2) (F 3) (F 4) (F 5) (F 6) (F 7) (F 8) (F 10) (F 13) (F 14) (F 15) (F 16) (F 17) (F 18) (F 19) (F 20) (F 21) (F 22) (F 23) (F 24) (F 25) (F 26) (F 27) (F 28) (F 29) (F 30) (F 31) (F 32) (F 33) (F 34) (F 35) (F 36) (F 37) (F 38) (F 39) (F 40) (F 41) (F 42) (F 43) (F 49) (F 50) (F 51) (F 52) (F 53) (F 54) (F 55) (F 56) (F 57) (F 58) (F 59) (n 9) (n 11) (n 12) (n 44) (n 45) (n 46) (n 47) (n 48)) ∧ nx U)) (va_Qi (fun (r : Int32) (u : Unit) => True) (fun _ t => va_P (dC, dI) vwCl (w10 h0 X C (F 0) (F 1) (F 2) (F 3) (F 4) (F 5) (F 6) (F 7) (F 8) (F 10) (F 13) (F 14) (F 15) (F 16) (F 17) (F 18) (F 19) (F 20) (F 21) (F 22) (F 23) (F 24) (F 25) (F 26) (F 27) (F 28) (F 29) (F 30) (F 31) (F 32) (F 33) (F 34) (F 35) (F 36) (F 37) (F 38) (F 39) (F 40) (F 41) (F 42) (F 43) (F 49) (F 50) (F 51) (F 52) (F 53) (F 54) (F 55) (F 56) (F 57) (F 58) (F 59) (n 9) (n 11) (n 12) (n 44) (n 45) (n 46) (n 47) (n 48)) t.heap ∧ va_D (va_A (w10 h0 X C (F 0) (F 1) (F 2) (F 3) (F 4) (F 5) (F 6) (F 7) (F 8) (F 10) (F 13) (F 14) (F 15) (F 16) (F 17) (F 18) (F 19) (F 20) (F 21) (F 22) (F 23) (F 24) (F 25) (F 26) (F 27) (F 28) (F 29) (F 30) (F 31) (F 32) (F 33) (F 34) (F 35) (F 36) (F 37) (F 38) (F 39) (F 40) (F 41) (F 42) (F 43) (F 49) (F 50) (F 51) (F 52) (F 53) (F 54) (F 55) (F 56) (F 57) (F 58) (F 59) (n 9) (n 11) (n 12) (n 44) (n 45) (n 46) (n 47) (n 48)) sz) (w10 h0 X C (F 0) (F 1) (F 2) (F 3) (F 4) (F 5) (F 6) (F 7) (F 8) (F 10) (F 13) (F 14) (F 15) (F 16) (F 17) (F 18) (F 19) (F 20) (F 21) (F 22) (F 23) (F 24) (F 25) (F 26) (F 27) (F 28) (F 29) (F 30) (F 31) (F 32) (F 33) (F 34) (F 35) (F 36) (F 37) (F 38) (F 39) (F 40) (F 41) (F 42) (F 43) (F 49) (F 50) (F 51) (F 52) (F 53) (F 54) (F 55) (F 56) (F 57) (F 58) (F 59) (n 9) (n 11) (n 12) (n 44) (n 45) (n 46) (n 47) (n 48))) (va_A (w10 h0 X C (F 0) (F 1) (F 2) (F 3) (F 4) (F 5) (F 6) (F 7) (F 8) (F 10) (F 13) (F 14) (F 15) (F 16) (F 17) (F 18) (F 19) (F 20) (F 21) (F 22) (F 23) (F 24) (F 25) (F 26) (F 27) (F 28) (F 29) (F 30) (F 31) (F 32) (F 33) (F 34) (F 35) (F 36) (F 37) (F 38) (F 39) (F 40) (F 41) (F 42) (F 43) (F 49) (F 50) (F 51) (F 52) (F 53) (F 54) (F 55) (F 56) (F 57) (F 58) (F 59) (n 9) (n 11) (n 12) (n 44) (n 45) (n 46) (n 47) (n 48)) sz)) 0 0 (va_A (w10 h0 X C (F 0) (F 1) (F 2) (F 3) (F 4) (F 5) (F 6) (F 7) (F 8) (F 10) (F 13) (F 14) (F 15) (F 16) (F 17) (F 18) (F 19) (F 20) (F 21) (F 22) (F 23) (F 24) (F 25) (F 26) (F 27) (F 28) (F 29) (F 30) (F 31) (F 32) (F 33) (F 34) (F 35) (F 36) (F 37) (F 38) (F 39) (F 40) (F 41) (F 42) (F 43) (F 49) (F 50) (F 51) (F 52) (F 53) (F 54) (F 55) (F 56) (F 57) (F 58) (F 59) (n 9) (n 11) (n 12) (n 44) (n 45) (n 46) (n 47) (n 48)) sz) := by
  refine Met.ofW (cc := cX10_count) (maxL := 2) (ret := (some .int)) (by decide) rfl ?_
  intro p e s m args below meth c s₁ B hml hv
  obtain ⟨rfl, hsz, hP, hK, hD0, hN⟩ := hv
  have hx := B.exec
  have hb := B.bytes
  have hr := B.returns
  have hts := atoms_spec (ws := .code yX10_count cX10_count 2 (some .int) :: gw) B.pre
  have hg : ∀ w ∈ gw, w.before _ s = true := fun w h => hts w (List.mem_cons_of_mem _ h)
  have hown : s.vm.findClass RX10 = some m.cls := findClass_of_methodNamed B.named
  have hlocks := B.notSynchronized
  subst hsz
  have hD := hD0.self (sz := s.heap.size)
  generalize hAe : va_A (w10 h0 X C (F 0) (F 1) (F 2) (F 3) (F 4) (F 5) (F 6) (F 7) (F 8) (F 10) (F 13) (F 14) (F 15) (F 16) (F 17) (F 18) (F 19) (F 20) (F 21) (F 22) (F 23) (F 24) (F 25) (F 26) (F 27) (F 28) (F 29) (F 30) (F 31) (F 32) (F 33) (F 34) (F 35) (F 36) (F 37) (F 38) (F 39) (F 40) (F 41) (F 42) (F 43) (F 49) (F 50) (F 51) (F 52) (F 53) (F 54) (F 55) (F 56) (F 57) (F 58) (F 59) (n 9) (n 11) (n 12) (n 44) (n 45) (n 46) (n 47) (n 48)) s.heap.size = A at hD ⊢
  have hA : ∀ q : Nat, s.heap.size ≤ q → A q := fun q h => by rw [← hAe]; exact Or.inr h
  have hS : va_S A s.heap s.heap [] := va_S.rf
  have hP : va_P (dC, dI) vwCl (w10 h0 X C (F 0) (F 1) (F 2) (F 3) (F 4) (F 5) (F 6) (F 7) (F 8) (F 10) (F 13) (F 14) (F 15) (F 16) (F 17) (F 18) (F 19) (F 20) (F 21) (F 22) (F 23) (F 24) (F 25) (F 26) (F 27) (F 28) (F 29) (F 30) (F 31) (F 32) (F 33) (F 34) (F 35) (F 36) (F 37) (F 38) (F 39) (F 40) (F 41) (F 42) (F 43) (F 49) (F 50) (F 51) (F 52) (F 53) (F 54) (F 55) (F 56) (F 57) (F 58) (F 59) (n 9) (n 11) (n 12) (n 44) (n 45) (n 46) (n 47) (n 48)) s.heap := hP
  have hl := lv_entry ([.ref h0, .int v1]) (n := 2) (Nat.le_of_ble_eq_true rfl)
  rw [lg_entry_eq]
  generalize (lg_sl ([.ref h0, .int v1]) ++ List.replicate (2 - (lg_sl ([.ref h0, .int v1])).length) Slot.unset).toArray = ls at hl ⊢
  have hl : lv_has ls 2 [(0, .ref h0), (1, .int v1)] := hl
  obtain ⟨b_1, b_2, b_3, b_4, b_5, b_6, b_7, b_8, b_9, b_10, b_11, b_12, i_13, i_14, i_15, i_16, i_17, i_18, i_19, j_20, j_21, j_22, j_23, j_24, j_25, j_26, j_27, j_28, j_29⟩ := id hI
  refine lv_iload_n hx hb dX10_count_0 rfl (lv_at hl 1 rfl) ?_
  rcases (show (v1.toInt < 0 ∨ 10 < v1.toInt) ∨ v1.toInt = 0 ∨ v1.toInt = 1 ∨ v1.toInt = 2 ∨ v1.toInt = 3 ∨ v1.toInt = 4 ∨ v1.toInt = 5 ∨ v1.toInt = 6 ∨ v1.toInt = 7 ∨ v1.toInt = 8 ∨ v1.toInt = 9 ∨ v1.toInt = 10 by omega) with sw_30 | sw_30 | sw_30 | sw_30 | sw_30 | sw_30 | sw_30 | sw_30 | sw_30 | sw_30 | sw_30 | sw_30
  · refine lv_tableOut (tgt := 120) hx hb dX10_count_1 sw_30 (by decide) ?_
    refine lv_iload_n hx hb dX10_count_120 rfl (lv_at hl 1 rfl) ?_
    refine lv_bipush (v := 16) hx hb dX10_count_121 (by decide) ?_
    refine lv_icmp_lt (tgt := 149) hx hb dX10_count_123 (by decide) (fun c_31 => ?_) (fun c_31 => ?_)
    · simp only [i_lt, i_le, i_eq, ti_16] at c_31
      refine lv_iconst (v := -1) hx hb dX10_count_149 (by decide) ?_
      exact W.iret (v := -1) hx hb hr (fun t ht hW => ⟨⟨-1, (), rfl, trivial, by rw [ht]; exact hP, hD⟩, hS.F ht⟩) hS.2.2 dX10_count_150
    · simp only [i_lt, i_le, i_eq, ti_16] at c_31
      refine lv_iload_n hx hb dX10_count_126 rfl (lv_at hl 1 rfl) ?_
      refine lv_bipush (v := 16) hx hb dX10_count_127 (by decide) ?_
      refine lv_aload_n hx hb dX10_count_129 rfl (lv_at hl 0 rfl) ?_
      refine va_get (D := (dC, dI)) (ci := 10) (v := .int (n 9)) (C := RX10) (T := TX10) (N := 60) hx hb hg gb_10 hown hK hP 0 rfl rfl 9 (by decide) (hg _ gm_fieldLink_RX10_38_ErrandGuildModel_threads_I_) (fun _ h9 => h9) rfl dX10_count_130 ?_
      refine lv_iadd hx hb dX10_count_133 ?_
      refine lv_topi (fun z_32 ez_32 => ?_)
      have tz_32 : z_32.toInt = 16 + (n 9).toInt := ar_add ti_16 rfl ez_32 (by omega)
      refine lv_icmp_ge (tgt := 149) hx hb dX10_count_134 (by decide) (fun c_33 => ?_) (fun c_33 => ?_)
      · simp only [i_lt, i_le, i_eq] at c_33
        refine lv_iconst (v := -1) hx hb dX10_count_149 (by decide) ?_
        exact W.iret (v := -1) hx hb hr (fun t ht hW => ⟨⟨-1, (), rfl, trivial, by rw [ht]; exact hP, hD⟩, hS.F ht⟩) hS.2.2 dX10_count_150
      · simp only [i_lt, i_le, i_eq] at c_33
        refine lv_aload_n hx hb dX10_count_137 rfl (lv_at hl 0 rfl) ?_
        refine va_get (D := (dC, dI)) (ci := 10) (v := .ref (X 10)) (C := RX10) (T := TX10) (N := 60) hx hb hg gb_10 hown hK hP 0 rfl rfl 10 (by decide) (hg _ gm_fieldLink_RX10_42_ErrandGuildModel_onThread_AI_) (fun _ h9 => h9) rfl dX10_count_138 ?_
        refine lv_iload_n hx hb dX10_count_141 rfl (lv_at hl 1 rfl) ?_
        refine lv_bipush (v := 16) hx hb dX10_count_142 (by decide) ?_
        refine lv_isub hx hb dX10_count_144 ?_
        refine lv_topi (fun z_34 ez_34 => ?_)
        have tz_34 : z_34.toInt = v1.toInt - 16 := ar_sub rfl ti_16 ez_34 (by omega)
        refine va_iald (f := F 10) hx hb hK hP 10 9 rfl rfl (vp_in_iff.mpr ⟨by omega, by omega⟩) dX10_count_145 ?_
        refine lv_topi (fun z_35 ez_35 => ?_)
        have qz_35 := congrArg Int32.toInt ez_35
        refine lv_goto (tgt := 150) hx hb dX10_count_146 (by decide) ?_
        exact W.iret (v := z_35) hx hb hr (fun t ht hW => ⟨⟨z_35, (), rfl, trivial, by rw [ht]; exact hP, hD⟩, hS.F ht⟩) hS.2.2 dX10_count_150
  · refine lv_tableIn (tgt := 60) hx hb dX10_count_1 (by omega) (by omega) (by rw [sw_30]; rfl) (by decide) ?_
    refine lv_aload_n hx hb dX10_count_60 rfl (lv_at hl 0 rfl) ?_
    refine va_get (D := (dC, dI)) (ci := 10) (v := .int (n 11)) (C := RX10) (T := TX10) (N := 60) hx hb hg gb_10 hown hK hP 0 rfl rfl 11 (by decide) (hg _ gm_fieldLink_RX10_176_ErrandGuildModel_runs_I_) (fun _ h9 => h9) rfl dX10_count_61 ?_
    exact W.iret (v := n 11) hx hb hr (fun t ht hW => ⟨⟨n 11, (), rfl, trivial, by rw [ht]; exact hP, hD⟩, hS.F ht⟩) hS.2.2 dX10_count_64
  · refine lv_tableIn (tgt := 65) hx hb dX10_count_1 (by omega) (by omega) (by rw [sw_30]; rfl) (by decide) ?_
    refine lv_aload_n hx hb dX10_count_65 rfl (lv_at hl 0 rfl) ?_
    refine va_get (D := (dC, dI)) (ci := 10) (v := .int (n 12)) (C := RX10) (T := TX10) (N := 60) hx hb hg gb_10 hown hK hP 0 rfl rfl 12 (by decide) (hg _ gm_fieldLink_RX10_186_ErrandGuildModel_beats_I_) (fun _ h9 => h9) rfl dX10_count_66 ?_
    exact W.iret (v := n 12) hx hb hr (fun t ht hW => ⟨⟨n 12, (), rfl, trivial, by rw [ht]; exact hP, hD⟩, hS.F ht⟩) hS.2.2 dX10_count_69
  · refine lv_tableIn (tgt := 70) hx hb dX10_count_1 (by omega) (by omega) (by rw [sw_30]; rfl) (by decide) ?_
    refine lv_aload_n hx hb dX10_count_70 rfl (lv_at hl 0 rfl) ?_
    refine va_get (D := (dC, dI)) (ci := 10) (v := .int (n 9)) (C := RX10) (T := TX10) (N := 60) hx hb hg gb_10 hown hK hP 0 rfl rfl 9 (by decide) (hg _ gm_fieldLink_RX10_38_ErrandGuildModel_threads_I_) (fun _ h9 => h9) rfl dX10_count_71 ?_
    exact W.iret (v := n 9) hx hb hr (fun t ht hW => ⟨⟨n 9, (), rfl, trivial, by rw [ht]; exact hP, hD⟩, hS.F ht⟩) hS.2.2 dX10_count_74
  · refine lv_tableIn (tgt := 75) hx hb dX10_count_1 (by omega) (by omega) (by rw [sw_30]; rfl) (by decide) ?_
    refine lv_aload_n hx hb dX10_count_75 rfl (lv_at hl 0 rfl) ?_
    refine lv_iconst (v := 0) hx hb dX10_count_76 (by decide) ?_
    have hFc := free_all hD hS hA
    refine va_calli (va_runV (As := [.int 0]) (rest := []) ⟨hx, hb, hml, hown, hg⟩ (c_X10_inState l dC dI kp h0 X C F n 0 s.heap.size ⟨b_1, b_2, b_3, b_4, b_5, b_6, b_7, b_8, b_9, b_10, b_11, b_12, i_13, i_14, i_15, i_16, i_17, i_18, i_19, j_20, j_21, j_22, j_23, j_24, j_25, j_26, j_27, j_28, j_29⟩) (cwV 1 hg (gw_V gm_methodLink_RX10_283_yX10_inState gm_instanceMethod_yX10_inState gm_selects_RX10_yX10_inState_yX10_inState gm_initialized_RX10 gm_code_yX10_inState_cX10_inState_4_some_int_) rfl rfl rfl (by decide +kernel) ⟨Nat.le_of_ble_eq_true rfl, Nat.le_of_ble_eq_true rfl⟩) ⟨fun a U g mk q => by obtain ⟨q0, q1, qP, qK, qD, qN⟩ := q; exact ⟨q0, q1, qP, va_K.moved (u := U) (U := U.calling g mk a) (Vm.Alike.refl U.vm) qK, qD, nx_same (u := U) (U := U.calling g mk a) rfl qN⟩, va_recv hK hP (ci := 10) (q0 := 0) rfl rfl, fun U hU hW => ⟨rfl, by rw [hU], by rw [hU]; exact hP, va_K.moved hW.alike hK, hD.weaken (fun _ _ _ _ => trivial), nx_warm hW hN⟩⟩ rfl rfl hl.1 rfl (lv_room (Nat.le_of_ble_eq_true rfl)) dX10_count_77 ⟨Nat.le_of_ble_eq_true rfl, Nat.le_of_ble_eq_true rfl⟩) hS (fun q _ h => hFc q h) hFc (fun r_36 u_37 t H1 locs ht hvm hw hB hz1 hk1 hS => ?_)
    obtain ⟨hP, hD⟩ := hB
    rw [ht] at hP
    have hD := hD.weaken (fun k q _ h => hFc _ h)
    generalize H1 = H at hP hS ⊢
    have hP : va_P (dC, dI) vwCl (w10 h0 X C (F 0) (F 1) (F 2) (F 3) (F 4) (F 5) (F 6) (F 7) (F 8) (F 10) (F 13) (F 14) (F 15) (F 16) (F 17) (F 18) (F 19) (F 20) (F 21) (F 22) (F 23) (F 24) (F 25) (F 26) (F 27) (F 28) (F 29) (F 30) (F 31) (F 32) (F 33) (F 34) (F 35) (F 36) (F 37) (F 38) (F 39) (F 40) (F 41) (F 42) (F 43) (F 49) (F 50) (F 51) (F 52) (F 53) (F 54) (F 55) (F 56) (F 57) (F 58) (F 59) (n 9) (n 11) (n 12) (n 44) (n 45) (n 46) (n 47) (n 48)) H := hP
    have hD : va_D A (w10 h0 X C (F 0) (F 1) (F 2) (F 3) (F 4) (F 5) (F 6) (F 7) (F 8) (F 10) (F 13) (F 14) (F 15) (F 16) (F 17) (F 18) (F 19) (F 20) (F 21) (F 22) (F 23) (F 24) (F 25) (F 26) (F 27) (F 28) (F 29) (F 30) (F 31) (F 32) (F 33) (F 34) (F 35) (F 36) (F 37) (F 38) (F 39) (F 40) (F 41) (F 42) (F 43) (F 49) (F 50) (F 51) (F 52) (F 53) (F 54) (F 55) (F 56) (F 57) (F 58) (F 59) (n 9) (n 11) (n 12) (n 44) (n 45) (n 46) (n 47) (n 48)) := hD
    exact W.iret (v := r_36) hx hb hr (fun t ht hW => ⟨⟨r_36, (), rfl, trivial, by rw [ht]; exact hP, hD⟩, hS.F ht⟩) hS.2.2 dX10_count_80
  · refine lv_tableIn (tgt := 81) hx hb dX10_count_1 (by omega) (by omega) (by rw [sw_30]; rfl) (by decide) ?_
    refine lv_aload_n hx hb dX10_count_81 rfl (lv_at hl 0 rfl) ?_
    refine lv_iconst (v := 1) hx hb dX10_count_82 (by decide) ?_
    have hFc := free_all hD hS hA
    refine va_calli (va_runV (As := [.int 1]) (rest := []) ⟨hx, hb, hml, hown, hg⟩ (c_X10_inState l dC dI kp h0 X C F n 1 s.heap.size ⟨b_1, b_2, b_3, b_4, b_5, b_6, b_7, b_8, b_9, b_10, b_11, b_12, i_13, i_14, i_15, i_16, i_17, i_18, i_19, j_20, j_21, j_22, j_23, j_24, j_25, j_26, j_27, j_28, j_29⟩) (cwV 1 hg (gw_V gm_methodLink_RX10_283_yX10_inState gm_instanceMethod_yX10_inState gm_selects_RX10_yX10_inState_yX10_inState gm_initialized_RX10 gm_code_yX10_inState_cX10_inState_4_some_int_) rfl rfl rfl (by decide +kernel) ⟨Nat.le_of_ble_eq_true rfl, Nat.le_of_ble_eq_true rfl⟩) ⟨fun a U g mk q => by obtain ⟨q0, q1, qP, qK, qD, qN⟩ := q; exact ⟨q0, q1, qP, va_K.moved (u := U) (U := U.calling g mk a) (Vm.Alike.refl U.vm) qK, qD, nx_same (u := U) (U := U.calling g mk a) rfl qN⟩, va_recv hK hP (ci := 10) (q0 := 0) rfl rfl, fun U hU hW => ⟨rfl, by rw [hU], by rw [hU]; exact hP, va_K.moved hW.alike hK, hD.weaken (fun _ _ _ _ => trivial), nx_warm hW hN⟩⟩ rfl rfl hl.1 rfl (lv_room (Nat.le_of_ble_eq_true rfl)) dX10_count_83 ⟨Nat.le_of_ble_eq_true rfl, Nat.le_of_ble_eq_true rfl⟩) hS (fun q _ h => hFc q h) hFc (fun r_39 u_40 t H1 locs ht hvm hw hB hz1 hk1 hS => ?_)
    obtain ⟨hP, hD⟩ := hB
    rw [ht] at hP
    have hD := hD.weaken (fun k q _ h => hFc _ h)
    generalize H1 = H at hP hS ⊢
    have hP : va_P (dC, dI) vwCl (w10 h0 X C (F 0) (F 1) (F 2) (F 3) (F 4) (F 5) (F 6) (F 7) (F 8) (F 10) (F 13) (F 14) (F 15) (F 16) (F 17) (F 18) (F 19) (F 20) (F 21) (F 22) (F 23) (F 24) (F 25) (F 26) (F 27) (F 28) (F 29) (F 30) (F 31) (F 32) (F 33) (F 34) (F 35) (F 36) (F 37) (F 38) (F 39) (F 40) (F 41) (F 42) (F 43) (F 49) (F 50) (F 51) (F 52) (F 53) (F 54) (F 55) (F 56) (F 57) (F 58) (F 59) (n 9) (n 11) (n 12) (n 44) (n 45) (n 46) (n 47) (n 48)) H := hP
    have hD : va_D A (w10 h0 X C (F 0) (F 1) (F 2) (F 3) (F 4) (F 5) (F 6) (F 7) (F 8) (F 10) (F 13) (F 14) (F 15) (F 16) (F 17) (F 18) (F 19) (F 20) (F 21) (F 22) (F 23) (F 24) (F 25) (F 26) (F 27) (F 28) (F 29) (F 30) (F 31) (F 32) (F 33) (F 34) (F 35) (F 36) (F 37) (F 38) (F 39) (F 40) (F 41) (F 42) (F 43) (F 49) (F 50) (F 51) (F 52) (F 53) (F 54) (F 55) (F 56) (F 57) (F 58) (F 59) (n 9) (n 11) (n 12) (n 44) (n 45) (n 46) (n 47) (n 48)) := hD
    exact W.iret (v := r_39) hx hb hr (fun t ht hW => ⟨⟨r_39, (), rfl, trivial, by rw [ht]; exact hP, hD⟩, hS.F ht⟩) hS.2.2 dX10_count_86
  · refine lv_tableIn (tgt := 87) hx hb dX10_count_1 (by omega) (by omega) (by rw [sw_30]; rfl) (by decide) ?_
    refine lv_aload_n hx hb dX10_count_87 rfl (lv_at hl 0 rfl) ?_
    refine lv_iconst (v := 2) hx hb dX10_count_88 (by decide) ?_
    have hFc := free_all hD hS hA
    refine va_calli (va_runV (As := [.int 2]) (rest := []) ⟨hx, hb, hml, hown, hg⟩ (c_X10_inState l dC dI kp h0 X C F n 2 s.heap.size ⟨b_1, b_2, b_3, b_4, b_5, b_6, b_7, b_8, b_9, b_10, b_11, b_12, i_13, i_14, i_15, i_16, i_17, i_18, i_19, j_20, j_21, j_22, j_23, j_24, j_25, j_26, j_27, j_28, j_29⟩) (cwV 1 hg (gw_V gm_methodLink_RX10_283_yX10_inState gm_instanceMethod_yX10_inState gm_selects_RX10_yX10_inState_yX10_inState gm_initialized_RX10 gm_code_yX10_inState_cX10_inState_4_some_int_) rfl rfl rfl (by decide +kernel) ⟨Nat.le_of_ble_eq_true rfl, Nat.le_of_ble_eq_true rfl⟩) ⟨fun a U g mk q => by obtain ⟨q0, q1, qP, qK, qD, qN⟩ := q; exact ⟨q0, q1, qP, va_K.moved (u := U) (U := U.calling g mk a) (Vm.Alike.refl U.vm) qK, qD, nx_same (u := U) (U := U.calling g mk a) rfl qN⟩, va_recv hK hP (ci := 10) (q0 := 0) rfl rfl, fun U hU hW => ⟨rfl, by rw [hU], by rw [hU]; exact hP, va_K.moved hW.alike hK, hD.weaken (fun _ _ _ _ => trivial), nx_warm hW hN⟩⟩ rfl rfl hl.1 rfl (lv_room (Nat.le_of_ble_eq_true rfl)) dX10_count_89 ⟨Nat.le_of_ble_eq_true rfl, Nat.le_of_ble_eq_true rfl⟩) hS (fun q _ h => hFc q h) hFc (fun r_42 u_43 t H1 locs ht hvm hw hB hz1 hk1 hS => ?_)
    obtain ⟨hP, hD⟩ := hB
    rw [ht] at hP
    have hD := hD.weaken (fun k q _ h => hFc _ h)
    generalize H1 = H at hP hS ⊢
    have hP : va_P (dC, dI) vwCl (w10 h0 X C (F 0) (F 1) (F 2) (F 3) (F 4) (F 5) (F 6) (F 7) (F 8) (F 10) (F 13) (F 14) (F 15) (F 16) (F 17) (F 18) (F 19) (F 20) (F 21) (F 22) (F 23) (F 24) (F 25) (F 26) (F 27) (F 28) (F 29) (F 30) (F 31) (F 32) (F 33) (F 34) (F 35) (F 36) (F 37) (F 38) (F 39) (F 40) (F 41) (F 42) (F 43) (F 49) (F 50) (F 51) (F 52) (F 53) (F 54) (F 55) (F 56) (F 57) (F 58) (F 59) (n 9) (n 11) (n 12) (n 44) (n 45) (n 46) (n 47) (n 48)) H := hP
    have hD : va_D A (w10 h0 X C (F 0) (F 1) (F 2) (F 3) (F 4) (F 5) (F 6) (F 7) (F 8) (F 10) (F 13) (F 14) (F 15) (F 16) (F 17) (F 18) (F 19) (F 20) (F 21) (F 22) (F 23) (F 24) (F 25) (F 26) (F 27) (F 28) (F 29) (F 30) (F 31) (F 32) (F 33) (F 34) (F 35) (F 36) (F 37) (F 38) (F 39) (F 40) (F 41) (F 42) (F 43) (F 49) (F 50) (F 51) (F 52) (F 53) (F 54) (F 55) (F 56) (F 57) (F 58) (F 59) (n 9) (n 11) (n 12) (n 44) (n 45) (n 46) (n 47) (n 48)) := hD
    exact W.iret (v := r_42) hx hb hr (fun t ht hW => ⟨⟨r_42, (), rfl, trivial, by rw [ht]; exact hP, hD⟩, hS.F ht⟩) hS.2.2 dX10_count_92
  · refine lv_tableIn (tgt := 93) hx hb dX10_count_1 (by omega) (by omega) (by rw [sw_30]; rfl) (by decide) ?_
    refine lv_aload_n hx hb dX10_count_93 rfl (lv_at hl 0 rfl) ?_
    refine lv_iconst (v := 3) hx hb dX10_count_94 (by decide) ?_
    have hFc := free_all hD hS hA
    refine va_calli (va_runV (As := [.int 3]) (rest := []) ⟨hx, hb, hml, hown, hg⟩ (c_X10_inState l dC dI kp h0 X C F n 3 s.heap.size ⟨b_1, b_2, b_3, b_4, b_5, b_6, b_7, b_8, b_9, b_10, b_11, b_12, i_13, i_14, i_15, i_16, i_17, i_18, i_19, j_20, j_21, j_22, j_23, j_24, j_25, j_26, j_27, j_28, j_29⟩) (cwV 1 hg (gw_V gm_methodLink_RX10_283_yX10_inState gm_instanceMethod_yX10_inState gm_selects_RX10_yX10_inState_yX10_inState gm_initialized_RX10 gm_code_yX10_inState_cX10_inState_4_some_int_) rfl rfl rfl (by decide +kernel) ⟨Nat.le_of_ble_eq_true rfl, Nat.le_of_ble_eq_true rfl⟩) ⟨fun a U g mk q => by obtain ⟨q0, q1, qP, qK, qD, qN⟩ := q; exact ⟨q0, q1, qP, va_K.moved (u := U) (U := U.calling g mk a) (Vm.Alike.refl U.vm) qK, qD, nx_same (u := U) (U := U.calling g mk a) rfl qN⟩, va_recv hK hP (ci := 10) (q0 := 0) rfl rfl, fun U hU hW => ⟨rfl, by rw [hU], by rw [hU]; exact hP, va_K.moved hW.alike hK, hD.weaken (fun _ _ _ _ => trivial), nx_warm hW hN⟩⟩ rfl rfl hl.1 rfl (lv_room (Nat.le_of_ble_eq_true rfl)) dX10_count_95 ⟨Nat.le_of_ble_eq_true rfl, Nat.le_of_ble_eq_true rfl⟩) hS (fun q _ h => hFc q h) hFc (fun r_45 u_46 t H1 locs ht hvm hw hB hz1 hk1 hS => ?_)
    obtain ⟨hP, hD⟩ := hB
    rw [ht] at hP
    have hD := hD.weaken (fun k q _ h => hFc _ h)
    generalize H1 = H at hP hS ⊢
    have hP : va_P (dC, dI) vwCl (w10 h0 X C (F 0) (F 1) (F 2) (F 3) (F 4) (F 5) (F 6) (F 7) (F 8) (F 10) (F 13) (F 14) (F 15) (F 16) (F 17) (F 18) (F 19) (F 20) (F 21) (F 22) (F 23) (F 24) (F 25) (F 26) (F 27) (F 28) (F 29) (F 30) (F 31) (F 32) (F 33) (F 34) (F 35) (F 36) (F 37) (F 38) (F 39) (F 40) (F 41) (F 42) (F 43) (F 49) (F 50) (F 51) (F 52) (F 53) (F 54) (F 55) (F 56) (F 57) (F 58) (F 59) (n 9) (n 11) (n 12) (n 44) (n 45) (n 46) (n 47) (n 48)) H := hP
    have hD : va_D A (w10 h0 X C (F 0) (F 1) (F 2) (F 3) (F 4) (F 5) (F 6) (F 7) (F 8) (F 10) (F 13) (F 14) (F 15) (F 16) (F 17) (F 18) (F 19) (F 20) (F 21) (F 22) (F 23) (F 24) (F 25) (F 26) (F 27) (F 28) (F 29) (F 30) (F 31) (F 32) (F 33) (F 34) (F 35) (F 36) (F 37) (F 38) (F 39) (F 40) (F 41) (F 42) (F 43) (F 49) (F 50) (F 51) (F 52) (F 53) (F 54) (F 55) (F 56) (F 57) (F 58) (F 59) (n 9) (n 11) (n 12) (n 44) (n 45) (n 46) (n 47) (n 48)) := hD
    exact W.iret (v := r_45) hx hb hr (fun t ht hW => ⟨⟨r_45, (), rfl, trivial, by rw [ht]; exact hP, hD⟩, hS.F ht⟩) hS.2.2 dX10_count_98
  · refine lv_tableIn (tgt := 99) hx hb dX10_count_1 (by omega) (by omega) (by rw [sw_30]; rfl) (by decide) ?_
    refine lv_aload_n hx hb dX10_count_99 rfl (lv_at hl 0 rfl) ?_
    refine lv_iconst (v := 4) hx hb dX10_count_100 (by decide) ?_
    have hFc := free_all hD hS hA
    refine va_calli (va_runV (As := [.int 4]) (rest := []) ⟨hx, hb, hml, hown, hg⟩ (c_X10_inState l dC dI kp h0 X C F n 4 s.heap.size ⟨b_1, b_2, b_3, b_4, b_5, b_6, b_7, b_8, b_9, b_10, b_11, b_12, i_13, i_14, i_15, i_16, i_17, i_18, i_19, j_20, j_21, j_22, j_23, j_24, j_25, j_26, j_27, j_28, j_29⟩) (cwV 1 hg (gw_V gm_methodLink_RX10_283_yX10_inState gm_instanceMethod_yX10_inState gm_selects_RX10_yX10_inState_yX10_inState gm_initialized_RX10 gm_code_yX10_inState_cX10_inState_4_some_int_) rfl rfl rfl (by decide +kernel) ⟨Nat.le_of_ble_eq_true rfl, Nat.le_of_ble_eq_true rfl⟩) ⟨fun a U g mk q => by obtain ⟨q0, q1, qP, qK, qD, qN⟩ := q; exact ⟨q0, q1, qP, va_K.moved (u := U) (U := U.calling g mk a) (Vm.Alike.refl U.vm) qK, qD, nx_same (u := U) (U := U.calling g mk a) rfl qN⟩, va_recv hK hP (ci := 10) (q0 := 0) rfl rfl, fun U hU hW => ⟨rfl, by rw [hU], by rw [hU]; exact hP, va_K.moved hW.alike hK, hD.weaken (fun _ _ _ _ => trivial), nx_warm hW hN⟩⟩ rfl rfl hl.1 rfl (lv_room (Nat.le_of_ble_eq_true rfl)) dX10_count_101 ⟨Nat.le_of_ble_eq_true rfl, Nat.le_of_ble_eq_true rfl⟩) hS (fun q _ h => hFc q h) hFc (fun r_48 u_49 t H1 locs ht hvm hw hB hz1 hk1 hS => ?_)
    obtain ⟨hP, hD⟩ := hB
    rw [ht] at hP
    have hD := hD.weaken (fun k q _ h => hFc _ h)
    generalize H1 = H at hP hS ⊢
    have hP : va_P (dC, dI) vwCl (w10 h0 X C (F 0) (F 1) (F 2) (F 3) (F 4) (F 5) (F 6) (F 7) (F 8) (F 10) (F 13) (F 14) (F 15) (F 16) (F 17) (F 18) (F 19) (F 20) (F 21) (F 22) (F 23) (F 24) (F 25) (F 26) (F 27) (F 28) (F 29) (F 30) (F 31) (F 32) (F 33) (F 34) (F 35) (F 36) (F 37) (F 38) (F 39) (F 40) (F 41) (F 42) (F 43) (F 49) (F 50) (F 51) (F 52) (F 53) (F 54) (F 55) (F 56) (F 57) (F 58) (F 59) (n 9) (n 11) (n 12) (n 44) (n 45) (n 46) (n 47) (n 48)) H := hP
    have hD : va_D A (w10 h0 X C (F 0) (F 1) (F 2) (F 3) (F 4) (F 5) (F 6) (F 7) (F 8) (F 10) (F 13) (F 14) (F 15) (F 16) (F 17) (F 18) (F 19) (F 20) (F 21) (F 22) (F 23) (F 24) (F 25) (F 26) (F 27) (F 28) (F 29) (F 30) (F 31) (F 32) (F 33) (F 34) (F 35) (F 36) (F 37) (F 38) (F 39) (F 40) (F 41) (F 42) (F 43) (F 49) (F 50) (F 51) (F 52) (F 53) (F 54) (F 55) (F 56) (F 57) (F 58) (F 59) (n 9) (n 11) (n 12) (n 44) (n 45) (n 46) (n 47) (n 48)) := hD
    exact W.iret (v := r_48) hx hb hr (fun t ht hW => ⟨⟨r_48, (), rfl, trivial, by rw [ht]; exact hP, hD⟩, hS.F ht⟩) hS.2.2 dX10_count_104
  · refine lv_tableIn (tgt := 105) hx hb dX10_count_1 (by omega) (by omega) (by rw [sw_30]; rfl) (by decide) ?_
    refine lv_aload_n hx hb dX10_count_105 rfl (lv_at hl 0 rfl) ?_
    refine va_get (D := (dC, dI)) (ci := 10) (v := .int (n 45)) (C := RX10) (T := TX10) (N := 60) hx hb hg gb_10 hown hK hP 0 rfl rfl 45 (by decide) (hg _ gm_fieldLink_RX10_189_ErrandGuildModel_seenMany_I_) (fun _ h9 => h9) rfl dX10_count_106 ?_
    exact W.iret (v := n 45) hx hb hr (fun t ht hW => ⟨⟨n 45, (), rfl, trivial, by rw [ht]; exact hP, hD⟩, hS.F ht⟩) hS.2.2 dX10_count_109
  · refine lv_tableIn (tgt := 110) hx hb dX10_count_1 (by omega) (by omega) (by rw [sw_30]; rfl) (by decide) ?_
    refine lv_aload_n hx hb dX10_count_110 rfl (lv_at hl 0 rfl) ?_
    refine va_get (D := (dC, dI)) (ci := 10) (v := .int (n 47)) (C := RX10) (T := TX10) (N := 60) hx hb hg gb_10 hown hK hP 0 rfl rfl 47 (by decide) (hg _ gm_fieldLink_RX10_195_ErrandGuildModel_handledMany_I_) (fun _ h9 => h9) rfl dX10_count_111 ?_
    exact W.iret (v := n 47) hx hb hr (fun t ht hW => ⟨⟨n 47, (), rfl, trivial, by rw [ht]; exact hP, hD⟩, hS.F ht⟩) hS.2.2 dX10_count_114
  · refine lv_tableIn (tgt := 115) hx hb dX10_count_1 (by omega) (by omega) (by rw [sw_30]; rfl) (by decide) ?_
    refine lv_aload_n hx hb dX10_count_115 rfl (lv_at hl 0 rfl) ?_
    refine va_get (D := (dC, dI)) (ci := 10) (v := .int (n 48)) (C := RX10) (T := TX10) (N := 60) hx hb hg gb_10 hown hK hP 0 rfl rfl 48 (by decide) (hg _ gm_fieldLink_RX10_198_ErrandGuildModel_orderMany_I_) (fun _ h9 => h9) rfl dX10_count_116 ?_
    exact W.iret (v := n 48) hx hb hr (fun t ht hW => ⟨⟨n 48, (), rfl, trivial, by rw [ht]; exact hP, hD⟩, hS.F ht⟩) hS.2.2 dX10_count_119
