set_option maxHeartbeats 8000000 in
set_option maxRecDepth 100000 in
theorem c_X10_isRun (l : Launch) (dC : Nat → ClassId) (dI : Nat → Nat → Nat) (kp : Int) (h0 : Nat) (X : Nat → Nat) (C : Nat → ClassId) (F : Nat → Nat → Int32) (n : Nat → Int32) (v1 : Int32) (sz : Nat) (hI : I10 kp F n) : Met l yX10_isRun (.code yX10_isRun cX10_isRun 2 (some .boolean) :: gw) ({ frames := 0, cells := 0, slots := 0, locals := 0 }) (va_Pc [.ref h0, .int v1] (fun U => U.heap.size = sz ∧ va_P (dC, dI) vwCl (w10 h0 X C F n) U.heap ∧ va_K (dC, dI) vwCl (t10 C) U ∧ va_D (fun _ => True) (w10 h0 X C F n) ∧ nx U)) (va_Qi (fun (r : Int32) (u : Unit) => (r = 1 ∧ (0 ≤ v1.toInt ∧ v1.toInt < (n 11).toInt)) ∨ (r = 0 ∧ ¬ (0 ≤ v1.toInt ∧ v1.toInt < (n 11).toInt))) (fun _ t => va_P (dC, dI) vwCl (w10 h0 X C F n) t.heap ∧ va_D (va_A (w10 h0 X C F n) sz) (w10 h0 X C F n)) (va_A (w10 h0 X C F n) sz)) 0 0 (va_A (w10 h0 X C F n) sz) := by
  refine Met.ofW (cc := cX10_isRun) (maxL := 2) (ret := (some .boolean)) (by decide) rfl ?_
  intro p e s m args below meth c s₁ B hml hv
  obtain ⟨rfl, hsz, hP, hK, hD0, hN⟩ := hv
  have hx := B.exec
  have hb := B.bytes
  have hr := B.returns
  have hts := atoms_spec (ws := .code yX10_isRun cX10_isRun 2 (some .boolean) :: gw) B.pre
  have hg : ∀ w ∈ gw, w.before _ s = true := fun w h => hts w (List.mem_cons_of_mem _ h)
  have hown : s.vm.findClass RX10 = some m.cls := findClass_of_methodNamed B.named
  have hlocks := B.notSynchronized
  subst hsz
  have hD := hD0.self (sz := s.heap.size)
  generalize hAe : va_A (w10 h0 X C F n) s.heap.size = A at hD ⊢
  have hA : ∀ q : Nat, s.heap.size ≤ q → A q := fun q h => by rw [← hAe]; exact Or.inr h
  have hS : va_S A s.heap s.heap [] := va_S.rf
  have hP : va_P (dC, dI) vwCl (w10 h0 X C F n) s.heap := hP
  have hl := lv_entry ([.ref h0, .int v1]) (n := 2) (Nat.le_of_ble_eq_true rfl)
  rw [lg_entry_eq]
  generalize (lg_sl ([.ref h0, .int v1]) ++ List.replicate (2 - (lg_sl ([.ref h0, .int v1])).length) Slot.unset).toArray = ls at hl ⊢
  have hl : lv_has ls 2 [(0, .ref h0), (1, .int v1)] := hl
  obtain ⟨b_1, b_2, b_3, b_4, b_5, b_6, b_7, b_8, b_9, b_10, b_11, b_12, i_13, i_14, i_15, i_16, i_17, i_18, i_19⟩ := id hI
  refine lv_iload_n hx hb dX10_isRun_0 rfl (lv_at hl 1 rfl) ?_
  refine lv_if_lt (tgt := 16) hx hb dX10_isRun_1 (by decide) (fun c_20 => ?_) (fun c_20 => ?_)
  · simp only [i_lt, i_le, i_eq, ti_0] at c_20
    refine lv_iconst (v := 0) hx hb dX10_isRun_16 (by decide) ?_
    exact W.zret (v := 0) hx hb hr rfl (fun t ht hW => ⟨⟨0, (), rfl, (Or.inr ⟨rfl, by omega⟩), by rw [ht]; exact hP, hD⟩, hS.F ht⟩) hS.2.2 dX10_isRun_17
  · simp only [i_lt, i_le, i_eq, ti_0] at c_20
    refine lv_iload_n hx hb dX10_isRun_4 rfl (lv_at hl 1 rfl) ?_
    refine lv_aload_n hx hb dX10_isRun_5 rfl (lv_at hl 0 rfl) ?_
    refine va_get (D := (dC, dI)) (ci := 10) (v := .int (n 11)) (C := RX10) (T := TX10) (N := 60) hx hb hg gb_10 hown hK hP 0 rfl rfl 11 (by decide) (hg _ gm_fieldLink_RX10_176_ErrandGuildModel_runs_I_) (fun _ h9 => h9) rfl dX10_isRun_6 ?_
    refine lv_icmp_ge (tgt := 16) hx hb dX10_isRun_9 (by decide) (fun c_21 => ?_) (fun c_21 => ?_)
    · simp only [i_lt, i_le, i_eq] at c_21
      refine lv_iconst (v := 0) hx hb dX10_isRun_16 (by decide) ?_
      exact W.zret (v := 0) hx hb hr rfl (fun t ht hW => ⟨⟨0, (), rfl, (Or.inr ⟨rfl, by omega⟩), by rw [ht]; exact hP, hD⟩, hS.F ht⟩) hS.2.2 dX10_isRun_17
    · simp only [i_lt, i_le, i_eq] at c_21
      refine lv_iconst (v := 1) hx hb dX10_isRun_12 (by decide) ?_
      refine lv_goto (tgt := 17) hx hb dX10_isRun_13 (by decide) ?_
      exact W.zret (v := 1) hx hb hr rfl (fun t ht hW => ⟨⟨1, (), rfl, (Or.inl ⟨rfl, by omega⟩), by rw [ht]; exact hP, hD⟩, hS.F ht⟩) hS.2.2 dX10_isRun_17

set_option maxHeartbeats 8000000 in
set_option maxRecDepth 100000 in
theorem c_X10_isOver (l : Launch) (dC : Nat → ClassId) (dI : Nat → Nat → Nat) (kp : Int) (h0 : Nat) (X : Nat → Nat) (C : Nat → ClassId) (F : Nat → Nat → Int32) (n : Nat → Int32) (v1 : Int32) (sz : Nat) (hI : I10 kp F n) (hr : 0 ≤ v1.toInt ∧ v1.toInt < 200) : Met l yX10_isOver (.code yX10_isOver cX10_isOver 2 (some .boolean) :: gw) ({ frames := 0, cells := 0, slots := 0, locals := 0 }) (va_Pc [.ref h0, .int v1] (fun U => U.heap.size = sz ∧ va_P (dC, dI) vwCl (w10 h0 X C F n) U.heap ∧ va_K (dC, dI) vwCl (t10 C) U ∧ va_D (fun _ => True) (w10 h0 X C F n) ∧ nx U)) (va_Qi (fun (r : Int32) (u : Unit) => (r = 1 ∧ True) ∨ (r = 0 ∧ True)) (fun _ t => va_P (dC, dI) vwCl (w10 h0 X C F n) t.heap ∧ va_D (va_A (w10 h0 X C F n) sz) (w10 h0 X C F n)) (va_A (w10 h0 X C F n) sz)) 0 0 (va_A (w10 h0 X C F n) sz) := by
  refine Met.ofW (cc := cX10_isOver) (maxL := 2) (ret := (some .boolean)) (by decide) rfl ?_
  intro p e s m args below meth c s₁ B hml hv
  obtain ⟨rfl, hsz, hP, hK, hD0, hN⟩ := hv
  have hx := B.exec
  have hb := B.bytes
  have hr := B.returns
  have hts := atoms_spec (ws := .code yX10_isOver cX10_isOver 2 (some .boolean) :: gw) B.pre
  have hg : ∀ w ∈ gw, w.before _ s = true := fun w h => hts w (List.mem_cons_of_mem _ h)
  have hown : s.vm.findClass RX10 = some m.cls := findClass_of_methodNamed B.named
  have hlocks := B.notSynchronized
  subst hsz
  have hD := hD0.self (sz := s.heap.size)
  generalize hAe : va_A (w10 h0 X C F n) s.heap.size = A at hD ⊢
  have hA : ∀ q : Nat, s.heap.size ≤ q → A q := fun q h => by rw [← hAe]; exact Or.inr h
  have hS : va_S A s.heap s.heap [] := va_S.rf
  have hP : va_P (dC, dI) vwCl (w10 h0 X C F n) s.heap := hP
  have hl := lv_entry ([.ref h0, .int v1]) (n := 2) (Nat.le_of_ble_eq_true rfl)
  rw [lg_entry_eq]
  generalize (lg_sl ([.ref h0, .int v1]) ++ List.replicate (2 - (lg_sl ([.ref h0, .int v1])).length) Slot.unset).toArray = ls at hl ⊢
  have hl : lv_has ls 2 [(0, .ref h0), (1, .int v1)] := hl
  obtain ⟨b_1, b_2, b_3, b_4, b_5, b_6, b_7, b_8, b_9, b_10, b_11, b_12, i_13, i_14, i_15, i_16, i_17, i_18, i_19⟩ := id hI
  refine lv_aload_n hx hb dX10_isOver_0 rfl (lv_at hl 0 rfl) ?_
  refine va_get (D := (dC, dI)) (ci := 10) (v := .ref (X 13)) (C := RX10) (T := TX10) (N := 60) hx hb hg gb_10 hown hK hP 0 rfl rfl 13 (by decide) (hg _ gm_fieldLink_RX10_45_ErrandGuildModel_state_AI_) (fun _ h9 => h9) rfl dX10_isOver_1 ?_
  refine lv_iload_n hx hb dX10_isOver_4 rfl (lv_at hl 1 rfl) ?_
  refine va_iald hx hb hK hP 11 10 rfl rfl (vp_in_iff.mpr ⟨by omega, by omega⟩) dX10_isOver_5 ?_
  refine lv_topi (fun z_20 ez_20 => ?_)
  have bz_20 := bd_at b_3 ez_20
  refine lv_iconst (v := 3) hx hb dX10_isOver_6 (by decide) ?_
  refine lv_icmp_eq (tgt := 20) hx hb dX10_isOver_7 (by decide) (fun c_21 => ?_) (fun c_21 => ?_)
  · simp only [i_lt, i_le, i_eq, ti_3] at c_21
    refine lv_iconst (v := 1) hx hb dX10_isOver_20 (by decide) ?_
    refine lv_goto (tgt := 25) hx hb dX10_isOver_21 (by decide) ?_
    exact W.zret (v := 1) hx hb hr rfl (fun t ht hW => ⟨⟨1, (), rfl, (Or.inl ⟨rfl, trivial⟩), by rw [ht]; exact hP, hD⟩, hS.F ht⟩) hS.2.2 dX10_isOver_25
  · simp only [i_lt, i_le, i_eq, ti_3] at c_21
    refine lv_aload_n hx hb dX10_isOver_10 rfl (lv_at hl 0 rfl) ?_
    refine va_get (D := (dC, dI)) (ci := 10) (v := .ref (X 13)) (C := RX10) (T := TX10) (N := 60) hx hb hg gb_10 hown hK hP 0 rfl rfl 13 (by decide) (hg _ gm_fieldLink_RX10_45_ErrandGuildModel_state_AI_) (fun _ h9 => h9) rfl dX10_isOver_11 ?_
    refine lv_iload_n hx hb dX10_isOver_14 rfl (lv_at hl 1 rfl) ?_
    refine va_iald hx hb hK hP 11 10 rfl rfl (vp_in_iff.mpr ⟨by omega, by omega⟩) dX10_isOver_15 ?_
    refine lv_topi (fun z_22 ez_22 => ?_)
    have bz_22 := bd_at b_3 ez_22
    refine lv_iconst (v := 4) hx hb dX10_isOver_16 (by decide) ?_
    refine lv_icmp_ne (tgt := 24) hx hb dX10_isOver_17 (by decide) (fun c_23 => ?_) (fun c_23 => ?_)
    · simp only [i_lt, i_le, i_eq, ti_4] at c_23
      refine lv_iconst (v := 0) hx hb dX10_isOver_24 (by decide) ?_
      exact W.zret (v := 0) hx hb hr rfl (fun t ht hW => ⟨⟨0, (), rfl, (Or.inr ⟨rfl, trivial⟩), by rw [ht]; exact hP, hD⟩, hS.F ht⟩) hS.2.2 dX10_isOver_25
    · simp only [i_lt, i_le, i_eq, ti_4] at c_23
      refine lv_iconst (v := 1) hx hb dX10_isOver_20 (by decide) ?_
      refine lv_goto (tgt := 25) hx hb dX10_isOver_21 (by decide) ?_
      exact W.zret (v := 1) hx hb hr rfl (fun t ht hW => ⟨⟨1, (), rfl, (Or.inl ⟨rfl, trivial⟩), by rw [ht]; exact hP, hD⟩, hS.F ht⟩) hS.2.2 dX10_isOver_25

set_option maxHeartbeats 8000000 in
set_option maxRecDepth 100000 in
theorem c_X10_areOver (l : Launch) (dC : Nat → ClassId) (dI : Nat → Nat → Nat) (kp : Int) (h0 : Nat) (X : Nat → Nat) (C : Nat → ClassId) (F : Nat → Nat → Int32) (n : Nat → Int32) (v1 : Int32) (sz : Nat) (hI : I10 kp F n) (hr : 0 ≤ v1.toInt ∧ v1.toInt < 200) : Met l yX10_areOver (.code yX10_areOver cX10_areOver 4 (some .boolean) :: gw) ({ frames := 1, cells := 0, slots := 0, locals := 21 }) (va_Pc [.ref h0, .int v1] (fun U => U.heap.size = sz ∧ va_P (dC, dI) vwCl (w10 h0 X C F n) U.heap ∧ va_K (dC, dI) vwCl (t10 C) U ∧ va_D (fun _ => True) (w10 h0 X C F n) ∧ nx U)) (va_Qi (fun (r : Int32) (u : Unit) => (r = 1 ∧ True) ∨ (r = 0 ∧ True)) (fun _ t => va_P (dC, dI) vwCl (w10 h0 X C F n) t.heap ∧ va_D (va_A (w10 h0 X C F n) sz) (w10 h0 X C F n)) (va_A (w10 h0 X C F n) sz)) 0 0 (va_A (w10 h0 X C F n) sz) := by
  refine Met.ofW (cc := cX10_areOver) (maxL := 4) (ret := (some .boolean)) (by decide) rfl ?_
  intro p e s m args below meth c s₁ B hml hv
  obtain ⟨rfl, hsz, hP, hK, hD0, hN⟩ := hv
  have hx := B.exec
  have hb := B.bytes
  have hr := B.returns
  have hts := atoms_spec (ws := .code yX10_areOver cX10_areOver 4 (some .boolean) :: gw) B.pre
  have hg : ∀ w ∈ gw, w.before _ s = true := fun w h => hts w (List.mem_cons_of_mem _ h)
  have hown : s.vm.findClass RX10 = some m.cls := findClass_of_methodNamed B.named
  have hlocks := B.notSynchronized
  subst hsz
  have hD := hD0.self (sz := s.heap.size)
  generalize hAe : va_A (w10 h0 X C F n) s.heap.size = A at hD ⊢
  have hA : ∀ q : Nat, s.heap.size ≤ q → A q := fun q h => by rw [← hAe]; exact Or.inr h
  have hS : va_S A s.heap s.heap [] := va_S.rf
  have hP : va_P (dC, dI) vwCl (w10 h0 X C F n) s.heap := hP
  have hl := lv_entry ([.ref h0, .int v1]) (n := 4) (Nat.le_of_ble_eq_true rfl)
  rw [lg_entry_eq]
  generalize (lg_sl ([.ref h0, .int v1]) ++ List.replicate (4 - (lg_sl ([.ref h0, .int v1])).length) Slot.unset).toArray = ls at hl ⊢
  have hl : lv_has ls 4 [(0, .ref h0), (1, .int v1)] := hl
  obtain ⟨b_1, b_2, b_3, b_4, b_5, b_6, b_7, b_8, b_9, b_10, b_11, b_12, i_13, i_14, i_15, i_16, i_17, i_18, i_19⟩ := id hI
  refine lv_iconst (v := 1) hx hb dX10_areOver_0 (by decide) ?_
  refine lv_istore_n (lv' := [(2, .int 1), (0, .ref h0), (1, .int v1)]) hx hb dX10_areOver_1 rfl hl (by decide) rfl (fun ls hl => ?_)
  refine lv_iload_n hx hb dX10_areOver_2 rfl (lv_at hl 2 rfl) ?_
  refine lv_iconst (v := 1) hx hb dX10_areOver_3 (by decide) ?_
  refine lv_iadd hx hb dX10_areOver_4 ?_
  refine lv_topi (fun z_20 ez_20 => ?_)
  have tz_20 : z_20.toInt = v1.toInt + 1 := ar_add rfl ti_1 ez_20 (by omega)
  refine lv_istore_n (lv' := [(3, .int z_20), (2, .int 1), (0, .ref h0), (1, .int v1)]) hx hb dX10_areOver_5 rfl hl (by decide) rfl (fun ls hl => ?_)
  have L6 : ∀ (fuel : Nat) (x_21 : Int32) (x_22 : Int32) (H : Heap) (locs : List Loc) (ls : Array Slot), (201 - x_22.toInt).toNat < fuel → 0 ≤ x_22.toInt ∧ x_22.toInt ≤ 200 → x_21.toInt = 0 ∨ x_21.toInt = 1 → va_P (dC, dI) vwCl (w10 h0 X C F n) H → va_D A (w10 h0 X C F n) → va_S A s.heap H locs → lv_has ls 4 [(3, .int x_22), (2, .int x_21), (0, .ref h0), (1, .int v1)] → W p l e (headSpec (.code yX10_areOver cX10_areOver 4 (some .boolean) :: gw) ({ frames := 1, cells := 0, slots := 0, locals := 21 })).room s m ([.ref h0, .int v1] : List Value).toArray below meth c H locs 0 0 (MQ below (va_Qi (fun (r : Int32) (u : Unit) => (r = 1 ∧ True) ∨ (r = 0 ∧ True)) (fun _ t => va_P (dC, dI) vwCl (w10 h0 X C F n) t.heap ∧ va_D A (w10 h0 X C F n)) A) ([.ref h0, .int v1] : List Value).toArray s 0 0 A) (F0 m 6 ls []) := by
    intro fuel
    induction fuel with
    | zero => intro x_21 x_22 H locs ls hm; exact absurd hm (Nat.not_lt_zero _)
    | succ fuel_24 ih_23 =>
      intro x_21 x_22 H locs ls hm_27 v_25 v_26 hP hD hS hl
      refine lv_iload_n hx hb dX10_areOver_6 rfl (lv_at hl 0 rfl) ?_
      refine lv_aload_n hx hb dX10_areOver_7 rfl (lv_at hl 2 rfl) ?_
      refine va_get (D := (dC, dI)) (ci := 10) (v := .int (n 11)) (C := RX10) (T := TX10) (N := 60) hx hb hg gb_10 hown hK hP 0 rfl rfl 11 (by decide) (hg _ gm_fieldLink_RX10_176_ErrandGuildModel_runs_I_) (fun _ h9 => h9) rfl dX10_areOver_8 ?_
      refine lv_icmp_ge (tgt := 57) hx hb dX10_areOver_11 (by decide) (fun c_28 => ?_) (fun c_28 => ?_)
      · simp only [i_lt, i_le, i_eq] at c_28
        refine lv_iload_n hx hb dX10_areOver_57 rfl (lv_at hl 1 rfl) ?_
        rcases zo (show x_21.toInt = 0 ∨ x_21.toInt = 1 by omega) with rfl | rfl
        · exact W.zret (v := 1) hx hb hr rfl (fun t ht hW => ⟨⟨1, (), rfl, (Or.inl ⟨rfl, trivial⟩), by rw [ht]; exact hP, hD⟩, hS.F ht⟩) hS.2.2 dX10_areOver_58
        · exact W.zret (v := 0) hx hb hr rfl (fun t ht hW => ⟨⟨0, (), rfl, (Or.inr ⟨rfl, trivial⟩), by rw [ht]; exact hP, hD⟩, hS.F ht⟩) hS.2.2 dX10_areOver_58
      · simp only [i_lt, i_le, i_eq] at c_28
        refine lv_iload_n hx hb dX10_areOver_14 rfl (lv_at hl 1 rfl) ?_
        refine lv_if_eq (tgt := 49) hx hb dX10_areOver_15 (by decide) (fun c_29 => ?_) (fun c_29 => ?_)
        · simp only [i_lt, i_le, i_eq, ti_0] at c_29
          refine lv_iconst (v := 0) hx hb dX10_areOver_49 (by decide) ?_
          refine lv_istore_n (lv' := [(2, .int 0), (3, .int x_22), (0, .ref h0), (1, .int v1)]) hx hb dX10_areOver_50 rfl hl (by decide) rfl (fun ls hl => ?_)
          obtain ⟨y_30, ey_30⟩ : ∃ q : Int32, q = x_22 + (1) := ⟨_, rfl⟩
          refine lv_iinc (v := y_30) (lv' := [(3, .int y_30), (2, .int 0), (0, .ref h0), (1, .int v1)]) hx hb dX10_areOver_51 hl (k := 1) rfl (by rw [ey_30]; rfl) (by decide) rfl (fun ls hl => ?_)
          have ty_30 : y_30.toInt = x_22.toInt + (1) := ar_add rfl ti_1 ey_30 (by omega)
          refine lv_goto (tgt := 6) hx hb dX10_areOver_54 (by decide) ?_
          exact ih_23 (0) y_30 H locs ls (by have t_0 := ti_0; omega) (by have t_0 := ti_0; omega) (by have t_0 := ti_0; omega) hP hD hS (lv_sub hl [0, 1, 2, 3] rfl)
        · simp only [i_lt, i_le, i_eq, ti_0] at c_29
          refine lv_aload_n hx hb dX10_areOver_18 rfl (lv_at hl 2 rfl) ?_
          refine va_get (D := (dC, dI)) (ci := 10) (v := .ref (X 15)) (C := RX10) (T := TX10) (N := 60) hx hb hg gb_10 hown hK hP 0 rfl rfl 15 (by decide) (hg _ gm_fieldLink_RX10_51_ErrandGuildModel_giver_AI_) (fun _ h9 => h9) rfl dX10_areOver_19 ?_
          refine lv_iload_n hx hb dX10_areOver_22 rfl (lv_at hl 0 rfl) ?_
          refine va_iald hx hb hK hP 13 12 rfl rfl (vp_in_iff.mpr ⟨by omega, by omega⟩) dX10_areOver_23 ?_
          refine lv_topi (fun z_31 ez_31 => ?_)
          have bz_31 := bd_at b_5 ez_31
          refine lv_iload_n hx hb dX10_areOver_24 rfl (lv_at hl 3 rfl) ?_
          refine lv_icmp_ne (tgt := 45) hx hb dX10_areOver_25 (by decide) (fun c_32 => ?_) (fun c_32 => ?_)
          · simp only [i_lt, i_le, i_eq] at c_32
            refine lv_iconst (v := 1) hx hb dX10_areOver_45 (by decide) ?_
            refine lv_goto (tgt := 50) hx hb dX10_areOver_46 (by decide) ?_
            refine lv_istore_n (lv' := [(2, .int 1), (3, .int x_22), (0, .ref h0), (1, .int v1)]) hx hb dX10_areOver_50 rfl hl (by decide) rfl (fun ls hl => ?_)
            obtain ⟨y_33, ey_33⟩ : ∃ q : Int32, q = x_22 + (1) := ⟨_, rfl⟩
            refine lv_iinc (v := y_33) (lv' := [(3, .int y_33), (2, .int 1), (0, .ref h0), (1, .int v1)]) hx hb dX10_areOver_51 hl (k := 1) rfl (by rw [ey_33]; rfl) (by decide) rfl (fun ls hl => ?_)
            have ty_33 : y_33.toInt = x_22.toInt + (1) := ar_add rfl ti_1 ey_33 (by omega)
            refine lv_goto (tgt := 6) hx hb dX10_areOver_54 (by decide) ?_
            exact ih_23 (1) y_33 H locs ls (by have t_0 := ti_1; omega) (by have t_0 := ti_1; omega) (by have t_0 := ti_1; omega) hP hD hS (lv_sub hl [0, 1, 2, 3] rfl)
          · simp only [i_lt, i_le, i_eq] at c_32
            refine lv_aload_n hx hb dX10_areOver_28 rfl (lv_at hl 2 rfl) ?_
            refine va_get (D := (dC, dI)) (ci := 10) (v := .ref (X 27)) (C := RX10) (T := TX10) (N := 60) hx hb hg gb_10 hown hK hP 0 rfl rfl 27 (by decide) (hg _ gm_fieldLink_RX10_87_ErrandGuildModel_isAwaited_AZ_) (fun _ h9 => h9) rfl dX10_areOver_29 ?_
            refine lv_iload_n hx hb dX10_areOver_32 rfl (lv_at hl 0 rfl) ?_
            refine va_zald hx hb hK hP 25 24 rfl rfl (vp_in_iff.mpr ⟨by omega, by omega⟩) dX10_areOver_33 ?_
            refine lv_topi (fun z_34 ez_34 => ?_)
            refine lv_if_eq (tgt := 45) hx hb dX10_areOver_34 (by decide) (fun c_35 => ?_) (fun c_35 => ?_)
            · simp only [i_lt, i_le, i_eq, ti_0] at c_35
              refine lv_iconst (v := 1) hx hb dX10_areOver_45 (by decide) ?_
              refine lv_goto (tgt := 50) hx hb dX10_areOver_46 (by decide) ?_
              refine lv_istore_n (lv' := [(2, .int 1), (3, .int x_22), (0, .ref h0), (1, .int v1)]) hx hb dX10_areOver_50 rfl hl (by decide) rfl (fun ls hl => ?_)
              obtain ⟨y_36, ey_36⟩ : ∃ q : Int32, q = x_22 + (1) := ⟨_, rfl⟩
              refine lv_iinc (v := y_36) (lv' := [(3, .int y_36), (2, .int 1), (0, .ref h0), (1, .int v1)]) hx hb dX10_areOver_51 hl (k := 1) rfl (by rw [ey_36]; rfl) (by decide) rfl (fun ls hl => ?_)
              have ty_36 : y_36.toInt = x_22.toInt + (1) := ar_add rfl ti_1 ey_36 (by omega)
              refine lv_goto (tgt := 6) hx hb dX10_areOver_54 (by decide) ?_
              exact ih_23 (1) y_36 H locs ls (by have t_0 := ti_1; omega) (by have t_0 := ti_1; omega) (by have t_0 := ti_1; omega) hP hD hS (lv_sub hl [0, 1, 2, 3] rfl)
            · simp only [i_lt, i_le, i_eq, ti_0] at c_35
              refine lv_aload_n hx hb dX10_areOver_37 rfl (lv_at hl 2 rfl) ?_
              refine lv_iload_n hx hb dX10_areOver_38 rfl (lv_at hl 0 rfl) ?_
              have hFc := free_all hD hS hA
              refine va_calli (va_runV (As := [.int x_22]) (rest := []) ⟨hx, hb, hml, hown, hg⟩ (c_X10_isOver l dC dI kp h0 X C F n x_22 H.size ⟨b_1, b_2, b_3, b_4, b_5, b_6, b_7, b_8, b_9, b_10, b_11, b_12, i_13, i_14, i_15, i_16, i_17, i_18, i_19⟩ (by omega)) (cwV 1 hg (gw_V gm_methodLink_RX10_215_yX10_isOver gm_instanceMethod_yX10_isOver gm_selects_RX10_yX10_isOver_yX10_isOver gm_initialized_RX10 gm_code_yX10_isOver_cX10_isOver_2_some_boolean_) rfl rfl rfl (by decide +kernel) ⟨Nat.le_of_ble_eq_true rfl, Nat.le_of_ble_eq_true rfl⟩) ⟨fun a U g mk q => by obtain ⟨q0, q1, qP, qK, qD, qN⟩ := q; exact ⟨q0, q1, qP, va_K.moved (u := U) (U := U.calling g mk a) (Vm.Alike.refl U.vm) qK, qD, nx_same (u := U) (U := U.calling g mk a) rfl qN⟩, va_recv hK hP (ci := 10) (q0 := 0) rfl rfl, fun U hU hW => ⟨rfl, by rw [hU], by rw [hU]; exact hP, va_K.moved hW.alike hK, hD.weaken (fun _ _ _ _ => trivial), nx_warm hW hN⟩⟩ rfl rfl hl.1 rfl (lv_room (Nat.le_of_ble_eq_true rfl)) dX10_areOver_39 ⟨Nat.le_of_ble_eq_true rfl, Nat.le_of_ble_eq_true rfl⟩) hS (fun q _ h => hFc q h) hFc (fun r_37 u_38 t H1 locs ht hvm hw hB hz1 hk1 hS => ?_)
              obtain ⟨hP, hD⟩ := hB
              rw [ht] at hP
              have hD := hD.weaken (fun k q _ h => hFc _ h)
              generalize H1 = H at hP hS ⊢
              have hP : va_P (dC, dI) vwCl (w10 h0 X C F n) H := hP
              have hD : va_D A (w10 h0 X C F n) := hD
              rcases hw with ⟨rfl, w_39⟩ | ⟨rfl, w_39⟩
              · refine lv_if_eq (tgt := 49) hx hb dX10_areOver_42 (by decide) (fun c_40 => absurd c_40 (by decide)) (fun _ => ?_)
                refine lv_iconst (v := 1) hx hb dX10_areOver_45 (by decide) ?_
                refine lv_goto (tgt := 50) hx hb dX10_areOver_46 (by decide) ?_
                refine lv_istore_n (lv' := [(2, .int 1), (3, .int x_22), (0, .ref h0), (1, .int v1)]) hx hb dX10_areOver_50 rfl hl (by decide) rfl (fun ls hl => ?_)
                obtain ⟨y_41, ey_41⟩ : ∃ q : Int32, q = x_22 + (1) := ⟨_, rfl⟩
                refine lv_iinc (v := y_41) (lv' := [(3, .int y_41), (2, .int 1), (0, .ref h0), (1, .int v1)]) hx hb dX10_areOver_51 hl (k := 1) rfl (by rw [ey_41]; rfl) (by decide) rfl (fun ls hl => ?_)
                have ty_41 : y_41.toInt = x_22.toInt + (1) := ar_add rfl ti_1 ey_41 (by omega)
                refine lv_goto (tgt := 6) hx hb dX10_areOver_54 (by decide) ?_
                exact ih_23 (1) y_41 H locs ls (by have t_0 := ti_1; omega) (by have t_0 := ti_1; omega) (by have t_0 := ti_1; omega) hP hD hS (lv_sub hl [0, 1, 2, 3] rfl)
              · refine lv_if_eq (tgt := 49) hx hb dX10_areOver_42 (by decide) (fun _ => ?_) (fun c_42 => absurd c_42 (by decide))
                refine lv_iconst (v := 0) hx hb dX10_areOver_49 (by decide) ?_
                refine lv_istore_n (lv' := [(2, .int 0), (3, .int x_22), (0, .ref h0), (1, .int v1)]) hx hb dX10_areOver_50 rfl hl (by decide) rfl (fun ls hl => ?_)
                obtain ⟨y_43, ey_43⟩ : ∃ q : Int32, q = x_22 + (1) := ⟨_, rfl⟩
                refine lv_iinc (v := y_43) (lv' := [(3, .int y_43), (2, .int 0), (0, .ref h0), (1, .int v1)]) hx hb dX10_areOver_51 hl (k := 1) rfl (by rw [ey_43]; rfl) (by decide) rfl (fun ls hl => ?_)
                have ty_43 : y_43.toInt = x_22.toInt + (1) := ar_add rfl ti_1 ey_43 (by omega)
                refine lv_goto (tgt := 6) hx hb dX10_areOver_54 (by decide) ?_
                exact ih_23 (0) y_43 H locs ls (by have t_0 := ti_0; omega) (by have t_0 := ti_0; omega) (by have t_0 := ti_0; omega) hP hD hS (lv_sub hl [0, 1, 2, 3] rfl)
  exact L6 _ (1) z_20 _ _ _ (Nat.lt_succ_self _) (by have t_0 := ti_1; omega) (by have t_0 := ti_1; omega) hP hD hS (lv_sub hl [0, 1, 2, 3] rfl)

set_option maxHeartbeats 8000000 in
set_option maxRecDepth 100000 in
theorem c_X10_children (l : Launch) (dC : Nat → ClassId) (dI : Nat → Nat → Nat) (kp : Int) (h0 : Nat) (X : Nat → Nat) (C : Nat → ClassId) (F : Nat → Nat → Int32) (n : Nat → Int32) (v1 : Int32) (sz : Nat) (hI : I10 kp F n) (hr : 0 ≤ v1.toInt ∧ v1.toInt < 200) : Met l yX10_children (.code yX10_children cX10_children 4 (some .int) :: gw) ({ frames := 0, cells := 0, slots := 0, locals := 0 }) (va_Pc [.ref h0, .int v1] (fun U => U.heap.size = sz ∧ va_P (dC, dI) vwCl (w10 h0 X C F n) U.heap ∧ va_K (dC, dI) vwCl (t10 C) U ∧ va_D (fun _ => True) (w10 h0 X C F n) ∧ nx U)) (va_Qi (fun (r : Int32) (u : Unit) => True) (fun _ t => va_P (dC, dI) vwCl (w10 h0 X C F n) t.heap ∧ va_D (va_A (w10 h0 X C F n) sz) (w10 h0 X C F n)) (va_A (w10 h0 X C F n) sz)) 0 0 (va_A (w10 h0 X C F n) sz) := by
  refine Met.ofW (cc := cX10_children) (maxL := 4) (ret := (some .int)) (by decide) rfl ?_
  intro p e s m args below meth c s₁ B hml hv
  obtain ⟨rfl, hsz, hP, hK, hD0, hN⟩ := hv
  have hx := B.exec
  have hb := B.bytes
  have hr := B.returns
  have hts := atoms_spec (ws := .code yX10_children cX10_children 4 (some .int) :: gw) B.pre
  have hg : ∀ w ∈ gw, w.before _ s = true := fun w h => hts w (List.mem_cons_of_mem _ h)
  have hown : s.vm.findClass RX10 = some m.cls := findClass_of_methodNamed B.named
  have hlocks := B.notSynchronized
  subst hsz
  have hD := hD0.self (sz := s.heap.size)
  generalize hAe : va_A (w10 h0 X C F n) s.heap.size = A at hD ⊢
  have hA : ∀ q : Nat, s.heap.size ≤ q → A q := fun q h => by rw [← hAe]; exact Or.inr h
  have hS : va_S A s.heap s.heap [] := va_S.rf
  have hP : va_P (dC, dI) vwCl (w10 h0 X C F n) s.heap := hP
  have hl := lv_entry ([.ref h0, .int v1]) (n := 4) (Nat.le_of_ble_eq_true rfl)
  rw [lg_entry_eq]
  generalize (lg_sl ([.ref h0, .int v1]) ++ List.replicate (4 - (lg_sl ([.ref h0, .int v1])).length) Slot.unset).toArray = ls at hl ⊢
  have hl : lv_has ls 4 [(0, .ref h0), (1, .int v1)] := hl
  obtain ⟨b_1, b_2, b_3, b_4, b_5, b_6, b_7, b_8, b_9, b_10, b_11, b_12, i_13, i_14, i_15, i_16, i_17, i_18, i_19⟩ := id hI
  refine lv_iconst (v := 0) hx hb dX10_children_0 (by decide) ?_
  refine lv_istore_n (lv' := [(2, .int 0), (0, .ref h0), (1, .int v1)]) hx hb dX10_children_1 rfl hl (by decide) rfl (fun ls hl => ?_)
  refine lv_iload_n hx hb dX10_children_2 rfl (lv_at hl 2 rfl) ?_
  refine lv_iconst (v := 1) hx hb dX10_children_3 (by decide) ?_
  refine lv_iadd hx hb dX10_children_4 ?_
  refine lv_topi (fun z_20 ez_20 => ?_)
  have tz_20 : z_20.toInt = v1.toInt + 1 := ar_add rfl ti_1 ez_20 (by omega)
  refine lv_istore_n (lv' := [(3, .int z_20), (2, .int 0), (0, .ref h0), (1, .int v1)]) hx hb dX10_children_5 rfl hl (by decide) rfl (fun ls hl => ?_)
  have L6 : ∀ (fuel : Nat) (x_21 : Int32) (x_22 : Int32) (H : Heap) (locs : List Loc) (ls : Array Slot), (201 - x_22.toInt).toNat < fuel → 0 ≤ x_22.toInt ∧ x_22.toInt ≤ 200 → va_P (dC, dI) vwCl (w10 h0 X C F n) H → va_D A (w10 h0 X C F n) → va_S A s.heap H locs → lv_has ls 4 [(3, .int x_22), (2, .int x_21), (0, .ref h0), (1, .int v1)] → W p l e (headSpec (.code yX10_children cX10_children 4 (some .int) :: gw) ({ frames := 0, cells := 0, slots := 0, locals := 0 })).room s m ([.ref h0, .int v1] : List Value).toArray below meth c H locs 0 0 (MQ below (va_Qi (fun (r : Int32) (u : Unit) => True) (fun _ t => va_P (dC, dI) vwCl (w10 h0 X C F n) t.heap ∧ va_D A (w10 h0 X C F n)) A) ([.ref h0, .int v1] : List Value).toArray s 0 0 A) (F0 m 6 ls []) := by
    intro fuel
    induction fuel with
    | zero => intro x_21 x_22 H locs ls hm; exact absurd hm (Nat.not_lt_zero _)
    | succ fuel_24 ih_23 =>
      intro x_21 x_22 H locs ls hm_26 v_25 hP hD hS hl
      refine lv_iload_n hx hb dX10_children_6 rfl (lv_at hl 0 rfl) ?_
      refine lv_aload_n hx hb dX10_children_7 rfl (lv_at hl 2 rfl) ?_
      refine va_get (D := (dC, dI)) (ci := 10) (v := .int (n 11)) (C := RX10) (T := TX10) (N := 60) hx hb hg gb_10 hown hK hP 0 rfl rfl 11 (by decide) (hg _ gm_fieldLink_RX10_176_ErrandGuildModel_runs_I_) (fun _ h9 => h9) rfl dX10_children_8 ?_
      refine lv_icmp_ge (tgt := 38) hx hb dX10_children_11 (by decide) (fun c_27 => ?_) (fun c_27 => ?_)
      · simp only [i_lt, i_le, i_eq] at c_27
        refine lv_iload_n hx hb dX10_children_38 rfl (lv_at hl 1 rfl) ?_
        exact W.iret (v := x_21) hx hb hr (fun t ht hW => ⟨⟨x_21, (), rfl, trivial, by rw [ht]; exact hP, hD⟩, hS.F ht⟩) hS.2.2 dX10_children_39
      · simp only [i_lt, i_le, i_eq] at c_27
        refine lv_iload_n hx hb dX10_children_14 rfl (lv_at hl 1 rfl) ?_
        refine lv_aload_n hx hb dX10_children_15 rfl (lv_at hl 2 rfl) ?_
        refine va_get (D := (dC, dI)) (ci := 10) (v := .ref (X 15)) (C := RX10) (T := TX10) (N := 60) hx hb hg gb_10 hown hK hP 0 rfl rfl 15 (by decide) (hg _ gm_fieldLink_RX10_51_ErrandGuildModel_giver_AI_) (fun _ h9 => h9) rfl dX10_children_16 ?_
        refine lv_iload_n hx hb dX10_children_19 rfl (lv_at hl 0 rfl) ?_
        refine va_iald hx hb hK hP 13 12 rfl rfl (vp_in_iff.mpr ⟨by omega, by omega⟩) dX10_children_20 ?_
        refine lv_topi (fun z_28 ez_28 => ?_)
        have bz_28 := bd_at b_5 ez_28
        refine lv_iload_n hx hb dX10_children_21 rfl (lv_at hl 3 rfl) ?_
        refine lv_icmp_ne (tgt := 29) hx hb dX10_children_22 (by decide) (fun c_29 => ?_) (fun c_29 => ?_)
        · simp only [i_lt, i_le, i_eq] at c_29
          refine lv_iconst (v := 0) hx hb dX10_children_29 (by decide) ?_
          refine lv_iadd hx hb dX10_children_30 ?_
          refine lv_topi (fun z_30 ez_30 => ?_)
          have tz_30 : z_30.toInt = x_21.toInt + 0 := ar_add rfl ti_0 ez_30 (by omega)
          refine lv_istore_n (lv' := [(2, .int z_30), (3, .int x_22), (0, .ref h0), (1, .int v1)]) hx hb dX10_children_31 rfl hl (by decide) rfl (fun ls hl => ?_)
          obtain ⟨y_31, ey_31⟩ : ∃ q : Int32, q = x_22 + (1) := ⟨_, rfl⟩
          refine lv_iinc (v := y_31) (lv' := [(3, .int y_31), (2, .int z_30), (0, .ref h0), (1, .int v1)]) hx hb dX10_children_32 hl (k := 1) rfl (by rw [ey_31]; rfl) (by decide) rfl (fun ls hl => ?_)
          have ty_31 : y_31.toInt = x_22.toInt + (1) := ar_add rfl ti_1 ey_31 (by omega)
          refine lv_goto (tgt := 6) hx hb dX10_children_35 (by decide) ?_
          exact ih_23 z_30 y_31 H locs ls (by omega) (by omega) hP hD hS (lv_sub hl [0, 1, 2, 3] rfl)
        · simp only [i_lt, i_le, i_eq] at c_29
          refine lv_iconst (v := 1) hx hb dX10_children_25 (by decide) ?_
          refine lv_goto (tgt := 30) hx hb dX10_children_26 (by decide) ?_
          refine lv_iadd hx hb dX10_children_30 ?_
          refine lv_topi (fun z_32 ez_32 => ?_)
          have tz_32 : z_32.toInt = x_21.toInt + 1 := ar_add rfl ti_1 ez_32 (by omega)
          refine lv_istore_n (lv' := [(2, .int z_32), (3, .int x_22), (0, .ref h0), (1, .int v1)]) hx hb dX10_children_31 rfl hl (by decide) rfl (fun ls hl => ?_)
          obtain ⟨y_33, ey_33⟩ : ∃ q : Int32, q = x_22 + (1) := ⟨_, rfl⟩
          refine lv_iinc (v := y_33) (lv' := [(3, .int y_33), (2, .int z_32), (0, .ref h0), (1, .int v1)]) hx hb dX10_children_32 hl (k := 1) rfl (by rw [ey_33]; rfl) (by decide) rfl (fun ls hl => ?_)
          have ty_33 : y_33.toInt = x_22.toInt + (1) := ar_add rfl ti_1 ey_33 (by omega)
          refine lv_goto (tgt := 6) hx hb dX10_children_35 (by decide) ?_
          exact ih_23 z_32 y_33 H locs ls (by omega) (by omega) hP hD hS (lv_sub hl [0, 1, 2, 3] rfl)
  exact L6 _ (0) z_20 _ _ _ (Nat.lt_succ_self _) (by have t_0 := ti_0; omega) hP hD hS (lv_sub hl [0, 1, 2, 3] rfl)

set_option maxHeartbeats 8000000 in
set_option maxRecDepth 100000 in
theorem c_X10_free (l : Launch) (dC : Nat → ClassId) (dI : Nat → Nat → Nat) (kp : Int) (h0 : Nat) (X : Nat → Nat) (C : Nat → ClassId) (F : Nat → Nat → Int32) (n : Nat → Int32) (sz : Nat) (hI : I10 kp F n) : Met l yX10_free (.code yX10_free cX10_free 2 (some .int) :: gw) ({ frames := 0, cells := 0, slots := 0, locals := 0 }) (va_Pc [.ref h0] (fun U => U.heap.size = sz ∧ va_P (dC, dI) vwCl (w10 h0 X C F n) U.heap ∧ va_K (dC, dI) vwCl (t10 C) U ∧ va_D (fun _ => True) (w10 h0 X C F n) ∧ nx U)) (va_Qi (fun (r : Int32) (u : Unit) => -1 ≤ r.toInt ∧ r.toInt ≤ 5) (fun _ t => va_P (dC, dI) vwCl (w10 h0 X C F n) t.heap ∧ va_D (va_A (w10 h0 X C F n) sz) (w10 h0 X C F n)) (va_A (w10 h0 X C F n) sz)) 0 0 (va_A (w10 h0 X C F n) sz) := by
  refine Met.ofW (cc := cX10_free) (maxL := 2) (ret := (some .int)) (by decide) rfl ?_
  intro p e s m args below meth c s₁ B hml hv
  obtain ⟨rfl, hsz, hP, hK, hD0, hN⟩ := hv
  have hx := B.exec
  have hb := B.bytes
  have hr := B.returns
  have hts := atoms_spec (ws := .code yX10_free cX10_free 2 (some .int) :: gw) B.pre
  have hg : ∀ w ∈ gw, w.before _ s = true := fun w h => hts w (List.mem_cons_of_mem _ h)
  have hown : s.vm.findClass RX10 = some m.cls := findClass_of_methodNamed B.named
  have hlocks := B.notSynchronized
  subst hsz
  have hD := hD0.self (sz := s.heap.size)
  generalize hAe : va_A (w10 h0 X C F n) s.heap.size = A at hD ⊢
  have hA : ∀ q : Nat, s.heap.size ≤ q → A q := fun q h => by rw [← hAe]; exact Or.inr h
  have hS : va_S A s.heap s.heap [] := va_S.rf
  have hP : va_P (dC, dI) vwCl (w10 h0 X C F n) s.heap := hP
  have hl := lv_entry ([.ref h0]) (n := 2) (Nat.le_of_ble_eq_true rfl)
  rw [lg_entry_eq]
  generalize (lg_sl ([.ref h0]) ++ List.replicate (2 - (lg_sl ([.ref h0])).length) Slot.unset).toArray = ls at hl ⊢
  have hl : lv_has ls 2 [(0, .ref h0)] := hl
  obtain ⟨b_1, b_2, b_3, b_4, b_5, b_6, b_7, b_8, b_9, b_10, b_11, b_12, i_13, i_14, i_15, i_16, i_17, i_18, i_19⟩ := id hI
  refine lv_iconst (v := 0) hx hb dX10_free_0 (by decide) ?_
  refine lv_istore_n (lv' := [(1, .int 0), (0, .ref h0)]) hx hb dX10_free_1 rfl hl (by decide) rfl (fun ls hl => ?_)
  have L2 : ∀ (fuel : Nat) (x_20 : Int32) (H : Heap) (locs : List Loc) (ls : Array Slot), (7 - x_20.toInt).toNat < fuel → 0 ≤ x_20.toInt ∧ x_20.toInt ≤ 6 → va_P (dC, dI) vwCl (w10 h0 X C F n) H → va_D A (w10 h0 X C F n) → va_S A s.heap H locs → lv_has ls 2 [(1, .int x_20), (0, .ref h0)] → W p l e (headSpec (.code yX10_free cX10_free 2 (some .int) :: gw) ({ frames := 0, cells := 0, slots := 0, locals := 0 })).room s m ([.ref h0] : List Value).toArray below meth c H locs 0 0 (MQ below (va_Qi (fun (r : Int32) (u : Unit) => -1 ≤ r.toInt ∧ r.toInt ≤ 5) (fun _ t => va_P (dC, dI) vwCl (w10 h0 X C F n) t.heap ∧ va_D A (w10 h0 X C F n)) A) ([.ref h0] : List Value).toArray s 0 0 A) (F0 m 2 ls []) := by
    intro fuel
    induction fuel with
    | zero => intro x_20 H locs ls hm; exact absurd hm (Nat.not_lt_zero _)
    | succ fuel_22 ih_21 =>
      intro x_20 H locs ls hm_24 v_23 hP hD hS hl
      refine lv_iload_n hx hb dX10_free_2 rfl (lv_at hl 0 rfl) ?_
      refine lv_aload_n hx hb dX10_free_3 rfl (lv_at hl 1 rfl) ?_
      refine va_get (D := (dC, dI)) (ci := 10) (v := .int (n 9)) (C := RX10) (T := TX10) (N := 60) hx hb hg gb_10 hown hK hP 0 rfl rfl 9 (by decide) (hg _ gm_fieldLink_RX10_38_ErrandGuildModel_threads_I_) (fun _ h9 => h9) rfl dX10_free_4 ?_
      refine lv_icmp_ge (tgt := 28) hx hb dX10_free_7 (by decide) (fun c_25 => ?_) (fun c_25 => ?_)
      · simp only [i_lt, i_le, i_eq] at c_25
        refine lv_iconst (v := -1) hx hb dX10_free_28 (by decide) ?_
        exact W.iret (v := -1) hx hb hr (fun t ht hW => ⟨⟨-1, (), rfl, (by have t_ := ti_m1; show -1 ≤ (-1 : Int32).toInt ∧ (-1 : Int32).toInt ≤ 5; omega), by rw [ht]; exact hP, hD⟩, hS.F ht⟩) hS.2.2 dX10_free_29
      · simp only [i_lt, i_le, i_eq] at c_25
        refine lv_aload_n hx hb dX10_free_10 rfl (lv_at hl 1 rfl) ?_
        refine va_get (D := (dC, dI)) (ci := 10) (v := .ref (X 10)) (C := RX10) (T := TX10) (N := 60) hx hb hg gb_10 hown hK hP 0 rfl rfl 10 (by decide) (hg _ gm_fieldLink_RX10_42_ErrandGuildModel_onThread_AI_) (fun _ h9 => h9) rfl dX10_free_11 ?_
        refine lv_iload_n hx hb dX10_free_14 rfl (lv_at hl 0 rfl) ?_
        refine va_iald hx hb hK hP 10 9 rfl rfl (vp_in_iff.mpr ⟨by omega, by omega⟩) dX10_free_15 ?_
        refine lv_topi (fun z_26 ez_26 => ?_)
        refine lv_iconst (v := -1) hx hb dX10_free_16 (by decide) ?_
        refine lv_icmp_ne (tgt := 22) hx hb dX10_free_17 (by decide) (fun c_27 => ?_) (fun c_27 => ?_)
        · simp only [i_lt, i_le, i_eq, ti_m1] at c_27
          obtain ⟨y_28, ey_28⟩ : ∃ q : Int32, q = x_20 + (1) := ⟨_, rfl⟩
          refine lv_iinc (v := y_28) (lv' := [(1, .int y_28), (0, .ref h0)]) hx hb dX10_free_22 hl (k := 0) rfl (by rw [ey_28]; rfl) (by decide) rfl (fun ls hl => ?_)
          have ty_28 : y_28.toInt = x_20.toInt + (1) := ar_add rfl ti_1 ey_28 (by omega)
          refine lv_goto (tgt := 2) hx hb dX10_free_25 (by decide) ?_
          exact ih_21 y_28 H locs ls (by omega) (by omega) hP hD hS (lv_sub hl [0, 1] rfl)
        · simp only [i_lt, i_le, i_eq, ti_m1] at c_27
          refine lv_iload_n hx hb dX10_free_20 rfl (lv_at hl 0 rfl) ?_
          exact W.iret (v := x_20) hx hb hr (fun t ht hW => ⟨⟨x_20, (), rfl, (by show -1 ≤ (x_20 : Int32).toInt ∧ (x_20 : Int32).toInt ≤ 5; omega), by rw [ht]; exact hP, hD⟩, hS.F ht⟩) hS.2.2 dX10_free_21
  exact L2 _ (0) _ _ _ (Nat.lt_succ_self _) (by have t_0 := ti_0; omega) hP hD hS (lv_sub hl [0, 1] rfl)

set_option maxHeartbeats 8000000 in
set_option maxRecDepth 100000 in
theorem c_X10_isLeft (l : Launch) (dC : Nat → ClassId) (dI : Nat → Nat → Nat) (kp : Int) (h0 : Nat) (X : Nat → Nat) (C : Nat → ClassId) (F : Nat → Nat → Int32) (n : Nat → Int32) (sz : Nat) (hI : I10 kp F n) : Met l yX10_isLeft (.code yX10_isLeft cX10_isLeft 3 (some .boolean) :: gw) ({ frames := 1, cells := 0, slots := 0, locals := 21 }) (va_Pc [.ref h0] (fun U => U.heap.size = sz ∧ va_P (dC, dI) vwCl (w10 h0 X C F n) U.heap ∧ va_K (dC, dI) vwCl (t10 C) U ∧ va_D (fun _ => True) (w10 h0 X C F n) ∧ nx U)) (va_Qi (fun (r : Int32) (u : Unit) => (r = 1 ∧ True) ∨ (r = 0 ∧ True)) (fun _ t => va_P (dC, dI) vwCl (w10 h0 X C F n) t.heap ∧ va_D (va_A (w10 h0 X C F n) sz) (w10 h0 X C F n)) (va_A (w10 h0 X C F n) sz)) 0 0 (va_A (w10 h0 X C F n) sz) := by
  refine Met.ofW (cc := cX10_isLeft) (maxL := 3) (ret := (some .boolean)) (by decide) rfl ?_
  intro p e s m args below meth c s₁ B hml hv
  obtain ⟨rfl, hsz, hP, hK, hD0, hN⟩ := hv
  have hx := B.exec
  have hb := B.bytes
  have hr := B.returns
  have hts := atoms_spec (ws := .code yX10_isLeft cX10_isLeft 3 (some .boolean) :: gw) B.pre
  have hg : ∀ w ∈ gw, w.before _ s = true := fun w h => hts w (List.mem_cons_of_mem _ h)
  have hown : s.vm.findClass RX10 = some m.cls := findClass_of_methodNamed B.named
  have hlocks := B.notSynchronized
  subst hsz
  have hD := hD0.self (sz := s.heap.size)
  generalize hAe : va_A (w10 h0 X C F n) s.heap.size = A at hD ⊢
  have hA : ∀ q : Nat, s.heap.size ≤ q → A q := fun q h => by rw [← hAe]; exact Or.inr h
  have hS : va_S A s.heap s.heap [] := va_S.rf
  have hP : va_P (dC, dI) vwCl (w10 h0 X C F n) s.heap := hP
  have hl := lv_entry ([.ref h0]) (n := 3) (Nat.le_of_ble_eq_true rfl)
  rw [lg_entry_eq]
  generalize (lg_sl ([.ref h0]) ++ List.replicate (3 - (lg_sl ([.ref h0])).length) Slot.unset).toArray = ls at hl ⊢
  have hl : lv_has ls 3 [(0, .ref h0)] := hl
  obtain ⟨b_1, b_2, b_3, b_4, b_5, b_6, b_7, b_8, b_9, b_10, b_11, b_12, i_13, i_14, i_15, i_16, i_17, i_18, i_19⟩ := id hI
  refine lv_iconst (v := 0) hx hb dX10_isLeft_0 (by decide) ?_
  refine lv_istore_n (lv' := [(1, .int 0), (0, .ref h0)]) hx hb dX10_isLeft_1 rfl hl (by decide) rfl (fun ls hl => ?_)
  refine lv_iconst (v := 0) hx hb dX10_isLeft_2 (by decide) ?_
  refine lv_istore_n (lv' := [(2, .int 0), (1, .int 0), (0, .ref h0)]) hx hb dX10_isLeft_3 rfl hl (by decide) rfl (fun ls hl => ?_)
  have L4 : ∀ (fuel : Nat) (x_20 : Int32) (x_21 : Int32) (H : Heap) (locs : List Loc) (ls : Array Slot), (201 - x_21.toInt).toNat < fuel → 0 ≤ x_21.toInt ∧ x_21.toInt ≤ 200 → x_20.toInt = 0 ∨ x_20.toInt = 1 → va_P (dC, dI) vwCl (w10 h0 X C F n) H → va_D A (w10 h0 X C F n) → va_S A s.heap H locs → lv_has ls 3 [(2, .int x_21), (1, .int x_20), (0, .ref h0)] → W p l e (headSpec (.code yX10_isLeft cX10_isLeft 3 (some .boolean) :: gw) ({ frames := 1, cells := 0, slots := 0, locals := 21 })).room s m ([.ref h0] : List Value).toArray below meth c H locs 0 0 (MQ below (va_Qi (fun (r : Int32) (u : Unit) => (r = 1 ∧ True) ∨ (r = 0 ∧ True)) (fun _ t => va_P (dC, dI) vwCl (w10 h0 X C F n) t.heap ∧ va_D A (w10 h0 X C F n)) A) ([.ref h0] : List Value).toArray s 0 0 A) (F0 m 4 ls []) := by
    intro fuel
    induction fuel with
    | zero => intro x_20 x_21 H locs ls hm; exact absurd hm (Nat.not_lt_zero _)
    | succ fuel_23 ih_22 =>
      intro x_20 x_21 H locs ls hm_26 v_24 v_25 hP hD hS hl
      refine lv_iload_n hx hb dX10_isLeft_4 rfl (lv_at hl 0 rfl) ?_
      refine lv_aload_n hx hb dX10_isLeft_5 rfl (lv_at hl 2 rfl) ?_
      refine va_get (D := (dC, dI)) (ci := 10) (v := .int (n 11)) (C := RX10) (T := TX10) (N := 60) hx hb hg gb_10 hown hK hP 0 rfl rfl 11 (by decide) (hg _ gm_fieldLink_RX10_176_ErrandGuildModel_runs_I_) (fun _ h9 => h9) rfl dX10_isLeft_6 ?_
      refine lv_icmp_ge (tgt := 36) hx hb dX10_isLeft_9 (by decide) (fun c_27 => ?_) (fun c_27 => ?_)
      · simp only [i_lt, i_le, i_eq] at c_27
        refine lv_iload_n hx hb dX10_isLeft_36 rfl (lv_at hl 1 rfl) ?_
        rcases zo (show x_20.toInt = 0 ∨ x_20.toInt = 1 by omega) with rfl | rfl
        · exact W.zret (v := 1) hx hb hr rfl (fun t ht hW => ⟨⟨1, (), rfl, (Or.inl ⟨rfl, trivial⟩), by rw [ht]; exact hP, hD⟩, hS.F ht⟩) hS.2.2 dX10_isLeft_37
        · exact W.zret (v := 0) hx hb hr rfl (fun t ht hW => ⟨⟨0, (), rfl, (Or.inr ⟨rfl, trivial⟩), by rw [ht]; exact hP, hD⟩, hS.F ht⟩) hS.2.2 dX10_isLeft_37
      · simp only [i_lt, i_le, i_eq] at c_27
        refine lv_iload_n hx hb dX10_isLeft_12 rfl (lv_at hl 1 rfl) ?_
        refine lv_if_ne (tgt := 24) hx hb dX10_isLeft_13 (by decide) (fun c_28 => ?_) (fun c_28 => ?_)
        · simp only [i_lt, i_le, i_eq, ti_0] at c_28
          refine lv_iconst (v := 1) hx hb dX10_isLeft_24 (by decide) ?_
          refine lv_goto (tgt := 29) hx hb dX10_isLeft_25 (by decide) ?_
          refine lv_istore_n (lv' := [(1, .int 1), (2, .int x_21), (0, .ref h0)]) hx hb dX10_isLeft_29 rfl hl (by decide) rfl (fun ls hl => ?_)
          obtain ⟨y_29, ey_29⟩ : ∃ q : Int32, q = x_21 + (1) := ⟨_, rfl⟩
          refine lv_iinc (v := y_29) (lv' := [(2, .int y_29), (1, .int 1), (0, .ref h0)]) hx hb dX10_isLeft_30 hl (k := 1) rfl (by rw [ey_29]; rfl) (by decide) rfl (fun ls hl => ?_)
          have ty_29 : y_29.toInt = x_21.toInt + (1) := ar_add rfl ti_1 ey_29 (by omega)
          refine lv_goto (tgt := 4) hx hb dX10_isLeft_33 (by decide) ?_
          exact ih_22 (1) y_29 H locs ls (by have t_0 := ti_1; omega) (by have t_0 := ti_1; omega) (by have t_0 := ti_1; omega) hP hD hS (lv_sub hl [0, 1, 2] rfl)
        · simp only [i_lt, i_le, i_eq, ti_0] at c_28
          refine lv_aload_n hx hb dX10_isLeft_16 rfl (lv_at hl 2 rfl) ?_
          refine lv_iload_n hx hb dX10_isLeft_17 rfl (lv_at hl 0 rfl) ?_
          have hFc := free_all hD hS hA
          refine va_calli (va_runV (As := [.int x_21]) (rest := []) ⟨hx, hb, hml, hown, hg⟩ (c_X10_isOver l dC dI kp h0 X C F n x_21 H.size ⟨b_1, b_2, b_3, b_4, b_5, b_6, b_7, b_8, b_9, b_10, b_11, b_12, i_13, i_14, i_15, i_16, i_17, i_18, i_19⟩ (by omega)) (cwV 1 hg (gw_V gm_methodLink_RX10_215_yX10_isOver gm_instanceMethod_yX10_isOver gm_selects_RX10_yX10_isOver_yX10_isOver gm_initialized_RX10 gm_code_yX10_isOver_cX10_isOver_2_some_boolean_) rfl rfl rfl (by decide +kernel) ⟨Nat.le_of_ble_eq_true rfl, Nat.le_of_ble_eq_true rfl⟩) ⟨fun a U g mk q => by obtain ⟨q0, q1, qP, qK, qD, qN⟩ := q; exact ⟨q0, q1, qP, va_K.moved (u := U) (U := U.calling g mk a) (Vm.Alike.refl U.vm) qK, qD, nx_same (u := U) (U := U.calling g mk a) rfl qN⟩, va_recv hK hP (ci := 10) (q0 := 0) rfl rfl, fun U hU hW => ⟨rfl, by rw [hU], by rw [hU]; exact hP, va_K.moved hW.alike hK, hD.weaken (fun _ _ _ _ => trivial), nx_warm hW hN⟩⟩ rfl rfl hl.1 rfl (lv_room (Nat.le_of_ble_eq_true rfl)) dX10_isLeft_18 ⟨Nat.le_of_ble_eq_true rfl, Nat.le_of_ble_eq_true rfl⟩) hS (fun q _ h => hFc q h) hFc (fun r_30 u_31 t H1 locs ht hvm hw hB hz1 hk1 hS => ?_)
          obtain ⟨hP, hD⟩ := hB
          rw [ht] at hP
          have hD := hD.weaken (fun k q _ h => hFc _ h)
          generalize H1 = H at hP hS ⊢
          have hP : va_P (dC, dI) vwCl (w10 h0 X C F n) H := hP
          have hD : va_D A (w10 h0 X C F n) := hD
          rcases hw with ⟨rfl, w_32⟩ | ⟨rfl, w_32⟩
          · refine lv_if_ne (tgt := 28) hx hb dX10_isLeft_21 (by decide) (fun _ => ?_) (fun c_33 => absurd c_33 (by decide))
            refine lv_iconst (v := 0) hx hb dX10_isLeft_28 (by decide) ?_
            refine lv_istore_n (lv' := [(1, .int 0), (2, .int x_21), (0, .ref h0)]) hx hb dX10_isLeft_29 rfl hl (by decide) rfl (fun ls hl => ?_)
            obtain ⟨y_34, ey_34⟩ : ∃ q : Int32, q = x_21 + (1) := ⟨_, rfl⟩
            refine lv_iinc (v := y_34) (lv' := [(2, .int y_34), (1, .int 0), (0, .ref h0)]) hx hb dX10_isLeft_30 hl (k := 1) rfl (by rw [ey_34]; rfl) (by decide) rfl (fun ls hl => ?_)
            have ty_34 : y_34.toInt = x_21.toInt + (1) := ar_add rfl ti_1 ey_34 (by omega)
            refine lv_goto (tgt := 4) hx hb dX10_isLeft_33 (by decide) ?_
            exact ih_22 (0) y_34 H locs ls (by have t_0 := ti_0; omega) (by have t_0 := ti_0; omega) (by have t_0 := ti_0; omega) hP hD hS (lv_sub hl [0, 1, 2] rfl)
          · refine lv_if_ne (tgt := 28) hx hb dX10_isLeft_21 (by decide) (fun c_35 => absurd c_35 (by decide)) (fun _ => ?_)
            refine lv_iconst (v := 1) hx hb dX10_isLeft_24 (by decide) ?_
            refine lv_goto (tgt := 29) hx hb dX10_isLeft_25 (by decide) ?_
            refine lv_istore_n (lv' := [(1, .int 1), (2, .int x_21), (0, .ref h0)]) hx hb dX10_isLeft_29 rfl hl (by decide) rfl (fun ls hl => ?_)
            obtain ⟨y_36, ey_36⟩ : ∃ q : Int32, q = x_21 + (1) := ⟨_, rfl⟩
            refine lv_iinc (v := y_36) (lv' := [(2, .int y_36), (1, .int 1), (0, .ref h0)]) hx hb dX10_isLeft_30 hl (k := 1) rfl (by rw [ey_36]; rfl) (by decide) rfl (fun ls hl => ?_)
            have ty_36 : y_36.toInt = x_21.toInt + (1) := ar_add rfl ti_1 ey_36 (by omega)
            refine lv_goto (tgt := 4) hx hb dX10_isLeft_33 (by decide) ?_
            exact ih_22 (1) y_36 H locs ls (by have t_0 := ti_1; omega) (by have t_0 := ti_1; omega) (by have t_0 := ti_1; omega) hP hD hS (lv_sub hl [0, 1, 2] rfl)
  exact L4 _ (0) (0) _ _ _ (Nat.lt_succ_self _) (by have t_0 := ti_0; have t_1 := ti_0; omega) (by have t_0 := ti_0; have t_1 := ti_0; omega) hP hD hS (lv_sub hl [0, 1, 2] rfl)

set_option maxHeartbeats 8000000 in
set_option maxRecDepth 100000 in
theorem c_X10_inState (l : Launch) (dC : Nat → ClassId) (dI : Nat → Nat → Nat) (kp : Int) (h0 : Nat) (X : Nat → Nat) (C : Nat → ClassId) (F : Nat → Nat → Int32) (n : Nat → Int32) (v1 : Int32) (sz : Nat) (hI : I10 kp F n) : Met l yX10_inState (.code yX10_inState cX10_inState 4 (some .int) :: gw) ({ frames := 0, cells := 0, slots := 0, locals := 0 }) (va_Pc [.ref h0, .int v1] (fun U => U.heap.size = sz ∧ va_P (dC, dI) vwCl (w10 h0 X C F n) U.heap ∧ va_K (dC, dI) vwCl (t10 C) U ∧ va_D (fun _ => True) (w10 h0 X C F n) ∧ nx U)) (va_Qi (fun (r : Int32) (u : Unit) => True) (fun _ t => va_P (dC, dI) vwCl (w10 h0 X C F n) t.heap ∧ va_D (va_A (w10 h0 X C F n) sz) (w10 h0 X C F n)) (va_A (w10 h0 X C F n) sz)) 0 0 (va_A (w10 h0 X C F n) sz) := by
  refine Met.ofW (cc := cX10_inState) (maxL := 4) (ret := (some .int)) (by decide) rfl ?_
  intro p e s m args below meth c s₁ B hml hv
  obtain ⟨rfl, hsz, hP, hK, hD0, hN⟩ := hv
  have hx := B.exec
  have hb := B.bytes
  have hr := B.returns
  have hts := atoms_spec (ws := .code yX10_inState cX10_inState 4 (some .int) :: gw) B.pre
  have hg : ∀ w ∈ gw, w.before _ s = true := fun w h => hts w (List.mem_cons_of_mem _ h)
  have hown : s.vm.findClass RX10 = some m.cls := findClass_of_methodNamed B.named
  have hlocks := B.notSynchronized
  subst hsz
  have hD := hD0.self (sz := s.heap.size)
  generalize hAe : va_A (w10 h0 X C F n) s.heap.size = A at hD ⊢
  have hA : ∀ q : Nat, s.heap.size ≤ q → A q := fun q h => by rw [← hAe]; exact Or.inr h
  have hS : va_S A s.heap s.heap [] := va_S.rf
  have hP : va_P (dC, dI) vwCl (w10 h0 X C F n) s.heap := hP
  have hl := lv_entry ([.ref h0, .int v1]) (n := 4) (Nat.le_of_ble_eq_true rfl)
  rw [lg_entry_eq]
  generalize (lg_sl ([.ref h0, .int v1]) ++ List.replicate (4 - (lg_sl ([.ref h0, .int v1])).length) Slot.unset).toArray = ls at hl ⊢
  have hl : lv_has ls 4 [(0, .ref h0), (1, .int v1)] := hl
  obtain ⟨b_1, b_2, b_3, b_4, b_5, b_6, b_7, b_8, b_9, b_10, b_11, b_12, i_13, i_14, i_15, i_16, i_17, i_18, i_19⟩ := id hI
  refine lv_iconst (v := 0) hx hb dX10_inState_0 (by decide) ?_
  refine lv_istore_n (lv' := [(2, .int 0), (0, .ref h0), (1, .int v1)]) hx hb dX10_inState_1 rfl hl (by decide) rfl (fun ls hl => ?_)
  refine lv_iconst (v := 0) hx hb dX10_inState_2 (by decide) ?_
  refine lv_istore_n (lv' := [(3, .int 0), (2, .int 0), (0, .ref h0), (1, .int v1)]) hx hb dX10_inState_3 rfl hl (by decide) rfl (fun ls hl => ?_)
  have L4 : ∀ (fuel : Nat) (x_20 : Int32) (x_21 : Int32) (H : Heap) (locs : List Loc) (ls : Array Slot), (201 - x_21.toInt).toNat < fuel → 0 ≤ x_21.toInt ∧ x_21.toInt ≤ 200 → va_P (dC, dI) vwCl (w10 h0 X C F n) H → va_D A (w10 h0 X C F n) → va_S A s.heap H locs → lv_has ls 4 [(3, .int x_21), (2, .int x_20), (0, .ref h0), (1, .int v1)] → W p l e (headSpec (.code yX10_inState cX10_inState 4 (some .int) :: gw) ({ frames := 0, cells := 0, slots := 0, locals := 0 })).room s m ([.ref h0, .int v1] : List Value).toArray below meth c H locs 0 0 (MQ below (va_Qi (fun (r : Int32) (u : Unit) => True) (fun _ t => va_P (dC, dI) vwCl (w10 h0 X C F n) t.heap ∧ va_D A (w10 h0 X C F n)) A) ([.ref h0, .int v1] : List Value).toArray s 0 0 A) (F0 m 4 ls []) := by
    intro fuel
    induction fuel with
    | zero => intro x_20 x_21 H locs ls hm; exact absurd hm (Nat.not_lt_zero _)
    | succ fuel_23 ih_22 =>
      intro x_20 x_21 H locs ls hm_25 v_24 hP hD hS hl
      refine lv_iload_n hx hb dX10_inState_4 rfl (lv_at hl 0 rfl) ?_
      refine lv_aload_n hx hb dX10_inState_5 rfl (lv_at hl 2 rfl) ?_
      refine va_get (D := (dC, dI)) (ci := 10) (v := .int (n 11)) (C := RX10) (T := TX10) (N := 60) hx hb hg gb_10 hown hK hP 0 rfl rfl 11 (by decide) (hg _ gm_fieldLink_RX10_176_ErrandGuildModel_runs_I_) (fun _ h9 => h9) rfl dX10_inState_6 ?_
      refine lv_icmp_ge (tgt := 36) hx hb dX10_inState_9 (by decide) (fun c_26 => ?_) (fun c_26 => ?_)
      · simp only [i_lt, i_le, i_eq] at c_26
        refine lv_iload_n hx hb dX10_inState_36 rfl (lv_at hl 1 rfl) ?_
        exact W.iret (v := x_20) hx hb hr (fun t ht hW => ⟨⟨x_20, (), rfl, trivial, by rw [ht]; exact hP, hD⟩, hS.F ht⟩) hS.2.2 dX10_inState_37
      · simp only [i_lt, i_le, i_eq] at c_26
        refine lv_iload_n hx hb dX10_inState_12 rfl (lv_at hl 1 rfl) ?_
        refine lv_aload_n hx hb dX10_inState_13 rfl (lv_at hl 2 rfl) ?_
        refine va_get (D := (dC, dI)) (ci := 10) (v := .ref (X 13)) (C := RX10) (T := TX10) (N := 60) hx hb hg gb_10 hown hK hP 0 rfl rfl 13 (by decide) (hg _ gm_fieldLink_RX10_45_ErrandGuildModel_state_AI_) (fun _ h9 => h9) rfl dX10_inState_14 ?_
        refine lv_iload_n hx hb dX10_inState_17 rfl (lv_at hl 0 rfl) ?_
        refine va_iald hx hb hK hP 11 10 rfl rfl (vp_in_iff.mpr ⟨by omega, by omega⟩) dX10_inState_18 ?_
        refine lv_topi (fun z_27 ez_27 => ?_)
        have bz_27 := bd_at b_3 ez_27
        refine lv_iload_n hx hb dX10_inState_19 rfl (lv_at hl 3 rfl) ?_
        refine lv_icmp_ne (tgt := 27) hx hb dX10_inState_20 (by decide) (fun c_28 => ?_) (fun c_28 => ?_)
        · simp only [i_lt, i_le, i_eq] at c_28
          refine lv_iconst (v := 0) hx hb dX10_inState_27 (by decide) ?_
          refine lv_iadd hx hb dX10_inState_28 ?_
          refine lv_topi (fun z_29 ez_29 => ?_)
          have tz_29 : z_29.toInt = x_20.toInt + 0 := ar_add rfl ti_0 ez_29 (by omega)
          refine lv_istore_n (lv' := [(2, .int z_29), (3, .int x_21), (0, .ref h0), (1, .int v1)]) hx hb dX10_inState_29 rfl hl (by decide) rfl (fun ls hl => ?_)
          obtain ⟨y_30, ey_30⟩ : ∃ q : Int32, q = x_21 + (1) := ⟨_, rfl⟩
          refine lv_iinc (v := y_30) (lv' := [(3, .int y_30), (2, .int z_29), (0, .ref h0), (1, .int v1)]) hx hb dX10_inState_30 hl (k := 1) rfl (by rw [ey_30]; rfl) (by decide) rfl (fun ls hl => ?_)
          have ty_30 : y_30.toInt = x_21.toInt + (1) := ar_add rfl ti_1 ey_30 (by omega)
          refine lv_goto (tgt := 4) hx hb dX10_inState_33 (by decide) ?_
          exact ih_22 z_29 y_30 H locs ls (by omega) (by omega) hP hD hS (lv_sub hl [0, 1, 2, 3] rfl)
        · simp only [i_lt, i_le, i_eq] at c_28
          refine lv_iconst (v := 1) hx hb dX10_inState_23 (by decide) ?_
          refine lv_goto (tgt := 28) hx hb dX10_inState_24 (by decide) ?_
          refine lv_iadd hx hb dX10_inState_28 ?_
          refine lv_topi (fun z_31 ez_31 => ?_)
          have tz_31 : z_31.toInt = x_20.toInt + 1 := ar_add rfl ti_1 ez_31 (by omega)
          refine lv_istore_n (lv' := [(2, .int z_31), (3, .int x_21), (0, .ref h0), (1, .int v1)]) hx hb dX10_inState_29 rfl hl (by decide) rfl (fun ls hl => ?_)
          obtain ⟨y_32, ey_32⟩ : ∃ q : Int32, q = x_21 + (1) := ⟨_, rfl⟩
          refine lv_iinc (v := y_32) (lv' := [(3, .int y_32), (2, .int z_31), (0, .ref h0), (1, .int v1)]) hx hb dX10_inState_30 hl (k := 1) rfl (by rw [ey_32]; rfl) (by decide) rfl (fun ls hl => ?_)
          have ty_32 : y_32.toInt = x_21.toInt + (1) := ar_add rfl ti_1 ey_32 (by omega)
          refine lv_goto (tgt := 4) hx hb dX10_inState_33 (by decide) ?_
          exact ih_22 z_31 y_32 H locs ls (by omega) (by omega) hP hD hS (lv_sub hl [0, 1, 2, 3] rfl)
  exact L4 _ (0) (0) _ _ _ (Nat.lt_succ_self _) (by have t_0 := ti_0; have t_1 := ti_0; omega) hP hD hS (lv_sub hl [0, 1, 2, 3] rfl)

set_option maxHeartbeats 8000000 in
set_option maxRecDepth 100000 in
theorem c_X10_binding (l : Launch) (dC : Nat → ClassId) (dI : Nat → Nat → Nat) (kp : Int) (h0 : Nat) (X : Nat → Nat) (C : Nat → ClassId) (F : Nat → Nat → Int32) (n : Nat → Int32) (v1 : Int32) (v2 : Int32) (sz : Nat) (hI : I10 kp F n) (hr : 0 ≤ v1.toInt ∧ v1.toInt < 200) : Met l yX10_binding (.code yX10_binding cX10_binding 4 (some .int) :: gw) ({ frames := 0, cells := 0, slots := 0, locals := 0 }) (va_Pc [.ref h0, .int v1, .int v2] (fun U => U.heap.size = sz ∧ va_P (dC, dI) vwCl (w10 h0 X C F n) U.heap ∧ va_K (dC, dI) vwCl (t10 C) U ∧ va_D (fun _ => True) (w10 h0 X C F n) ∧ nx U)) (va_Qi (fun (r : Int32) (u : Unit) => -1 ≤ r.toInt ∧ r.toInt < 4800) (fun _ t => va_P (dC, dI) vwCl (w10 h0 X C F n) t.heap ∧ va_D (va_A (w10 h0 X C F n) sz) (w10 h0 X C F n)) (va_A (w10 h0 X C F n) sz)) 0 0 (va_A (w10 h0 X C F n) sz) := by
  refine Met.ofW (cc := cX10_binding) (maxL := 4) (ret := (some .int)) (by decide) rfl ?_
  intro p e s m args below meth c s₁ B hml hv
  obtain ⟨rfl, hsz, hP, hK, hD0, hN⟩ := hv
  have hx := B.exec
  have hb := B.bytes
  have hr := B.returns
  have hts := atoms_spec (ws := .code yX10_binding cX10_binding 4 (some .int) :: gw) B.pre
  have hg : ∀ w ∈ gw, w.before _ s = true := fun w h => hts w (List.mem_cons_of_mem _ h)
  have hown : s.vm.findClass RX10 = some m.cls := findClass_of_methodNamed B.named
  have hlocks := B.notSynchronized
  subst hsz
  have hD := hD0.self (sz := s.heap.size)
  generalize hAe : va_A (w10 h0 X C F n) s.heap.size = A at hD ⊢
  have hA : ∀ q : Nat, s.heap.size ≤ q → A q := fun q h => by rw [← hAe]; exact Or.inr h
  have hS : va_S A s.heap s.heap [] := va_S.rf
  have hP : va_P (dC, dI) vwCl (w10 h0 X C F n) s.heap := hP
  have hl := lv_entry ([.ref h0, .int v1, .int v2]) (n := 4) (Nat.le_of_ble_eq_true rfl)
  rw [lg_entry_eq]
  generalize (lg_sl ([.ref h0, .int v1, .int v2]) ++ List.replicate (4 - (lg_sl ([.ref h0, .int v1, .int v2])).length) Slot.unset).toArray = ls at hl ⊢
  have hl : lv_has ls 4 [(0, .ref h0), (1, .int v1), (2, .int v2)] := hl
  obtain ⟨b_1, b_2, b_3, b_4, b_5, b_6, b_7, b_8, b_9, b_10, b_11, b_12, i_13, i_14, i_15, i_16, i_17, i_18, i_19⟩ := id hI
  refine lv_aload_n hx hb dX10_binding_0 rfl (lv_at hl 0 rfl) ?_
  refine va_get (D := (dC, dI)) (ci := 10) (v := .ref (X 36)) (C := RX10) (T := TX10) (N := 60) hx hb hg gb_10 hown hK hP 0 rfl rfl 36 (by decide) (hg _ gm_fieldLink_RX10_114_ErrandGuildModel_bindMany_AI_) (fun _ h9 => h9) rfl dX10_binding_1 ?_
  refine lv_iload_n hx hb dX10_binding_4 rfl (lv_at hl 1 rfl) ?_
  refine va_iald hx hb hK hP 34 33 rfl rfl (vp_in_iff.mpr ⟨by omega, by omega⟩) dX10_binding_5 ?_
  refine lv_topi (fun z_20 ez_20 => ?_)
  have bz_20 := bd_at b_10 ez_20
  refine lv_iconst (v := 1) hx hb dX10_binding_6 (by decide) ?_
  refine lv_isub hx hb dX10_binding_7 ?_
  refine lv_topi (fun z_21 ez_21 => ?_)
  have tz_21 : z_21.toInt = z_20.toInt - 1 := ar_sub rfl ti_1 ez_21 (by omega)
  refine lv_istore_n (lv' := [(3, .int z_21), (0, .ref h0), (1, .int v1), (2, .int v2)]) hx hb dX10_binding_8 rfl hl (by decide) rfl (fun ls hl => ?_)
  have L9 : ∀ (fuel : Nat) (x_22 : Int32) (H : Heap) (locs : List Loc) (ls : Array Slot), (x_22.toInt + 1).toNat < fuel → -1 ≤ x_22.toInt ∧ x_22.toInt ≤ 23 → va_P (dC, dI) vwCl (w10 h0 X C F n) H → va_D A (w10 h0 X C F n) → va_S A s.heap H locs → lv_has ls 4 [(3, .int x_22), (0, .ref h0), (1, .int v1), (2, .int v2)] → W p l e (headSpec (.code yX10_binding cX10_binding 4 (some .int) :: gw) ({ frames := 0, cells := 0, slots := 0, locals := 0 })).room s m ([.ref h0, .int v1, .int v2] : List Value).toArray below meth c H locs 0 0 (MQ below (va_Qi (fun (r : Int32) (u : Unit) => -1 ≤ r.toInt ∧ r.toInt < 4800) (fun _ t => va_P (dC, dI) vwCl (w10 h0 X C F n) t.heap ∧ va_D A (w10 h0 X C F n)) A) ([.ref h0, .int v1, .int v2] : List Value).toArray s 0 0 A) (F0 m 9 ls []) := by
    intro fuel
    induction fuel with
    | zero => intro x_22 H locs ls hm; exact absurd hm (Nat.not_lt_zero _)
    | succ fuel_24 ih_23 =>
      intro x_22 H locs ls hm_26 v_25 hP hD hS hl
      refine lv_iload_n hx hb dX10_binding_9 rfl (lv_at hl 0 rfl) ?_
      refine lv_if_lt (tgt := 41) hx hb dX10_binding_10 (by decide) (fun c_27 => ?_) (fun c_27 => ?_)
      · simp only [i_lt, i_le, i_eq, ti_0] at c_27
        refine lv_iconst (v := -1) hx hb dX10_binding_41 (by decide) ?_
        exact W.iret (v := -1) hx hb hr (fun t ht hW => ⟨⟨-1, (), rfl, (by have t_ := ti_m1; show -1 ≤ (-1 : Int32).toInt ∧ (-1 : Int32).toInt < 4800; omega), by rw [ht]; exact hP, hD⟩, hS.F ht⟩) hS.2.2 dX10_binding_42
      · simp only [i_lt, i_le, i_eq, ti_0] at c_27
        refine lv_aload_n hx hb dX10_binding_13 rfl (lv_at hl 1 rfl) ?_
        refine va_get (D := (dC, dI)) (ci := 10) (v := .ref (X 37)) (C := RX10) (T := TX10) (N := 60) hx hb hg gb_10 hown hK hP 0 rfl rfl 37 (by decide) (hg _ gm_fieldLink_RX10_117_ErrandGuildModel_bindSlot_AI_) (fun _ h9 => h9) rfl dX10_binding_14 ?_
        refine lv_bipush (v := 24) hx hb dX10_binding_17 (by decide) ?_
        refine lv_iload_n hx hb dX10_binding_19 rfl (lv_at hl 2 rfl) ?_
        refine lv_imul hx hb dX10_binding_20 ?_
        refine lv_topi (fun z_28 ez_28 => ?_)
        have tz_28 : z_28.toInt = 24 * v1.toInt := ar_mul ti_24 rfl ez_28 (by omega)
        refine lv_iload_n hx hb dX10_binding_21 rfl (lv_at hl 0 rfl) ?_
        refine lv_iadd hx hb dX10_binding_22 ?_
        refine lv_topi (fun z_29 ez_29 => ?_)
        have tz_29 : z_29.toInt = z_28.toInt + x_22.toInt := ar_add rfl rfl ez_29 (by omega)
        refine va_iald hx hb hK hP 35 34 rfl rfl (vp_in_iff.mpr ⟨by omega, by omega⟩) dX10_binding_23 ?_
        refine lv_topi (fun z_30 ez_30 => ?_)
        refine lv_iload_n hx hb dX10_binding_24 rfl (lv_at hl 3 rfl) ?_
        refine lv_icmp_ne (tgt := 35) hx hb dX10_binding_25 (by decide) (fun c_31 => ?_) (fun c_31 => ?_)
        · simp only [i_lt, i_le, i_eq] at c_31
          obtain ⟨y_32, ey_32⟩ : ∃ q : Int32, q = x_22 + (-1) := ⟨_, rfl⟩
          refine lv_iinc (v := y_32) (lv' := [(3, .int y_32), (0, .ref h0), (1, .int v1), (2, .int v2)]) hx hb dX10_binding_35 hl (k := 0) rfl (by rw [ey_32]; rfl) (by decide) rfl (fun ls hl => ?_)
          have ty_32 : y_32.toInt = x_22.toInt + (-1) := ar_add rfl ti_m1 ey_32 (by omega)
          refine lv_goto (tgt := 9) hx hb dX10_binding_38 (by decide) ?_
          exact ih_23 y_32 H locs ls (by omega) (by omega) hP hD hS (lv_sub hl [0, 1, 2, 3] rfl)
        · simp only [i_lt, i_le, i_eq] at c_31
          refine lv_bipush (v := 24) hx hb dX10_binding_28 (by decide) ?_
          refine lv_iload_n hx hb dX10_binding_30 rfl (lv_at hl 2 rfl) ?_
          refine lv_imul hx hb dX10_binding_31 ?_
          refine lv_topi (fun z_33 ez_33 => ?_)
          have tz_33 : z_33.toInt = 24 * v1.toInt := ar_mul ti_24 rfl ez_33 (by omega)
          refine lv_iload_n hx hb dX10_binding_32 rfl (lv_at hl 0 rfl) ?_
          refine lv_iadd hx hb dX10_binding_33 ?_
          refine lv_topi (fun z_34 ez_34 => ?_)
          have tz_34 : z_34.toInt = z_33.toInt + x_22.toInt := ar_add rfl rfl ez_34 (by omega)
          exact W.iret (v := z_34) hx hb hr (fun t ht hW => ⟨⟨z_34, (), rfl, (by show -1 ≤ (z_34 : Int32).toInt ∧ (z_34 : Int32).toInt < 4800; omega), by rw [ht]; exact hP, hD⟩, hS.F ht⟩) hS.2.2 dX10_binding_34
  exact L9 _ z_21 _ _ _ (Nat.lt_succ_self _) (by omega) hP hD hS (lv_sub hl [0, 1, 2, 3] rfl)

set_option maxHeartbeats 8000000 in
set_option maxRecDepth 100000 in
theorem c_X10_reads (l : Launch) (dC : Nat → ClassId) (dI : Nat → Nat → Nat) (kp : Int) (h0 : Nat) (X : Nat → Nat) (C : Nat → ClassId) (F : Nat → Nat → Int32) (n : Nat → Int32) (v1 : Int32) (v2 : Int32) (sz : Nat) (hI : I10 kp F n) (hr : 0 ≤ v1.toInt ∧ v1.toInt < 200) (hs : 0 ≤ v2.toInt ∧ v2.toInt < 8) : Met l yX10_reads (.code yX10_reads cX10_reads 5 (some .int) :: gw) ({ frames := 1, cells := 0, slots := 0, locals := 23 }) (va_Pc [.ref h0, .int v1, .int v2] (fun U => U.heap.size = sz ∧ va_P (dC, dI) vwCl (w10 h0 X C F n) U.heap ∧ va_K (dC, dI) vwCl (t10 C) U ∧ va_D (fun _ => True) (w10 h0 X C F n) ∧ nx U)) (va_Qi (fun (r : Int32) (u : Unit) => True) (fun _ t => va_P (dC, dI) vwCl (w10 h0 X C F n) t.heap ∧ va_D (va_A (w10 h0 X C F n) sz) (w10 h0 X C F n)) (va_A (w10 h0 X C F n) sz)) 0 0 (va_A (w10 h0 X C F n) sz) := by
  refine Met.ofW (cc := cX10_reads) (maxL := 5) (ret := (some .int)) (by decide) rfl ?_
  intro p e s m args below meth c s₁ B hml hv
  obtain ⟨rfl, hsz, hP, hK, hD0, hN⟩ := hv
  have hx := B.exec
  have hb := B.bytes
  have hr := B.returns
  have hts := atoms_spec (ws := .code yX10_reads cX10_reads 5 (some .int) :: gw) B.pre
  have hg : ∀ w ∈ gw, w.before _ s = true := fun w h => hts w (List.mem_cons_of_mem _ h)
  have hown : s.vm.findClass RX10 = some m.cls := findClass_of_methodNamed B.named
  have hlocks := B.notSynchronized
  subst hsz
  have hD := hD0.self (sz := s.heap.size)
  generalize hAe : va_A (w10 h0 X C F n) s.heap.size = A at hD ⊢
  have hA : ∀ q : Nat, s.heap.size ≤ q → A q := fun q h => by rw [← hAe]; exact Or.inr h
  have hS : va_S A s.heap s.heap [] := va_S.rf
  have hP : va_P (dC, dI) vwCl (w10 h0 X C F n) s.heap := hP
  have hl := lv_entry ([.ref h0, .int v1, .int v2]) (n := 5) (Nat.le_of_ble_eq_true rfl)
  rw [lg_entry_eq]
  generalize (lg_sl ([.ref h0, .int v1, .int v2]) ++ List.replicate (5 - (lg_sl ([.ref h0, .int v1, .int v2])).length) Slot.unset).toArray = ls at hl ⊢
  have hl : lv_has ls 5 [(0, .ref h0), (1, .int v1), (2, .int v2)] := hl
  obtain ⟨b_1, b_2, b_3, b_4, b_5, b_6, b_7, b_8, b_9, b_10, b_11, b_12, i_13, i_14, i_15, i_16, i_17, i_18, i_19⟩ := id hI
  refine lv_bipush (v := 8) hx hb dX10_reads_0 (by decide) ?_
  refine lv_iload_n hx hb dX10_reads_2 rfl (lv_at hl 1 rfl) ?_
  refine lv_imul hx hb dX10_reads_3 ?_
  refine lv_topi (fun z_20 ez_20 => ?_)
  have tz_20 : z_20.toInt = 8 * v1.toInt := ar_mul ti_8 rfl ez_20 (by omega)
  refine lv_iload_n hx hb dX10_reads_4 rfl (lv_at hl 2 rfl) ?_
  refine lv_iadd hx hb dX10_reads_5 ?_
  refine lv_topi (fun z_21 ez_21 => ?_)
  have tz_21 : z_21.toInt = z_20.toInt + v2.toInt := ar_add rfl rfl ez_21 (by omega)
  refine lv_istore_n (lv' := [(3, .int z_21), (0, .ref h0), (1, .int v1), (2, .int v2)]) hx hb dX10_reads_6 rfl hl (by decide) rfl (fun ls hl => ?_)
  refine lv_aload_n hx hb dX10_reads_7 rfl (lv_at hl 1 rfl) ?_
  refine va_get (D := (dC, dI)) (ci := 10) (v := .ref (X 0)) (C := RX10) (T := TX10) (N := 60) hx hb hg gb_10 hown hK hP 0 rfl rfl 0 (by decide) (hg _ gm_fieldLink_RX10_7_ErrandGuildModel_manner_AI_) (fun _ h9 => h9) rfl dX10_reads_8 ?_
  refine lv_iload_n hx hb dX10_reads_11 rfl (lv_at hl 3 rfl) ?_
  refine va_iald hx hb hK hP 1 0 rfl rfl (vp_in_iff.mpr ⟨by omega, by omega⟩) dX10_reads_12 ?_
  refine lv_topi (fun z_22 ez_22 => ?_)
  rcases (show (z_22.toInt < 0 ∨ 3 < z_22.toInt) ∨ z_22.toInt = 0 ∨ z_22.toInt = 1 ∨ z_22.toInt = 2 ∨ z_22.toInt = 3 by omega) with sw_23 | sw_23 | sw_23 | sw_23 | sw_23
  · refine lv_tableOut (tgt := 175) hx hb dX10_reads_13 sw_23 (by decide) ?_
    refine lv_aload_n hx hb dX10_reads_175 rfl (lv_at hl 1 rfl) ?_
    refine va_get (D := (dC, dI)) (ci := 10) (v := .ref (X 35)) (C := RX10) (T := TX10) (N := 60) hx hb hg gb_10 hown hK hP 0 rfl rfl 35 (by decide) (hg _ gm_fieldLink_RX10_111_ErrandGuildModel_hasWritten_AZ_) (fun _ h9 => h9) rfl dX10_reads_176 ?_
    refine lv_iload_n hx hb dX10_reads_179 rfl (lv_at hl 0 rfl) ?_
    refine va_zald hx hb hK hP 33 32 rfl rfl (vp_in_iff.mpr ⟨by omega, by omega⟩) dX10_reads_180 ?_
    refine lv_topi (fun z_24 ez_24 => ?_)
    refine lv_if_eq (tgt := 193) hx hb dX10_reads_181 (by decide) (fun c_25 => ?_) (fun c_25 => ?_)
    · simp only [i_lt, i_le, i_eq, ti_0] at c_25
      refine lv_aload_n hx hb dX10_reads_193 rfl (lv_at hl 1 rfl) ?_
      refine va_get (D := (dC, dI)) (ci := 10) (v := .ref (X 1)) (C := RX10) (T := TX10) (N := 60) hx hb hg gb_10 hown hK hP 0 rfl rfl 1 (by decide) (hg _ gm_fieldLink_RX10_13_ErrandGuildModel_first_AI_) (fun _ h9 => h9) rfl dX10_reads_194 ?_
      refine lv_iload_n hx hb dX10_reads_197 rfl (lv_at hl 3 rfl) ?_
      refine va_iald hx hb hK hP 2 1 rfl rfl (vp_in_iff.mpr ⟨by omega, by omega⟩) dX10_reads_198 ?_
      refine lv_topi (fun z_26 ez_26 => ?_)
      exact W.iret (v := z_26) hx hb hr (fun t ht hW => ⟨⟨z_26, (), rfl, trivial, by rw [ht]; exact hP, hD⟩, hS.F ht⟩) hS.2.2 dX10_reads_199
    · simp only [i_lt, i_le, i_eq, ti_0] at c_25
      refine lv_aload_n hx hb dX10_reads_184 rfl (lv_at hl 1 rfl) ?_
      refine va_get (D := (dC, dI)) (ci := 10) (v := .ref (X 34)) (C := RX10) (T := TX10) (N := 60) hx hb hg gb_10 hown hK hP 0 rfl rfl 34 (by decide) (hg _ gm_fieldLink_RX10_108_ErrandGuildModel_wrote_AI_) (fun _ h9 => h9) rfl dX10_reads_185 ?_
      refine lv_iload_n hx hb dX10_reads_188 rfl (lv_at hl 0 rfl) ?_
      refine va_iald hx hb hK hP 32 31 rfl rfl (vp_in_iff.mpr ⟨by omega, by omega⟩) dX10_reads_189 ?_
      refine lv_topi (fun z_27 ez_27 => ?_)
      refine lv_goto (tgt := 199) hx hb dX10_reads_190 (by decide) ?_
      exact W.iret (v := z_27) hx hb hr (fun t ht hW => ⟨⟨z_27, (), rfl, trivial, by rw [ht]; exact hP, hD⟩, hS.F ht⟩) hS.2.2 dX10_reads_199
  · refine lv_tableIn (tgt := 44) hx hb dX10_reads_13 (by omega) (by omega) (by rw [sw_23]; rfl) (by decide) ?_
    refine lv_aload_n hx hb dX10_reads_44 rfl (lv_at hl 1 rfl) ?_
    refine va_get (D := (dC, dI)) (ci := 10) (v := .ref (X 35)) (C := RX10) (T := TX10) (N := 60) hx hb hg gb_10 hown hK hP 0 rfl rfl 35 (by decide) (hg _ gm_fieldLink_RX10_111_ErrandGuildModel_hasWritten_AZ_) (fun _ h9 => h9) rfl dX10_reads_45 ?_
    refine lv_iload_n hx hb dX10_reads_48 rfl (lv_at hl 0 rfl) ?_
    refine va_zald hx hb hK hP 33 32 rfl rfl (vp_in_iff.mpr ⟨by omega, by omega⟩) dX10_reads_49 ?_
    refine lv_topi (fun z_28 ez_28 => ?_)
    refine lv_if_eq (tgt := 72) hx hb dX10_reads_50 (by decide) (fun c_29 => ?_) (fun c_29 => ?_)
    · simp only [i_lt, i_le, i_eq, ti_0] at c_29
      refine lv_aload_n hx hb dX10_reads_72 rfl (lv_at hl 1 rfl) ?_
      refine va_get (D := (dC, dI)) (ci := 10) (v := .ref (X 1)) (C := RX10) (T := TX10) (N := 60) hx hb hg gb_10 hown hK hP 0 rfl rfl 1 (by decide) (hg _ gm_fieldLink_RX10_13_ErrandGuildModel_first_AI_) (fun _ h9 => h9) rfl dX10_reads_73 ?_
      refine lv_iload_n hx hb dX10_reads_76 rfl (lv_at hl 3 rfl) ?_
      refine va_iald hx hb hK hP 2 1 rfl rfl (vp_in_iff.mpr ⟨by omega, by omega⟩) dX10_reads_77 ?_
      refine lv_topi (fun z_30 ez_30 => ?_)
      exact W.iret (v := z_30) hx hb hr (fun t ht hW => ⟨⟨z_30, (), rfl, trivial, by rw [ht]; exact hP, hD⟩, hS.F ht⟩) hS.2.2 dX10_reads_78
    · simp only [i_lt, i_le, i_eq, ti_0] at c_29
      refine lv_aload_n hx hb dX10_reads_53 rfl (lv_at hl 1 rfl) ?_
      refine va_get (D := (dC, dI)) (ci := 10) (v := .ref (X 18)) (C := RX10) (T := TX10) (N := 60) hx hb hg gb_10 hown hK hP 0 rfl rfl 18 (by decide) (hg _ gm_fieldLink_RX10_60_ErrandGuildModel_thread_AI_) (fun _ h9 => h9) rfl dX10_reads_54 ?_
      refine lv_iload_n hx hb dX10_reads_57 rfl (lv_at hl 2 rfl) ?_
      refine va_iald hx hb hK hP 16 15 rfl rfl (vp_in_iff.mpr ⟨by omega, by omega⟩) dX10_reads_58 ?_
      refine lv_topi (fun z_31 ez_31 => ?_)
      have bz_31 := bd_at b_7 ez_31
      refine lv_iconst (v := -1) hx hb dX10_reads_59 (by decide) ?_
      refine lv_icmp_eq (tgt := 72) hx hb dX10_reads_60 (by decide) (fun c_32 => ?_) (fun c_32 => ?_)
      · simp only [i_lt, i_le, i_eq, ti_m1] at c_32
        refine lv_aload_n hx hb dX10_reads_72 rfl (lv_at hl 1 rfl) ?_
        refine va_get (D := (dC, dI)) (ci := 10) (v := .ref (X 1)) (C := RX10) (T := TX10) (N := 60) hx hb hg gb_10 hown hK hP 0 rfl rfl 1 (by decide) (hg _ gm_fieldLink_RX10_13_ErrandGuildModel_first_AI_) (fun _ h9 => h9) rfl dX10_reads_73 ?_
        refine lv_iload_n hx hb dX10_reads_76 rfl (lv_at hl 3 rfl) ?_
        refine va_iald hx hb hK hP 2 1 rfl rfl (vp_in_iff.mpr ⟨by omega, by omega⟩) dX10_reads_77 ?_
        refine lv_topi (fun z_33 ez_33 => ?_)
        exact W.iret (v := z_33) hx hb hr (fun t ht hW => ⟨⟨z_33, (), rfl, trivial, by rw [ht]; exact hP, hD⟩, hS.F ht⟩) hS.2.2 dX10_reads_78
      · simp only [i_lt, i_le, i_eq, ti_m1] at c_32
        refine lv_aload_n hx hb dX10_reads_63 rfl (lv_at hl 1 rfl) ?_
        refine va_get (D := (dC, dI)) (ci := 10) (v := .ref (X 34)) (C := RX10) (T := TX10) (N := 60) hx hb hg gb_10 hown hK hP 0 rfl rfl 34 (by decide) (hg _ gm_fieldLink_RX10_108_ErrandGuildModel_wrote_AI_) (fun _ h9 => h9) rfl dX10_reads_64 ?_
        refine lv_iload_n hx hb dX10_reads_67 rfl (lv_at hl 0 rfl) ?_
        refine va_iald hx hb hK hP 32 31 rfl rfl (vp_in_iff.mpr ⟨by omega, by omega⟩) dX10_reads_68 ?_
        refine lv_topi (fun z_34 ez_34 => ?_)
        refine lv_goto (tgt := 78) hx hb dX10_reads_69 (by decide) ?_
        exact W.iret (v := z_34) hx hb hr (fun t ht hW => ⟨⟨z_34, (), rfl, trivial, by rw [ht]; exact hP, hD⟩, hS.F ht⟩) hS.2.2 dX10_reads_78
  · refine lv_tableIn (tgt := 79) hx hb dX10_reads_13 (by omega) (by omega) (by rw [sw_23]; rfl) (by decide) ?_
    refine lv_aload_n hx hb dX10_reads_79 rfl (lv_at hl 1 rfl) ?_
    refine va_get (D := (dC, dI)) (ci := 10) (v := .ref (X 35)) (C := RX10) (T := TX10) (N := 60) hx hb hg gb_10 hown hK hP 0 rfl rfl 35 (by decide) (hg _ gm_fieldLink_RX10_111_ErrandGuildModel_hasWritten_AZ_) (fun _ h9 => h9) rfl dX10_reads_80 ?_
    refine lv_iload_n hx hb dX10_reads_83 rfl (lv_at hl 0 rfl) ?_
    refine va_zald hx hb hK hP 33 32 rfl rfl (vp_in_iff.mpr ⟨by omega, by omega⟩) dX10_reads_84 ?_
    refine lv_topi (fun z_35 ez_35 => ?_)
    refine lv_if_eq (tgt := 97) hx hb dX10_reads_85 (by decide) (fun c_36 => ?_) (fun c_36 => ?_)
    · simp only [i_lt, i_le, i_eq, ti_0] at c_36
      refine lv_aload_n hx hb dX10_reads_97 rfl (lv_at hl 1 rfl) ?_
      refine va_get (D := (dC, dI)) (ci := 10) (v := .ref (X 33)) (C := RX10) (T := TX10) (N := 60) hx hb hg gb_10 hown hK hP 0 rfl rfl 33 (by decide) (hg _ gm_fieldLink_RX10_105_ErrandGuildModel_kept_AI_) (fun _ h9 => h9) rfl dX10_reads_98 ?_
      refine lv_iload_n hx hb dX10_reads_101 rfl (lv_at hl 0 rfl) ?_
      refine va_iald hx hb hK hP 31 30 rfl rfl (vp_in_iff.mpr ⟨by omega, by omega⟩) dX10_reads_102 ?_
      refine lv_topi (fun z_37 ez_37 => ?_)
      exact W.iret (v := z_37) hx hb hr (fun t ht hW => ⟨⟨z_37, (), rfl, trivial, by rw [ht]; exact hP, hD⟩, hS.F ht⟩) hS.2.2 dX10_reads_103
    · simp only [i_lt, i_le, i_eq, ti_0] at c_36
      refine lv_aload_n hx hb dX10_reads_88 rfl (lv_at hl 1 rfl) ?_
      refine va_get (D := (dC, dI)) (ci := 10) (v := .ref (X 34)) (C := RX10) (T := TX10) (N := 60) hx hb hg gb_10 hown hK hP 0 rfl rfl 34 (by decide) (hg _ gm_fieldLink_RX10_108_ErrandGuildModel_wrote_AI_) (fun _ h9 => h9) rfl dX10_reads_89 ?_
      refine lv_iload_n hx hb dX10_reads_92 rfl (lv_at hl 0 rfl) ?_
      refine va_iald hx hb hK hP 32 31 rfl rfl (vp_in_iff.mpr ⟨by omega, by omega⟩) dX10_reads_93 ?_
      refine lv_topi (fun z_38 ez_38 => ?_)
      refine lv_goto (tgt := 103) hx hb dX10_reads_94 (by decide) ?_
      exact W.iret (v := z_38) hx hb hr (fun t ht hW => ⟨⟨z_38, (), rfl, trivial, by rw [ht]; exact hP, hD⟩, hS.F ht⟩) hS.2.2 dX10_reads_103
  · refine lv_tableIn (tgt := 104) hx hb dX10_reads_13 (by omega) (by omega) (by rw [sw_23]; rfl) (by decide) ?_
    refine lv_bipush (v := 8) hx hb dX10_reads_104 (by decide) ?_
    refine lv_aload_n hx hb dX10_reads_106 rfl (lv_at hl 1 rfl) ?_
    refine va_get (D := (dC, dI)) (ci := 10) (v := .ref (X 16)) (C := RX10) (T := TX10) (N := 60) hx hb hg gb_10 hown hK hP 0 rfl rfl 16 (by decide) (hg _ gm_fieldLink_RX10_54_ErrandGuildModel_root_AI_) (fun _ h9 => h9) rfl dX10_reads_107 ?_
    refine lv_iload_n hx hb dX10_reads_110 rfl (lv_at hl 2 rfl) ?_
    refine va_iald hx hb hK hP 14 13 rfl rfl (vp_in_iff.mpr ⟨by omega, by omega⟩) dX10_reads_111 ?_
    refine lv_topi (fun z_39 ez_39 => ?_)
    have bz_39 := bd_at b_6 ez_39
    refine lv_imul hx hb dX10_reads_112 ?_
    refine lv_topi (fun z_40 ez_40 => ?_)
    have tz_40 : z_40.toInt = 8 * z_39.toInt := ar_mul ti_8 rfl ez_40 (by omega)
    refine lv_iload_n hx hb dX10_reads_113 rfl (lv_at hl 3 rfl) ?_
    refine lv_iadd hx hb dX10_reads_114 ?_
    refine lv_topi (fun z_41 ez_41 => ?_)
    have tz_41 : z_41.toInt = z_40.toInt + v2.toInt := ar_add rfl rfl ez_41 (by omega)
    refine lv_istore (lv' := [(4, .int z_41), (3, .int z_21), (0, .ref h0), (1, .int v1), (2, .int v2)]) hx hb dX10_reads_115 hl (by decide) rfl (fun ls hl => ?_)
    refine lv_aload_n hx hb dX10_reads_117 rfl (lv_at hl 2 rfl) ?_
    refine va_get (D := (dC, dI)) (ci := 10) (v := .ref (X 35)) (C := RX10) (T := TX10) (N := 60) hx hb hg gb_10 hown hK hP 0 rfl rfl 35 (by decide) (hg _ gm_fieldLink_RX10_111_ErrandGuildModel_hasWritten_AZ_) (fun _ h9 => h9) rfl dX10_reads_118 ?_
    refine lv_iload hx hb dX10_reads_121 (lv_at hl 0 rfl) ?_
    refine va_zald hx hb hK hP 33 32 rfl rfl (vp_in_iff.mpr ⟨by omega, by omega⟩) dX10_reads_123 ?_
    refine lv_topi (fun z_42 ez_42 => ?_)
    refine lv_if_eq (tgt := 137) hx hb dX10_reads_124 (by decide) (fun c_43 => ?_) (fun c_43 => ?_)
    · simp only [i_lt, i_le, i_eq, ti_0] at c_43
      refine lv_aload_n hx hb dX10_reads_137 rfl (lv_at hl 2 rfl) ?_
      refine va_get (D := (dC, dI)) (ci := 10) (v := .ref (X 1)) (C := RX10) (T := TX10) (N := 60) hx hb hg gb_10 hown hK hP 0 rfl rfl 1 (by decide) (hg _ gm_fieldLink_RX10_13_ErrandGuildModel_first_AI_) (fun _ h9 => h9) rfl dX10_reads_138 ?_
      refine lv_iload_n hx hb dX10_reads_141 rfl (lv_at hl 4 rfl) ?_
      refine va_iald hx hb hK hP 2 1 rfl rfl (vp_in_iff.mpr ⟨by omega, by omega⟩) dX10_reads_142 ?_
      refine lv_topi (fun z_44 ez_44 => ?_)
      exact W.iret (v := z_44) hx hb hr (fun t ht hW => ⟨⟨z_44, (), rfl, trivial, by rw [ht]; exact hP, hD⟩, hS.F ht⟩) hS.2.2 dX10_reads_143
    · simp only [i_lt, i_le, i_eq, ti_0] at c_43
      refine lv_aload_n hx hb dX10_reads_127 rfl (lv_at hl 2 rfl) ?_
      refine va_get (D := (dC, dI)) (ci := 10) (v := .ref (X 34)) (C := RX10) (T := TX10) (N := 60) hx hb hg gb_10 hown hK hP 0 rfl rfl 34 (by decide) (hg _ gm_fieldLink_RX10_108_ErrandGuildModel_wrote_AI_) (fun _ h9 => h9) rfl dX10_reads_128 ?_
      refine lv_iload hx hb dX10_reads_131 (lv_at hl 0 rfl) ?_
      refine va_iald hx hb hK hP 32 31 rfl rfl (vp_in_iff.mpr ⟨by omega, by omega⟩) dX10_reads_133 ?_
      refine lv_topi (fun z_45 ez_45 => ?_)
      refine lv_goto (tgt := 143) hx hb dX10_reads_134 (by decide) ?_
      exact W.iret (v := z_45) hx hb hr (fun t ht hW => ⟨⟨z_45, (), rfl, trivial, by rw [ht]; exact hP, hD⟩, hS.F ht⟩) hS.2.2 dX10_reads_143
  · refine lv_tableIn (tgt := 144) hx hb dX10_reads_13 (by omega) (by omega) (by rw [sw_23]; rfl) (by decide) ?_
    refine lv_aload_n hx hb dX10_reads_144 rfl (lv_at hl 1 rfl) ?_
    refine lv_iload_n hx hb dX10_reads_145 rfl (lv_at hl 2 rfl) ?_
    refine lv_iload_n hx hb dX10_reads_146 rfl (lv_at hl 3 rfl) ?_
    have hFc := free_all hD hS hA
    refine va_calli (va_runV (As := [.int v1, .int v2]) (rest := []) ⟨hx, hb, hml, hown, hg⟩ (c_X10_binding l dC dI kp h0 X C F n v1 v2 s.heap.size ⟨b_1, b_2, b_3, b_4, b_5, b_6, b_7, b_8, b_9, b_10, b_11, b_12, i_13, i_14, i_15, i_16, i_17, i_18, i_19⟩ (by omega)) (cwV 2 hg (gw_V gm_methodLink_RX10_208_yX10_binding gm_instanceMethod_yX10_binding gm_selects_RX10_yX10_binding_yX10_binding gm_initialized_RX10 gm_code_yX10_binding_cX10_binding_4_some_int_) rfl rfl rfl (by decide +kernel) ⟨Nat.le_of_ble_eq_true rfl, Nat.le_of_ble_eq_true rfl⟩) ⟨fun a U g mk q => by obtain ⟨q0, q1, qP, qK, qD, qN⟩ := q; exact ⟨q0, q1, qP, va_K.moved (u := U) (U := U.calling g mk a) (Vm.Alike.refl U.vm) qK, qD, nx_same (u := U) (U := U.calling g mk a) rfl qN⟩, va_recv hK hP (ci := 10) (q0 := 0) rfl rfl, fun U hU hW => ⟨rfl, by rw [hU], by rw [hU]; exact hP, va_K.moved hW.alike hK, hD.weaken (fun _ _ _ _ => trivial), nx_warm hW hN⟩⟩ rfl rfl hl.1 rfl (lv_room (Nat.le_of_ble_eq_true rfl)) dX10_reads_147 ⟨Nat.le_of_ble_eq_true rfl, Nat.le_of_ble_eq_true rfl⟩) hS (fun q _ h => hFc q h) hFc (fun r_46 u_47 t H1 locs ht hvm hw hB hz1 hk1 hS => ?_)
    obtain ⟨hP, hD⟩ := hB
    rw [ht] at hP
    have hD := hD.weaken (fun k q _ h => hFc _ h)
    generalize H1 = H at hP hS ⊢
    have hP : va_P (dC, dI) vwCl (w10 h0 X C F n) H := hP
    have hD : va_D A (w10 h0 X C F n) := hD
    have w_48 := hw
    try dsimp only at w_48
    refine lv_istore (lv' := [(4, .int r_46), (3, .int z_21), (0, .ref h0), (1, .int v1), (2, .int v2)]) hx hb dX10_reads_150 hl (by decide) rfl (fun ls hl => ?_)
    refine lv_iload hx hb dX10_reads_152 (lv_at hl 0 rfl) ?_
    refine lv_iconst (v := -1) hx hb dX10_reads_154 (by decide) ?_
    refine lv_icmp_ne (tgt := 167) hx hb dX10_reads_155 (by decide) (fun c_49 => ?_) (fun c_49 => ?_)
    · simp only [i_lt, i_le, i_eq, ti_m1] at c_49
      refine lv_aload_n hx hb dX10_reads_167 rfl (lv_at hl 2 rfl) ?_
      refine va_get (D := (dC, dI)) (ci := 10) (v := .ref (X 38)) (C := RX10) (T := TX10) (N := 60) hx hb hg gb_10 hown hK hP 0 rfl rfl 38 (by decide) (hg _ gm_fieldLink_RX10_120_ErrandGuildModel_bindValue_AI_) (fun _ h9 => h9) rfl dX10_reads_168 ?_
      refine lv_iload hx hb dX10_reads_171 (lv_at hl 0 rfl) ?_
      refine va_iald hx hb hK hP 36 35 rfl rfl (vp_in_iff.mpr ⟨by omega, by omega⟩) dX10_reads_173 ?_
      refine lv_topi (fun z_50 ez_50 => ?_)
      exact W.iret (v := z_50) hx hb hr (fun t ht hW => ⟨⟨z_50, (), rfl, trivial, by rw [ht]; exact hP, hD⟩, hS.F ht⟩) hS.2.2 dX10_reads_174
    · simp only [i_lt, i_le, i_eq, ti_m1] at c_49
      refine lv_aload_n hx hb dX10_reads_158 rfl (lv_at hl 2 rfl) ?_
      refine va_get (D := (dC, dI)) (ci := 10) (v := .ref (X 33)) (C := RX10) (T := TX10) (N := 60) hx hb hg gb_10 hown hK hP 0 rfl rfl 33 (by decide) (hg _ gm_fieldLink_RX10_105_ErrandGuildModel_kept_AI_) (fun _ h9 => h9) rfl dX10_reads_159 ?_
      refine lv_iload_n hx hb dX10_reads_162 rfl (lv_at hl 1 rfl) ?_
      refine va_iald hx hb hK hP 31 30 rfl rfl (vp_in_iff.mpr ⟨by omega, by omega⟩) dX10_reads_163 ?_
      refine lv_topi (fun z_51 ez_51 => ?_)
      refine lv_goto (tgt := 174) hx hb dX10_reads_164 (by decide) ?_
      exact W.iret (v := z_51) hx hb hr (fun t ht hW => ⟨⟨z_51, (), rfl, trivial, by rw [ht]; exact hP, hD⟩, hS.F ht⟩) hS.2.2 dX10_reads_174
