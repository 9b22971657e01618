set_option maxHeartbeats 8000000 in
set_option maxRecDepth 100000 in
theorem c_X10_slot (l : Launch) (dC : Nat → ClassId) (dI : Nat → Nat → Nat) (kp : Int) (h0 : Nat) (X : Nat → Nat) (C : Nat → ClassId) (F : Nat → Nat → Int32) (n : Nat → Int32) (v1 : Int32) (v2 : Int32) (v3 : Int32) (sz : Nat) (hI : I10 kp F n) : Met l yX10_slot (.code yX10_slot cX10_slot 4 (some .boolean) :: gw) ({ frames := 1, cells := 0, slots := 0, locals := 20 }) (va_Pc [.ref h0, .int v1, .int v2, .int v3] (fun U => U.heap.size = sz ∧ va_P (dC, dI) vwCl (w10 h0 X C F n) U.heap ∧ va_K (dC, dI) vwCl (t10 C) U ∧ va_D (fun _ => True) (w10 h0 X C F n) ∧ nx U)) (va_Qi (fun (r : Int32) (u : (Nat → Nat → Int32) × (Nat → Int32)) => (r = 1 ∧ True) ∨ (r = 0 ∧ True)) (fun u t => va_P (dC, dI) vwCl (w10 h0 X C u.1 u.2) t.heap ∧ va_D (va_A (w10 h0 X C F n) sz) (w10 h0 X C u.1 u.2) ∧ I10 kp u.1 u.2) (va_A (w10 h0 X C F n) sz)) 0 0 (va_A (w10 h0 X C F n) sz) := by
  refine Met.ofW (cc := cX10_slot) (maxL := 4) (ret := (some .boolean)) (by decide) rfl ?_
  intro p e s m args below meth c s₁ B hml hv
  obtain ⟨rfl, hsz, hP, hK, hD0, hN⟩ := hv
  have hx := B.exec
  have hb := B.bytes
  have hr := B.returns
  have hts := atoms_spec (ws := .code yX10_slot cX10_slot 4 (some .boolean) :: gw) B.pre
  have hg : ∀ w ∈ gw, w.before _ s = true := fun w h => hts w (List.mem_cons_of_mem _ h)
  have hown : s.vm.findClass RX10 = some m.cls := findClass_of_methodNamed B.named
  have hlocks := B.notSynchronized
  subst hsz
  have hD := hD0.self (sz := s.heap.size)
  generalize hAe : va_A (w10 h0 X C F n) s.heap.size = A at hD ⊢
  have hA : ∀ q : Nat, s.heap.size ≤ q → A q := fun q h => by rw [← hAe]; exact Or.inr h
  have hS : va_S A s.heap s.heap [] := va_S.rf
  have hP : va_P (dC, dI) vwCl (w10 h0 X C F n) s.heap := hP
  have hl := lv_entry ([.ref h0, .int v1, .int v2, .int v3]) (n := 4) (Nat.le_of_ble_eq_true rfl)
  rw [lg_entry_eq]
  generalize (lg_sl ([.ref h0, .int v1, .int v2, .int v3]) ++ List.replicate (4 - (lg_sl ([.ref h0, .int v1, .int v2, .int v3])).length) Slot.unset).toArray = ls at hl ⊢
  have hl : lv_has ls 4 [(0, .ref h0), (1, .int v1), (2, .int v2), (3, .int v3)] := hl
  obtain ⟨b_1, b_2, b_3, b_4, b_5, b_6, b_7, b_8, b_9, b_10, b_11, b_12, i_13, i_14, i_15, i_16, i_17, i_18, i_19, j_20, j_21, j_22, j_23, j_24, j_25, j_26, j_27, j_28, j_29⟩ := id hI
  refine lv_iload_n hx hb dX10_slot_0 rfl (lv_at hl 1 rfl) ?_
  have hPc := hP.sub (ws' := []) [] rfl
  have hDc := hD.sub (ws' := []) [] (by decide) rfl
  have hKc := hK.sub (tys' := []) [] rfl
  have hFc := va_free (wc := []) hD hS hA [] rfl
  refine va_calli (va_runS (As := [.int v1]) (rest := []) ⟨hx, hb, hml, hown, hg⟩ (c_X10_isSlot l dC dI v1 s.heap.size) (va_cwS 1 hg (gw_S gm_methodLink_RX10_172_yX10_isSlot gm_static_yX10_isSlot gm_initialized_RX10 gm_code_yX10_isSlot_cX10_isSlot_1_some_boolean_) rfl rfl rfl (by decide +kernel) ⟨Nat.le_of_ble_eq_true rfl, Nat.le_of_ble_eq_true rfl⟩) ⟨fun a U g mk q => by obtain ⟨q0, q1, qP, qK, qD, qN⟩ := q; exact ⟨q0, q1, qP, va_K.moved (u := U) (U := U.calling g mk a) (Vm.Alike.refl U.vm) qK, qD, nx_same (u := U) (U := U.calling g mk a) rfl qN⟩, fun U hU hW => ⟨rfl, by rw [hU], by rw [hU]; exact hPc, va_K.moved hW.alike hKc, hDc.weaken (fun _ _ _ _ => trivial), nx_warm hW hN⟩⟩ rfl rfl hl.1 rfl (lv_room (Nat.le_of_ble_eq_true rfl)) dX10_slot_1 ⟨Nat.le_of_ble_eq_true rfl, Nat.le_of_ble_eq_true rfl⟩) hS (fun q _ h => hFc q h) hFc (fun r_30 u_31 t H1 locs ht hvm hw hB hz1 hk1 hS => ?_)
  obtain ⟨hP, hD⟩ := va_join (wr := (w10 h0 X C F n)) (w1 := []) hP hD [] [0, 1, 2, 3, 4, 5, 6, 7, 8, 9, 10, 11, 12, 13, 14, 15, 16, 17, 18, 19, 20, 21, 22, 23, 24, 25, 26, 27, 28, 29, 30, 31, 32, 33, 34, 35, 36, 37, 38, 39, 40, 41, 42, 43, 44, 45, 46, 47, 48, 49, 50, 51, 52] rfl rfl (by decide +kernel) (fun _ _ h => by simp at h) hk1 hFc nil_P nil_D
  generalize H1 = H at hP hS ⊢
  have hP : va_P (dC, dI) vwCl (w10 h0 X C F n) H := hP
  have hD : va_D A (w10 h0 X C F n) := hD
  rcases hw with ⟨rfl, w_32⟩ | ⟨rfl, w_32⟩
  · refine lv_if_eq (tgt := 23) hx hb dX10_slot_4 (by decide) (fun c_33 => absurd c_33 (by decide)) (fun _ => ?_)
    refine lv_iload_n hx hb dX10_slot_7 rfl (lv_at hl 2 rfl) ?_
    refine lv_if_lt (tgt := 23) hx hb dX10_slot_8 (by decide) (fun c_34 => ?_) (fun c_34 => ?_)
    · simp only [i_lt, i_le, i_eq, ti_0] at c_34
      refine lv_iconst (v := 0) hx hb dX10_slot_23 (by decide) ?_
      exact W.zret (v := 0) hx hb hr rfl (fun t ht hW => ⟨⟨0, (F, n), rfl, (Or.inr ⟨rfl, trivial⟩), by rw [ht]; exact hP, hD, ⟨b_1, b_2, b_3, b_4, b_5, b_6, b_7, b_8, b_9, b_10, b_11, b_12, i_13, i_14, i_15, i_16, i_17, i_18, i_19, j_20, j_21, j_22, j_23, j_24, j_25, j_26, j_27, j_28, j_29⟩⟩, hS.F ht⟩) hS.2.2 dX10_slot_24
    · simp only [i_lt, i_le, i_eq, ti_0] at c_34
      refine lv_iload_n hx hb dX10_slot_11 rfl (lv_at hl 2 rfl) ?_
      refine lv_iconst (v := 4) hx hb dX10_slot_12 (by decide) ?_
      refine lv_icmp_gt (tgt := 23) hx hb dX10_slot_13 (by decide) (fun c_35 => ?_) (fun c_35 => ?_)
      · simp only [i_lt, i_le, i_eq, ti_4] at c_35
        refine lv_iconst (v := 0) hx hb dX10_slot_23 (by decide) ?_
        exact W.zret (v := 0) hx hb hr rfl (fun t ht hW => ⟨⟨0, (F, n), rfl, (Or.inr ⟨rfl, trivial⟩), by rw [ht]; exact hP, hD, ⟨b_1, b_2, b_3, b_4, b_5, b_6, b_7, b_8, b_9, b_10, b_11, b_12, i_13, i_14, i_15, i_16, i_17, i_18, i_19, j_20, j_21, j_22, j_23, j_24, j_25, j_26, j_27, j_28, j_29⟩⟩, hS.F ht⟩) hS.2.2 dX10_slot_24
      · simp only [i_lt, i_le, i_eq, ti_4] at c_35
        refine lv_aload_n hx hb dX10_slot_16 rfl (lv_at hl 0 rfl) ?_
        refine va_get (D := (dC, dI)) (ci := 10) (v := .int (n 11)) (C := RX10) (T := TX10) (N := 60) hx hb hg gb_10 hown hK hP 0 rfl rfl 11 (by decide) (hg _ gm_fieldLink_RX10_176_ErrandGuildModel_runs_I_) (fun _ h9 => h9) rfl dX10_slot_17 ?_
        refine lv_if_le (tgt := 25) hx hb dX10_slot_20 (by decide) (fun c_36 => ?_) (fun c_36 => ?_)
        · simp only [i_lt, i_le, i_eq, ti_0] at c_36
          refine lv_aload_n hx hb dX10_slot_25 rfl (lv_at hl 0 rfl) ?_
          refine va_get (D := (dC, dI)) (ci := 10) (v := .ref (X 0)) (C := RX10) (T := TX10) (N := 60) hx hb hg gb_10 hown hK hP 0 rfl rfl 0 (by decide) (hg _ gm_fieldLink_RX10_7_ErrandGuildModel_manner_AI_) (fun _ h9 => h9) rfl dX10_slot_26 ?_
          refine lv_iload_n hx hb dX10_slot_29 rfl (lv_at hl 1 rfl) ?_
          refine lv_iload_n hx hb dX10_slot_30 rfl (lv_at hl 2 rfl) ?_
          refine va_iast hx hb hK hP hD hS 1 0 rfl rfl (vp_in_iff.mpr ⟨by omega, by omega⟩) dX10_slot_31 (fun H locs hP hD hS => ?_)
          have hP : va_P (dC, dI) vwCl (w10 h0 X C (upF F 0 (upd (F 0) (Int32.toNatClampNeg v1) v2)) n) H := hP
          have hD : va_D A (w10 h0 X C (upF F 0 (upd (F 0) (Int32.toNatClampNeg v1) v2)) n) := hD
          refine lv_aload_n hx hb dX10_slot_32 rfl (lv_at hl 0 rfl) ?_
          refine va_get (D := (dC, dI)) (ci := 10) (v := .ref (X 1)) (C := RX10) (T := TX10) (N := 60) hx hb hg gb_10 hown hK hP 0 rfl rfl 1 (by decide) (hg _ gm_fieldLink_RX10_13_ErrandGuildModel_first_AI_) (fun _ h9 => h9) rfl dX10_slot_33 ?_
          refine lv_iload_n hx hb dX10_slot_36 rfl (lv_at hl 1 rfl) ?_
          refine lv_iload_n hx hb dX10_slot_37 rfl (lv_at hl 3 rfl) ?_
          refine va_iast hx hb hK hP hD hS 2 1 rfl rfl (vp_in_iff.mpr ⟨by omega, by omega⟩) dX10_slot_38 (fun H locs hP hD hS => ?_)
          have hP : va_P (dC, dI) vwCl (w10 h0 X C (upF (upF F 0 (upd (F 0) (Int32.toNatClampNeg v1) v2)) 1 (upd (F 1) (Int32.toNatClampNeg v1) v3)) n) H := hP
          have hD : va_D A (w10 h0 X C (upF (upF F 0 (upd (F 0) (Int32.toNatClampNeg v1) v2)) 1 (upd (F 1) (Int32.toNatClampNeg v1) v3)) n) := hD
          refine lv_iconst (v := 1) hx hb dX10_slot_39 (by decide) ?_
          exact W.zret (v := 1) hx hb hr rfl (fun t ht hW => ⟨⟨1, ((upF (upF F 0 (upd (F 0) (Int32.toNatClampNeg v1) v2)) 1 (upd (F 1) (Int32.toNatClampNeg v1) v3)), n), rfl, (Or.inl ⟨rfl, trivial⟩), by rw [ht]; exact hP, hD, ⟨b_1, b_2, b_3, b_4, b_5, b_6, b_7, b_8, b_9, b_10, b_11, b_12, i_13, i_14, i_15, i_16, i_17, i_18, i_19, j_20, j_21, j_22, j_23, j_24, j_25, j_26, j_27, j_28, j_29⟩⟩, hS.F ht⟩) hS.2.2 dX10_slot_40
        · simp only [i_lt, i_le, i_eq, ti_0] at c_36
          refine lv_iconst (v := 0) hx hb dX10_slot_23 (by decide) ?_
          exact W.zret (v := 0) hx hb hr rfl (fun t ht hW => ⟨⟨0, (F, n), rfl, (Or.inr ⟨rfl, trivial⟩), by rw [ht]; exact hP, hD, ⟨b_1, b_2, b_3, b_4, b_5, b_6, b_7, b_8, b_9, b_10, b_11, b_12, i_13, i_14, i_15, i_16, i_17, i_18, i_19, j_20, j_21, j_22, j_23, j_24, j_25, j_26, j_27, j_28, j_29⟩⟩, hS.F ht⟩) hS.2.2 dX10_slot_24
  · refine lv_if_eq (tgt := 23) hx hb dX10_slot_4 (by decide) (fun _ => ?_) (fun c_37 => absurd c_37 (by decide))
    refine lv_iconst (v := 0) hx hb dX10_slot_23 (by decide) ?_
    exact W.zret (v := 0) hx hb hr rfl (fun t ht hW => ⟨⟨0, (F, n), rfl, (Or.inr ⟨rfl, trivial⟩), by rw [ht]; exact hP, hD, ⟨b_1, b_2, b_3, b_4, b_5, b_6, b_7, b_8, b_9, b_10, b_11, b_12, i_13, i_14, i_15, i_16, i_17, i_18, i_19, j_20, j_21, j_22, j_23, j_24, j_25, j_26, j_27, j_28, j_29⟩⟩, hS.F ht⟩) hS.2.2 dX10_slot_24

set_option maxHeartbeats 8000000 in
set_option maxRecDepth 100000 in
theorem c_X10_first (l : Launch) (dC : Nat → ClassId) (dI : Nat → Nat → Nat) (kp : Int) (h0 : Nat) (X : Nat → Nat) (C : Nat → ClassId) (F : Nat → Nat → Int32) (n : Nat → Int32) (v1 : Int32) (v2 : Int32) (sz : Nat) (hI : I10 kp F n) : Met l yX10_first (.code yX10_first cX10_first 3 (some .boolean) :: gw) ({ frames := 1, cells := 0, slots := 0, locals := 20 }) (va_Pc [.ref h0, .int v1, .int v2] (fun U => U.heap.size = sz ∧ va_P (dC, dI) vwCl (w10 h0 X C F n) U.heap ∧ va_K (dC, dI) vwCl (t10 C) U ∧ va_D (fun _ => True) (w10 h0 X C F n) ∧ nx U)) (va_Qi (fun (r : Int32) (u : (Nat → Nat → Int32) × (Nat → Int32)) => (r = 1 ∧ (0 ≤ v1.toInt ∧ v1.toInt < 8)) ∨ (r = 0 ∧ ¬ (0 ≤ v1.toInt ∧ v1.toInt < 8))) (fun u t => va_P (dC, dI) vwCl (w10 h0 X C u.1 u.2) t.heap ∧ va_D (va_A (w10 h0 X C F n) sz) (w10 h0 X C u.1 u.2) ∧ I10 kp u.1 u.2) (va_A (w10 h0 X C F n) sz)) 0 0 (va_A (w10 h0 X C F n) sz) := by
  refine Met.ofW (cc := cX10_first) (maxL := 3) (ret := (some .boolean)) (by decide) rfl ?_
  intro p e s m args below meth c s₁ B hml hv
  obtain ⟨rfl, hsz, hP, hK, hD0, hN⟩ := hv
  have hx := B.exec
  have hb := B.bytes
  have hr := B.returns
  have hts := atoms_spec (ws := .code yX10_first cX10_first 3 (some .boolean) :: gw) B.pre
  have hg : ∀ w ∈ gw, w.before _ s = true := fun w h => hts w (List.mem_cons_of_mem _ h)
  have hown : s.vm.findClass RX10 = some m.cls := findClass_of_methodNamed B.named
  have hlocks := B.notSynchronized
  subst hsz
  have hD := hD0.self (sz := s.heap.size)
  generalize hAe : va_A (w10 h0 X C F n) s.heap.size = A at hD ⊢
  have hA : ∀ q : Nat, s.heap.size ≤ q → A q := fun q h => by rw [← hAe]; exact Or.inr h
  have hS : va_S A s.heap s.heap [] := va_S.rf
  have hP : va_P (dC, dI) vwCl (w10 h0 X C F n) s.heap := hP
  have hl := lv_entry ([.ref h0, .int v1, .int v2]) (n := 3) (Nat.le_of_ble_eq_true rfl)
  rw [lg_entry_eq]
  generalize (lg_sl ([.ref h0, .int v1, .int v2]) ++ List.replicate (3 - (lg_sl ([.ref h0, .int v1, .int v2])).length) Slot.unset).toArray = ls at hl ⊢
  have hl : lv_has ls 3 [(0, .ref h0), (1, .int v1), (2, .int v2)] := hl
  obtain ⟨b_1, b_2, b_3, b_4, b_5, b_6, b_7, b_8, b_9, b_10, b_11, b_12, i_13, i_14, i_15, i_16, i_17, i_18, i_19, j_20, j_21, j_22, j_23, j_24, j_25, j_26, j_27, j_28, j_29⟩ := id hI
  refine lv_iload_n hx hb dX10_first_0 rfl (lv_at hl 1 rfl) ?_
  have hPc := hP.sub (ws' := []) [] rfl
  have hDc := hD.sub (ws' := []) [] (by decide) rfl
  have hKc := hK.sub (tys' := []) [] rfl
  have hFc := va_free (wc := []) hD hS hA [] rfl
  refine va_calli (va_runS (As := [.int v1]) (rest := []) ⟨hx, hb, hml, hown, hg⟩ (c_X10_isSlot l dC dI v1 s.heap.size) (va_cwS 1 hg (gw_S gm_methodLink_RX10_172_yX10_isSlot gm_static_yX10_isSlot gm_initialized_RX10 gm_code_yX10_isSlot_cX10_isSlot_1_some_boolean_) rfl rfl rfl (by decide +kernel) ⟨Nat.le_of_ble_eq_true rfl, Nat.le_of_ble_eq_true rfl⟩) ⟨fun a U g mk q => by obtain ⟨q0, q1, qP, qK, qD, qN⟩ := q; exact ⟨q0, q1, qP, va_K.moved (u := U) (U := U.calling g mk a) (Vm.Alike.refl U.vm) qK, qD, nx_same (u := U) (U := U.calling g mk a) rfl qN⟩, fun U hU hW => ⟨rfl, by rw [hU], by rw [hU]; exact hPc, va_K.moved hW.alike hKc, hDc.weaken (fun _ _ _ _ => trivial), nx_warm hW hN⟩⟩ rfl rfl hl.1 rfl (lv_room (Nat.le_of_ble_eq_true rfl)) dX10_first_1 ⟨Nat.le_of_ble_eq_true rfl, Nat.le_of_ble_eq_true rfl⟩) hS (fun q _ h => hFc q h) hFc (fun r_30 u_31 t H1 locs ht hvm hw hB hz1 hk1 hS => ?_)
  obtain ⟨hP, hD⟩ := va_join (wr := (w10 h0 X C F n)) (w1 := []) hP hD [] [0, 1, 2, 3, 4, 5, 6, 7, 8, 9, 10, 11, 12, 13, 14, 15, 16, 17, 18, 19, 20, 21, 22, 23, 24, 25, 26, 27, 28, 29, 30, 31, 32, 33, 34, 35, 36, 37, 38, 39, 40, 41, 42, 43, 44, 45, 46, 47, 48, 49, 50, 51, 52] rfl rfl (by decide +kernel) (fun _ _ h => by simp at h) hk1 hFc nil_P nil_D
  generalize H1 = H at hP hS ⊢
  have hP : va_P (dC, dI) vwCl (w10 h0 X C F n) H := hP
  have hD : va_D A (w10 h0 X C F n) := hD
  rcases hw with ⟨rfl, w_32⟩ | ⟨rfl, w_32⟩
  · refine lv_if_ne (tgt := 9) hx hb dX10_first_4 (by decide) (fun _ => ?_) (fun c_33 => absurd c_33 (by decide))
    refine lv_aload_n hx hb dX10_first_9 rfl (lv_at hl 0 rfl) ?_
    refine va_get (D := (dC, dI)) (ci := 10) (v := .ref (X 1)) (C := RX10) (T := TX10) (N := 60) hx hb hg gb_10 hown hK hP 0 rfl rfl 1 (by decide) (hg _ gm_fieldLink_RX10_13_ErrandGuildModel_first_AI_) (fun _ h9 => h9) rfl dX10_first_10 ?_
    refine lv_iload_n hx hb dX10_first_13 rfl (lv_at hl 1 rfl) ?_
    refine lv_iload_n hx hb dX10_first_14 rfl (lv_at hl 2 rfl) ?_
    refine va_iast hx hb hK hP hD hS 2 1 rfl rfl (vp_in_iff.mpr ⟨by omega, by omega⟩) dX10_first_15 (fun H locs hP hD hS => ?_)
    have hP : va_P (dC, dI) vwCl (w10 h0 X C (upF F 1 (upd (F 1) (Int32.toNatClampNeg v1) v2)) n) H := hP
    have hD : va_D A (w10 h0 X C (upF F 1 (upd (F 1) (Int32.toNatClampNeg v1) v2)) n) := hD
    refine lv_iconst (v := 1) hx hb dX10_first_16 (by decide) ?_
    exact W.zret (v := 1) hx hb hr rfl (fun t ht hW => ⟨⟨1, ((upF F 1 (upd (F 1) (Int32.toNatClampNeg v1) v2)), n), rfl, (Or.inl ⟨rfl, by omega⟩), by rw [ht]; exact hP, hD, ⟨b_1, b_2, b_3, b_4, b_5, b_6, b_7, b_8, b_9, b_10, b_11, b_12, i_13, i_14, i_15, i_16, i_17, i_18, i_19, j_20, j_21, j_22, j_23, j_24, j_25, j_26, j_27, j_28, j_29⟩⟩, hS.F ht⟩) hS.2.2 dX10_first_17
  · refine lv_if_ne (tgt := 9) hx hb dX10_first_4 (by decide) (fun c_34 => absurd c_34 (by decide)) (fun _ => ?_)
    refine lv_iconst (v := 0) hx hb dX10_first_7 (by decide) ?_
    exact W.zret (v := 0) hx hb hr rfl (fun t ht hW => ⟨⟨0, (F, n), rfl, (Or.inr ⟨rfl, by omega⟩), by rw [ht]; exact hP, hD, ⟨b_1, b_2, b_3, b_4, b_5, b_6, b_7, b_8, b_9, b_10, b_11, b_12, i_13, i_14, i_15, i_16, i_17, i_18, i_19, j_20, j_21, j_22, j_23, j_24, j_25, j_26, j_27, j_28, j_29⟩⟩, hS.F ht⟩) hS.2.2 dX10_first_8

set_option maxHeartbeats 8000000 in
set_option maxRecDepth 100000 in
theorem c_X10_threads (l : Launch) (dC : Nat → ClassId) (dI : Nat → Nat → Nat) (kp : Int) (h0 : Nat) (X : Nat → Nat) (C : Nat → ClassId) (F : Nat → Nat → Int32) (n : Nat → Int32) (v1 : Int32) (sz : Nat) (hI : I10 kp F n) : Met l yX10_threads (.code yX10_threads cX10_threads 2 (some .boolean) :: gw) ({ frames := 0, cells := 0, slots := 0, locals := 0 }) (va_Pc [.ref h0, .int v1] (fun U => U.heap.size = sz ∧ va_P (dC, dI) vwCl (w10 h0 X C F n) U.heap ∧ va_K (dC, dI) vwCl (t10 C) U ∧ va_D (fun _ => True) (w10 h0 X C F n) ∧ nx U)) (va_Qi (fun (r : Int32) (u : (Nat → Nat → Int32) × (Nat → Int32)) => (r = 1 ∧ True) ∨ (r = 0 ∧ True)) (fun u t => va_P (dC, dI) vwCl (w10 h0 X C u.1 u.2) t.heap ∧ va_D (va_A (w10 h0 X C F n) sz) (w10 h0 X C u.1 u.2) ∧ I10 kp u.1 u.2) (va_A (w10 h0 X C F n) sz)) 0 0 (va_A (w10 h0 X C F n) sz) := by
  refine Met.ofW (cc := cX10_threads) (maxL := 2) (ret := (some .boolean)) (by decide) rfl ?_
  intro p e s m args below meth c s₁ B hml hv
  obtain ⟨rfl, hsz, hP, hK, hD0, hN⟩ := hv
  have hx := B.exec
  have hb := B.bytes
  have hr := B.returns
  have hts := atoms_spec (ws := .code yX10_threads cX10_threads 2 (some .boolean) :: gw) B.pre
  have hg : ∀ w ∈ gw, w.before _ s = true := fun w h => hts w (List.mem_cons_of_mem _ h)
  have hown : s.vm.findClass RX10 = some m.cls := findClass_of_methodNamed B.named
  have hlocks := B.notSynchronized
  subst hsz
  have hD := hD0.self (sz := s.heap.size)
  generalize hAe : va_A (w10 h0 X C F n) s.heap.size = A at hD ⊢
  have hA : ∀ q : Nat, s.heap.size ≤ q → A q := fun q h => by rw [← hAe]; exact Or.inr h
  have hS : va_S A s.heap s.heap [] := va_S.rf
  have hP : va_P (dC, dI) vwCl (w10 h0 X C F n) s.heap := hP
  have hl := lv_entry ([.ref h0, .int v1]) (n := 2) (Nat.le_of_ble_eq_true rfl)
  rw [lg_entry_eq]
  generalize (lg_sl ([.ref h0, .int v1]) ++ List.replicate (2 - (lg_sl ([.ref h0, .int v1])).length) Slot.unset).toArray = ls at hl ⊢
  have hl : lv_has ls 2 [(0, .ref h0), (1, .int v1)] := hl
  obtain ⟨b_1, b_2, b_3, b_4, b_5, b_6, b_7, b_8, b_9, b_10, b_11, b_12, i_13, i_14, i_15, i_16, i_17, i_18, i_19, j_20, j_21, j_22, j_23, j_24, j_25, j_26, j_27, j_28, j_29⟩ := id hI
  refine lv_iload_n hx hb dX10_threads_0 rfl (lv_at hl 1 rfl) ?_
  refine lv_iconst (v := 1) hx hb dX10_threads_1 (by decide) ?_
  refine lv_icmp_lt (tgt := 18) hx hb dX10_threads_2 (by decide) (fun c_30 => ?_) (fun c_30 => ?_)
  · simp only [i_lt, i_le, i_eq, ti_1] at c_30
    refine lv_iconst (v := 0) hx hb dX10_threads_18 (by decide) ?_
    exact W.zret (v := 0) hx hb hr rfl (fun t ht hW => ⟨⟨0, (F, n), rfl, (Or.inr ⟨rfl, trivial⟩), by rw [ht]; exact hP, hD, ⟨b_1, b_2, b_3, b_4, b_5, b_6, b_7, b_8, b_9, b_10, b_11, b_12, i_13, i_14, i_15, i_16, i_17, i_18, i_19, j_20, j_21, j_22, j_23, j_24, j_25, j_26, j_27, j_28, j_29⟩⟩, hS.F ht⟩) hS.2.2 dX10_threads_19
  · simp only [i_lt, i_le, i_eq, ti_1] at c_30
    refine lv_iload_n hx hb dX10_threads_5 rfl (lv_at hl 1 rfl) ?_
    refine lv_bipush (v := 6) hx hb dX10_threads_6 (by decide) ?_
    refine lv_icmp_gt (tgt := 18) hx hb dX10_threads_8 (by decide) (fun c_31 => ?_) (fun c_31 => ?_)
    · simp only [i_lt, i_le, i_eq, ti_6] at c_31
      refine lv_iconst (v := 0) hx hb dX10_threads_18 (by decide) ?_
      exact W.zret (v := 0) hx hb hr rfl (fun t ht hW => ⟨⟨0, (F, n), rfl, (Or.inr ⟨rfl, trivial⟩), by rw [ht]; exact hP, hD, ⟨b_1, b_2, b_3, b_4, b_5, b_6, b_7, b_8, b_9, b_10, b_11, b_12, i_13, i_14, i_15, i_16, i_17, i_18, i_19, j_20, j_21, j_22, j_23, j_24, j_25, j_26, j_27, j_28, j_29⟩⟩, hS.F ht⟩) hS.2.2 dX10_threads_19
    · simp only [i_lt, i_le, i_eq, ti_6] at c_31
      refine lv_aload_n hx hb dX10_threads_11 rfl (lv_at hl 0 rfl) ?_
      refine va_get (D := (dC, dI)) (ci := 10) (v := .int (n 11)) (C := RX10) (T := TX10) (N := 60) hx hb hg gb_10 hown hK hP 0 rfl rfl 11 (by decide) (hg _ gm_fieldLink_RX10_176_ErrandGuildModel_runs_I_) (fun _ h9 => h9) rfl dX10_threads_12 ?_
      refine lv_if_le (tgt := 20) hx hb dX10_threads_15 (by decide) (fun c_32 => ?_) (fun c_32 => ?_)
      · simp only [i_lt, i_le, i_eq, ti_0] at c_32
        refine lv_aload_n hx hb dX10_threads_20 rfl (lv_at hl 0 rfl) ?_
        refine lv_iload_n hx hb dX10_threads_21 rfl (lv_at hl 1 rfl) ?_
        refine va_put (D := (dC, dI)) (ci := 10) (v := .int v1) (ty := .int) (C := RX10) (T := TX10) (N := 60) hx hb hg gb_10 tyX10 tyX10_ok nmX10 hown hK hP hD hS 0 rfl rfl 9 (by decide) (hg _ gm_fieldLink_RX10_38_ErrandGuildModel_threads_I_) (fun _ h9 => h9) rfl (by decide +kernel) rfl rfl (Nat.le_of_ble_eq_true rfl) dX10_threads_22 (fun H locs hP hD hS => ?_)
        have hP : va_P (dC, dI) vwCl (w10 h0 X C F (upn n 9 v1)) H := hP
        have hD : va_D A (w10 h0 X C F (upn n 9 v1)) := hD
        have i_33 : 1 ≤ v1.toInt ∧ v1.toInt ≤ 6 := by omega
        refine lv_iconst (v := 1) hx hb dX10_threads_25 (by decide) ?_
        exact W.zret (v := 1) hx hb hr rfl (fun t ht hW => ⟨⟨1, (F, (upn n 9 v1)), rfl, (Or.inl ⟨rfl, trivial⟩), by rw [ht]; exact hP, hD, ⟨b_1, b_2, b_3, b_4, b_5, b_6, b_7, b_8, b_9, b_10, b_11, b_12, i_33, i_14, i_15, i_16, i_17, i_18, i_19, j_20, j_21, j_22, j_23, j_24, j_25, j_26, j_27, j_28, j_29⟩⟩, hS.F ht⟩) hS.2.2 dX10_threads_26
      · simp only [i_lt, i_le, i_eq, ti_0] at c_32
        refine lv_iconst (v := 0) hx hb dX10_threads_18 (by decide) ?_
        exact W.zret (v := 0) hx hb hr rfl (fun t ht hW => ⟨⟨0, (F, n), rfl, (Or.inr ⟨rfl, trivial⟩), by rw [ht]; exact hP, hD, ⟨b_1, b_2, b_3, b_4, b_5, b_6, b_7, b_8, b_9, b_10, b_11, b_12, i_13, i_14, i_15, i_16, i_17, i_18, i_19, j_20, j_21, j_22, j_23, j_24, j_25, j_26, j_27, j_28, j_29⟩⟩, hS.F ht⟩) hS.2.2 dX10_threads_19

set_option maxHeartbeats 8000000 in
set_option maxRecDepth 100000 in
theorem c_X10_handler (l : Launch) (dC : Nat → ClassId) (dI : Nat → Nat → Nat) (kp : Int) (h0 : Nat) (X : Nat → Nat) (C : Nat → ClassId) (F : Nat → Nat → Int32) (n : Nat → Int32) (v1 : Int32) (v2 : Int32) (v3 : Int32) (v4 : Int32) (sz : Nat) (hI : I10 kp F n) : Met l yX10_handler (.code yX10_handler cX10_handler 6 (some .boolean) :: gw) ({ frames := 0, cells := 0, slots := 0, locals := 0 }) (va_Pc [.ref h0, .int v1, .int v2, .int v3, .int v4] (fun U => U.heap.size = sz ∧ va_P (dC, dI) vwCl (w10 h0 X C F n) U.heap ∧ va_K (dC, dI) vwCl (t10 C) U ∧ va_D (fun _ => True) (w10 h0 X C F n) ∧ nx U)) (va_Qi (fun (r : Int32) (u : (Nat → Nat → Int32) × (Nat → Int32)) => (r = 1 ∧ (v1.toInt = 2 ∨ ((v1.toInt = 0 ∨ v1.toInt = 1) ∧ 0 ≤ v2.toInt ∧ v2.toInt < 8))) ∨ (r = 0 ∧ ¬ (v1.toInt = 2 ∨ ((v1.toInt = 0 ∨ v1.toInt = 1) ∧ 0 ≤ v2.toInt ∧ v2.toInt < 8)))) (fun u t => va_P (dC, dI) vwCl (w10 h0 X C u.1 u.2) t.heap ∧ va_D (va_A (w10 h0 X C F n) sz) (w10 h0 X C u.1 u.2) ∧ I10 kp u.1 u.2) (va_A (w10 h0 X C F n) sz)) 0 0 (va_A (w10 h0 X C F n) sz) := by
  refine Met.ofW (cc := cX10_handler) (maxL := 6) (ret := (some .boolean)) (by decide) rfl ?_
  intro p e s m args below meth c s₁ B hml hv
  obtain ⟨rfl, hsz, hP, hK, hD0, hN⟩ := hv
  have hx := B.exec
  have hb := B.bytes
  have hr := B.returns
  have hts := atoms_spec (ws := .code yX10_handler cX10_handler 6 (some .boolean) :: gw) B.pre
  have hg : ∀ w ∈ gw, w.before _ s = true := fun w h => hts w (List.mem_cons_of_mem _ h)
  have hown : s.vm.findClass RX10 = some m.cls := findClass_of_methodNamed B.named
  have hlocks := B.notSynchronized
  subst hsz
  have hD := hD0.self (sz := s.heap.size)
  generalize hAe : va_A (w10 h0 X C F n) s.heap.size = A at hD ⊢
  have hA : ∀ q : Nat, s.heap.size ≤ q → A q := fun q h => by rw [← hAe]; exact Or.inr h
  have hS : va_S A s.heap s.heap [] := va_S.rf
  have hP : va_P (dC, dI) vwCl (w10 h0 X C F n) s.heap := hP
  have hl := lv_entry ([.ref h0, .int v1, .int v2, .int v3, .int v4]) (n := 6) (Nat.le_of_ble_eq_true rfl)
  rw [lg_entry_eq]
  generalize (lg_sl ([.ref h0, .int v1, .int v2, .int v3, .int v4]) ++ List.replicate (6 - (lg_sl ([.ref h0, .int v1, .int v2, .int v3, .int v4])).length) Slot.unset).toArray = ls at hl ⊢
  have hl : lv_has ls 6 [(0, .ref h0), (1, .int v1), (2, .int v2), (3, .int v3), (4, .int v4)] := hl
  obtain ⟨b_1, b_2, b_3, b_4, b_5, b_6, b_7, b_8, b_9, b_10, b_11, b_12, i_13, i_14, i_15, i_16, i_17, i_18, i_19, j_20, j_21, j_22, j_23, j_24, j_25, j_26, j_27, j_28, j_29⟩ := id hI
  refine lv_iload_n hx hb dX10_handler_0 rfl (lv_at hl 1 rfl) ?_
  refine lv_if_lt (tgt := 24) hx hb dX10_handler_1 (by decide) (fun c_30 => ?_) (fun c_30 => ?_)
  · simp only [i_lt, i_le, i_eq, ti_0] at c_30
    refine lv_iconst (v := 0) hx hb dX10_handler_24 (by decide) ?_
    exact W.zret (v := 0) hx hb hr rfl (fun t ht hW => ⟨⟨0, (F, n), rfl, (Or.inr ⟨rfl, by omega⟩), by rw [ht]; exact hP, hD, ⟨b_1, b_2, b_3, b_4, b_5, b_6, b_7, b_8, b_9, b_10, b_11, b_12, i_13, i_14, i_15, i_16, i_17, i_18, i_19, j_20, j_21, j_22, j_23, j_24, j_25, j_26, j_27, j_28, j_29⟩⟩, hS.F ht⟩) hS.2.2 dX10_handler_25
  · simp only [i_lt, i_le, i_eq, ti_0] at c_30
    refine lv_iload_n hx hb dX10_handler_4 rfl (lv_at hl 1 rfl) ?_
    refine lv_iconst (v := 2) hx hb dX10_handler_5 (by decide) ?_
    refine lv_icmp_gt (tgt := 24) hx hb dX10_handler_6 (by decide) (fun c_31 => ?_) (fun c_31 => ?_)
    · simp only [i_lt, i_le, i_eq, ti_2] at c_31
      refine lv_iconst (v := 0) hx hb dX10_handler_24 (by decide) ?_
      exact W.zret (v := 0) hx hb hr rfl (fun t ht hW => ⟨⟨0, (F, n), rfl, (Or.inr ⟨rfl, by omega⟩), by rw [ht]; exact hP, hD, ⟨b_1, b_2, b_3, b_4, b_5, b_6, b_7, b_8, b_9, b_10, b_11, b_12, i_13, i_14, i_15, i_16, i_17, i_18, i_19, j_20, j_21, j_22, j_23, j_24, j_25, j_26, j_27, j_28, j_29⟩⟩, hS.F ht⟩) hS.2.2 dX10_handler_25
    · simp only [i_lt, i_le, i_eq, ti_2] at c_31
      refine lv_iload_n hx hb dX10_handler_9 rfl (lv_at hl 1 rfl) ?_
      refine lv_iconst (v := 2) hx hb dX10_handler_10 (by decide) ?_
      refine lv_icmp_ge (tgt := 26) hx hb dX10_handler_11 (by decide) (fun c_32 => ?_) (fun c_32 => ?_)
      · simp only [i_lt, i_le, i_eq, ti_2] at c_32
        refine lv_iload_n hx hb dX10_handler_26 rfl (lv_at hl 1 rfl) ?_
        refine lv_iconst (v := 2) hx hb dX10_handler_27 (by decide) ?_
        refine lv_icmp_ne (tgt := 36) hx hb dX10_handler_28 (by decide) (fun c_33 => ?_) (fun c_33 => ?_)
        · simp only [i_lt, i_le, i_eq, ti_2] at c_33
          exfalso
          omega
        · simp only [i_lt, i_le, i_eq, ti_2] at c_33
          refine lv_bipush (v := 16) hx hb dX10_handler_31 (by decide) ?_
          refine lv_goto (tgt := 42) hx hb dX10_handler_33 (by decide) ?_
          refine lv_istore (lv' := [(5, .int 16), (0, .ref h0), (1, .int v1), (2, .int v2), (3, .int v3), (4, .int v4)]) hx hb dX10_handler_42 hl (by decide) rfl (fun ls hl => ?_)
          refine lv_aload_n hx hb dX10_handler_44 rfl (lv_at hl 1 rfl) ?_
          refine va_get (D := (dC, dI)) (ci := 10) (v := .ref (X 6)) (C := RX10) (T := TX10) (N := 60) hx hb hg gb_10 hown hK hP 0 rfl rfl 6 (by decide) (hg _ gm_fieldLink_RX10_28_ErrandGuildModel_isHandler_AZ_) (fun _ h9 => h9) rfl dX10_handler_45 ?_
          refine lv_iload hx hb dX10_handler_48 (lv_at hl 0 rfl) ?_
          refine lv_iconst (v := 1) hx hb dX10_handler_50 (by decide) ?_
          refine va_zast hx hb hK hP hD hS 7 6 rfl rfl (by unfold vp_in; decide) dX10_handler_51 (fun H locs hP hD hS => ?_)
          have hP : va_P (dC, dI) vwCl (w10 h0 X C (upF F 6 (upd (F 6) (Int32.toNatClampNeg 16) (vp_nar .boolean 1))) n) H := hP
          have hD : va_D A (w10 h0 X C (upF F 6 (upd (F 6) (Int32.toNatClampNeg 16) (vp_nar .boolean 1))) n) := hD
          refine lv_aload_n hx hb dX10_handler_52 rfl (lv_at hl 1 rfl) ?_
          refine va_get (D := (dC, dI)) (ci := 10) (v := .ref (X 8)) (C := RX10) (T := TX10) (N := 60) hx hb hg gb_10 hown hK hP 0 rfl rfl 8 (by decide) (hg _ gm_fieldLink_RX10_35_ErrandGuildModel_effect_AI_) (fun _ h9 => h9) rfl dX10_handler_53 ?_
          refine lv_iload hx hb dX10_handler_56 (lv_at hl 0 rfl) ?_
          refine lv_iload_n hx hb dX10_handler_58 rfl (lv_at hl 4 rfl) ?_
          refine va_iast hx hb hK hP hD hS 9 8 rfl rfl (by unfold vp_in; decide) dX10_handler_59 (fun H locs hP hD hS => ?_)
          have hP : va_P (dC, dI) vwCl (w10 h0 X C (upF (upF F 6 (upd (F 6) (Int32.toNatClampNeg 16) (vp_nar .boolean 1))) 8 (upd (F 8) (Int32.toNatClampNeg 16) v3)) n) H := hP
          have hD : va_D A (w10 h0 X C (upF (upF F 6 (upd (F 6) (Int32.toNatClampNeg 16) (vp_nar .boolean 1))) 8 (upd (F 8) (Int32.toNatClampNeg 16) v3)) n) := hD
          refine lv_aload_n hx hb dX10_handler_60 rfl (lv_at hl 1 rfl) ?_
          refine va_get (D := (dC, dI)) (ci := 10) (v := .ref (X 7)) (C := RX10) (T := TX10) (N := 60) hx hb hg gb_10 hown hK hP 0 rfl rfl 7 (by decide) (hg _ gm_fieldLink_RX10_32_ErrandGuildModel_throwsOn_AZ_) (fun _ h9 => h9) rfl dX10_handler_61 ?_
          refine lv_iload hx hb dX10_handler_64 (lv_at hl 0 rfl) ?_
          refine lv_iload hx hb dX10_handler_66 (lv_at hl 5 rfl) ?_
          refine va_zast hx hb hK hP hD hS 8 7 rfl rfl (by unfold vp_in; decide) dX10_handler_68 (fun H locs hP hD hS => ?_)
          have hP : va_P (dC, dI) vwCl (w10 h0 X C (upF (upF (upF F 6 (upd (F 6) (Int32.toNatClampNeg 16) (vp_nar .boolean 1))) 7 (upd (F 7) (Int32.toNatClampNeg 16) (vp_nar .boolean v4))) 8 (upd (F 8) (Int32.toNatClampNeg 16) v3)) n) H := hP
          have hD : va_D A (w10 h0 X C (upF (upF (upF F 6 (upd (F 6) (Int32.toNatClampNeg 16) (vp_nar .boolean 1))) 7 (upd (F 7) (Int32.toNatClampNeg 16) (vp_nar .boolean v4))) 8 (upd (F 8) (Int32.toNatClampNeg 16) v3)) n) := hD
          refine lv_iconst (v := 1) hx hb dX10_handler_69 (by decide) ?_
          exact W.zret (v := 1) hx hb hr rfl (fun t ht hW => ⟨⟨1, ((upF (upF (upF F 6 (upd (F 6) (Int32.toNatClampNeg 16) (vp_nar .boolean 1))) 7 (upd (F 7) (Int32.toNatClampNeg 16) (vp_nar .boolean v4))) 8 (upd (F 8) (Int32.toNatClampNeg 16) v3)), n), rfl, (Or.inl ⟨rfl, by omega⟩), by rw [ht]; exact hP, hD, ⟨b_1, b_2, b_3, b_4, b_5, b_6, b_7, b_8, b_9, b_10, b_11, b_12, i_13, i_14, i_15, i_16, i_17, i_18, i_19, j_20, j_21, j_22, j_23, j_24, j_25, j_26, j_27, j_28, j_29⟩⟩, hS.F ht⟩) hS.2.2 dX10_handler_70
      · simp only [i_lt, i_le, i_eq, ti_2] at c_32
        refine lv_iload_n hx hb dX10_handler_14 rfl (lv_at hl 2 rfl) ?_
        refine lv_if_lt (tgt := 24) hx hb dX10_handler_15 (by decide) (fun c_34 => ?_) (fun c_34 => ?_)
        · simp only [i_lt, i_le, i_eq, ti_0] at c_34
          refine lv_iconst (v := 0) hx hb dX10_handler_24 (by decide) ?_
          exact W.zret (v := 0) hx hb hr rfl (fun t ht hW => ⟨⟨0, (F, n), rfl, (Or.inr ⟨rfl, by omega⟩), by rw [ht]; exact hP, hD, ⟨b_1, b_2, b_3, b_4, b_5, b_6, b_7, b_8, b_9, b_10, b_11, b_12, i_13, i_14, i_15, i_16, i_17, i_18, i_19, j_20, j_21, j_22, j_23, j_24, j_25, j_26, j_27, j_28, j_29⟩⟩, hS.F ht⟩) hS.2.2 dX10_handler_25
        · simp only [i_lt, i_le, i_eq, ti_0] at c_34
          refine lv_iload_n hx hb dX10_handler_18 rfl (lv_at hl 2 rfl) ?_
          refine lv_bipush (v := 7) hx hb dX10_handler_19 (by decide) ?_
          refine lv_icmp_le (tgt := 26) hx hb dX10_handler_21 (by decide) (fun c_35 => ?_) (fun c_35 => ?_)
          · simp only [i_lt, i_le, i_eq, ti_7] at c_35
            refine lv_iload_n hx hb dX10_handler_26 rfl (lv_at hl 1 rfl) ?_
            refine lv_iconst (v := 2) hx hb dX10_handler_27 (by decide) ?_
            refine lv_icmp_ne (tgt := 36) hx hb dX10_handler_28 (by decide) (fun c_36 => ?_) (fun c_36 => ?_)
            · simp only [i_lt, i_le, i_eq, ti_2] at c_36
              refine lv_bipush (v := 8) hx hb dX10_handler_36 (by decide) ?_
              refine lv_iload_n hx hb dX10_handler_38 rfl (lv_at hl 1 rfl) ?_
              refine lv_imul hx hb dX10_handler_39 ?_
              refine lv_topi (fun z_37 ez_37 => ?_)
              have tz_37 : z_37.toInt = 8 * v1.toInt := ar_mul ti_8 rfl ez_37 (by omega)
              refine lv_iload_n hx hb dX10_handler_40 rfl (lv_at hl 2 rfl) ?_
              refine lv_iadd hx hb dX10_handler_41 ?_
              refine lv_topi (fun z_38 ez_38 => ?_)
              have tz_38 : z_38.toInt = z_37.toInt + v2.toInt := ar_add rfl rfl ez_38 (by omega)
              refine lv_istore (lv' := [(5, .int z_38), (0, .ref h0), (1, .int v1), (2, .int v2), (3, .int v3), (4, .int v4)]) hx hb dX10_handler_42 hl (by decide) rfl (fun ls hl => ?_)
              refine lv_aload_n hx hb dX10_handler_44 rfl (lv_at hl 1 rfl) ?_
              refine va_get (D := (dC, dI)) (ci := 10) (v := .ref (X 6)) (C := RX10) (T := TX10) (N := 60) hx hb hg gb_10 hown hK hP 0 rfl rfl 6 (by decide) (hg _ gm_fieldLink_RX10_28_ErrandGuildModel_isHandler_AZ_) (fun _ h9 => h9) rfl dX10_handler_45 ?_
              refine lv_iload hx hb dX10_handler_48 (lv_at hl 0 rfl) ?_
              refine lv_iconst (v := 1) hx hb dX10_handler_50 (by decide) ?_
              refine va_zast hx hb hK hP hD hS 7 6 rfl rfl (vp_in_iff.mpr ⟨by omega, by omega⟩) dX10_handler_51 (fun H locs hP hD hS => ?_)
              have hP : va_P (dC, dI) vwCl (w10 h0 X C (upF F 6 (upd (F 6) (Int32.toNatClampNeg z_38) (vp_nar .boolean 1))) n) H := hP
              have hD : va_D A (w10 h0 X C (upF F 6 (upd (F 6) (Int32.toNatClampNeg z_38) (vp_nar .boolean 1))) n) := hD
              refine lv_aload_n hx hb dX10_handler_52 rfl (lv_at hl 1 rfl) ?_
              refine va_get (D := (dC, dI)) (ci := 10) (v := .ref (X 8)) (C := RX10) (T := TX10) (N := 60) hx hb hg gb_10 hown hK hP 0 rfl rfl 8 (by decide) (hg _ gm_fieldLink_RX10_35_ErrandGuildModel_effect_AI_) (fun _ h9 => h9) rfl dX10_handler_53 ?_
              refine lv_iload hx hb dX10_handler_56 (lv_at hl 0 rfl) ?_
              refine lv_iload_n hx hb dX10_handler_58 rfl (lv_at hl 4 rfl) ?_
              refine va_iast hx hb hK hP hD hS 9 8 rfl rfl (vp_in_iff.mpr ⟨by omega, by omega⟩) dX10_handler_59 (fun H locs hP hD hS => ?_)
              have hP : va_P (dC, dI) vwCl (w10 h0 X C (upF (upF F 6 (upd (F 6) (Int32.toNatClampNeg z_38) (vp_nar .boolean 1))) 8 (upd (F 8) (Int32.toNatClampNeg z_38) v3)) n) H := hP
              have hD : va_D A (w10 h0 X C (upF (upF F 6 (upd (F 6) (Int32.toNatClampNeg z_38) (vp_nar .boolean 1))) 8 (upd (F 8) (Int32.toNatClampNeg z_38) v3)) n) := hD
              refine lv_aload_n hx hb dX10_handler_60 rfl (lv_at hl 1 rfl) ?_
              refine va_get (D := (dC, dI)) (ci := 10) (v := .ref (X 7)) (C := RX10) (T := TX10) (N := 60) hx hb hg gb_10 hown hK hP 0 rfl rfl 7 (by decide) (hg _ gm_fieldLink_RX10_32_ErrandGuildModel_throwsOn_AZ_) (fun _ h9 => h9) rfl dX10_handler_61 ?_
              refine lv_iload hx hb dX10_handler_64 (lv_at hl 0 rfl) ?_
              refine lv_iload hx hb dX10_handler_66 (lv_at hl 5 rfl) ?_
              refine va_zast hx hb hK hP hD hS 8 7 rfl rfl (vp_in_iff.mpr ⟨by omega, by omega⟩) dX10_handler_68 (fun H locs hP hD hS => ?_)
              have hP : va_P (dC, dI) vwCl (w10 h0 X C (upF (upF (upF F 6 (upd (F 6) (Int32.toNatClampNeg z_38) (vp_nar .boolean 1))) 7 (upd (F 7) (Int32.toNatClampNeg z_38) (vp_nar .boolean v4))) 8 (upd (F 8) (Int32.toNatClampNeg z_38) v3)) n) H := hP
              have hD : va_D A (w10 h0 X C (upF (upF (upF F 6 (upd (F 6) (Int32.toNatClampNeg z_38) (vp_nar .boolean 1))) 7 (upd (F 7) (Int32.toNatClampNeg z_38) (vp_nar .boolean v4))) 8 (upd (F 8) (Int32.toNatClampNeg z_38) v3)) n) := hD
              refine lv_iconst (v := 1) hx hb dX10_handler_69 (by decide) ?_
              exact W.zret (v := 1) hx hb hr rfl (fun t ht hW => ⟨⟨1, ((upF (upF (upF F 6 (upd (F 6) (Int32.toNatClampNeg z_38) (vp_nar .boolean 1))) 7 (upd (F 7) (Int32.toNatClampNeg z_38) (vp_nar .boolean v4))) 8 (upd (F 8) (Int32.toNatClampNeg z_38) v3)), n), rfl, (Or.inl ⟨rfl, by omega⟩), by rw [ht]; exact hP, hD, ⟨b_1, b_2, b_3, b_4, b_5, b_6, b_7, b_8, b_9, b_10, b_11, b_12, i_13, i_14, i_15, i_16, i_17, i_18, i_19, j_20, j_21, j_22, j_23, j_24, j_25, j_26, j_27, j_28, j_29⟩⟩, hS.F ht⟩) hS.2.2 dX10_handler_70
            · simp only [i_lt, i_le, i_eq, ti_2] at c_36
              exfalso
              omega
          · simp only [i_lt, i_le, i_eq, ti_7] at c_35
            refine lv_iconst (v := 0) hx hb dX10_handler_24 (by decide) ?_
            exact W.zret (v := 0) hx hb hr rfl (fun t ht hW => ⟨⟨0, (F, n), rfl, (Or.inr ⟨rfl, by omega⟩), by rw [ht]; exact hP, hD, ⟨b_1, b_2, b_3, b_4, b_5, b_6, b_7, b_8, b_9, b_10, b_11, b_12, i_13, i_14, i_15, i_16, i_17, i_18, i_19, j_20, j_21, j_22, j_23, j_24, j_25, j_26, j_27, j_28, j_29⟩⟩, hS.F ht⟩) hS.2.2 dX10_handler_25

set_option maxHeartbeats 8000000 in
set_option maxRecDepth 100000 in
theorem c_X10_step (l : Launch) (dC : Nat → ClassId) (dI : Nat → Nat → Nat) (kp : Int) (h0 : Nat) (X : Nat → Nat) (C : Nat → ClassId) (F : Nat → Nat → Int32) (n : Nat → Int32) (v1 : Int32) (v2 : Int32) (v3 : Int32) (v4 : Int32) (sz : Nat) (hI : I10 kp F n) : Met l yX10_step (.code yX10_step cX10_step 6 (some .int) :: gw) ({ frames := 2, cells := 0, slots := 0, locals := 43 }) (va_Pc [.ref h0, .int v1, .int v2, .int v3, .int v4] (fun U => U.heap.size = sz ∧ va_P (dC, dI) vwCl (w10 h0 X C F n) U.heap ∧ va_K (dC, dI) vwCl (t10 C) U ∧ va_D (fun _ => True) (w10 h0 X C F n) ∧ nx U)) (va_Qi (fun (r : Int32) (u : (Nat → Nat → Int32) × (Nat → Int32)) => True) (fun u t => va_P (dC, dI) vwCl (w10 h0 X C u.1 u.2) t.heap ∧ va_D (va_A (w10 h0 X C F n) sz) (w10 h0 X C u.1 u.2) ∧ I10 kp u.1 u.2) (va_A (w10 h0 X C F n) sz)) 0 0 (va_A (w10 h0 X C F n) sz) := by
  refine Met.ofW (cc := cX10_step) (maxL := 6) (ret := (some .int)) (by decide) rfl ?_
  intro p e s m args below meth c s₁ B hml hv
  obtain ⟨rfl, hsz, hP, hK, hD0, hN⟩ := hv
  have hx := B.exec
  have hb := B.bytes
  have hr := B.returns
  have hts := atoms_spec (ws := .code yX10_step cX10_step 6 (some .int) :: gw) B.pre
  have hg : ∀ w ∈ gw, w.before _ s = true := fun w h => hts w (List.mem_cons_of_mem _ h)
  have hown : s.vm.findClass RX10 = some m.cls := findClass_of_methodNamed B.named
  have hlocks := B.notSynchronized
  subst hsz
  have hD := hD0.self (sz := s.heap.size)
  generalize hAe : va_A (w10 h0 X C F n) s.heap.size = A at hD ⊢
  have hA : ∀ q : Nat, s.heap.size ≤ q → A q := fun q h => by rw [← hAe]; exact Or.inr h
  have hS : va_S A s.heap s.heap [] := va_S.rf
  have hP : va_P (dC, dI) vwCl (w10 h0 X C F n) s.heap := hP
  have hl := lv_entry ([.ref h0, .int v1, .int v2, .int v3, .int v4]) (n := 6) (Nat.le_of_ble_eq_true rfl)
  rw [lg_entry_eq]
  generalize (lg_sl ([.ref h0, .int v1, .int v2, .int v3, .int v4]) ++ List.replicate (6 - (lg_sl ([.ref h0, .int v1, .int v2, .int v3, .int v4])).length) Slot.unset).toArray = ls at hl ⊢
  have hl : lv_has ls 6 [(0, .ref h0), (1, .int v1), (2, .int v2), (3, .int v3), (4, .int v4)] := hl
  obtain ⟨b_1, b_2, b_3, b_4, b_5, b_6, b_7, b_8, b_9, b_10, b_11, b_12, i_13, i_14, i_15, i_16, i_17, i_18, i_19, j_20, j_21, j_22, j_23, j_24, j_25, j_26, j_27, j_28, j_29⟩ := id hI
  refine lv_aload_n hx hb dX10_step_0 rfl (lv_at hl 0 rfl) ?_
  refine va_get (D := (dC, dI)) (ci := 10) (v := .int (n 11)) (C := RX10) (T := TX10) (N := 60) hx hb hg gb_10 hown hK hP 0 rfl rfl 11 (by decide) (hg _ gm_fieldLink_RX10_176_ErrandGuildModel_runs_I_) (fun _ h9 => h9) rfl dX10_step_1 ?_
  refine lv_if_gt (tgt := 41) hx hb dX10_step_4 (by decide) (fun c_30 => ?_) (fun c_30 => ?_)
  · simp only [i_lt, i_le, i_eq, ti_0] at c_30
    refine lv_iconst (v := -1) hx hb dX10_step_41 (by decide) ?_
    exact W.iret (v := -1) hx hb hr (fun t ht hW => ⟨⟨-1, (F, n), rfl, trivial, by rw [ht]; exact hP, hD, ⟨b_1, b_2, b_3, b_4, b_5, b_6, b_7, b_8, b_9, b_10, b_11, b_12, i_13, i_14, i_15, i_16, i_17, i_18, i_19, j_20, j_21, j_22, j_23, j_24, j_25, j_26, j_27, j_28, j_29⟩⟩, hS.F ht⟩) hS.2.2 dX10_step_42
  · simp only [i_lt, i_le, i_eq, ti_0] at c_30
    refine lv_iload_n hx hb dX10_step_7 rfl (lv_at hl 1 rfl) ?_
    have hPc := hP.sub (ws' := []) [] rfl
    have hDc := hD.sub (ws' := []) [] (by decide) rfl
    have hKc := hK.sub (tys' := []) [] rfl
    have hFc := va_free (wc := []) hD hS hA [] rfl
    refine va_calli (va_runS (As := [.int v1]) (rest := []) ⟨hx, hb, hml, hown, hg⟩ (c_X10_isErrand l dC dI v1 s.heap.size) (va_cwS 1 hg (gw_S gm_methodLink_RX10_179_yX10_isErrand gm_static_yX10_isErrand gm_initialized_RX10 gm_code_yX10_isErrand_cX10_isErrand_1_some_boolean_) rfl rfl rfl (by decide +kernel) ⟨Nat.le_of_ble_eq_true rfl, Nat.le_of_ble_eq_true rfl⟩) ⟨fun a U g mk q => by obtain ⟨q0, q1, qP, qK, qD, qN⟩ := q; exact ⟨q0, q1, qP, va_K.moved (u := U) (U := U.calling g mk a) (Vm.Alike.refl U.vm) qK, qD, nx_same (u := U) (U := U.calling g mk a) rfl qN⟩, fun U hU hW => ⟨rfl, by rw [hU], by rw [hU]; exact hPc, va_K.moved hW.alike hKc, hDc.weaken (fun _ _ _ _ => trivial), nx_warm hW hN⟩⟩ rfl rfl hl.1 rfl (lv_room (Nat.le_of_ble_eq_true rfl)) dX10_step_8 ⟨Nat.le_of_ble_eq_true rfl, Nat.le_of_ble_eq_true rfl⟩) hS (fun q _ h => hFc q h) hFc (fun r_31 u_32 t H1 locs ht hvm hw hB hz1 hk1 hS => ?_)
    obtain ⟨hP, hD⟩ := va_join (wr := (w10 h0 X C F n)) (w1 := []) hP hD [] [0, 1, 2, 3, 4, 5, 6, 7, 8, 9, 10, 11, 12, 13, 14, 15, 16, 17, 18, 19, 20, 21, 22, 23, 24, 25, 26, 27, 28, 29, 30, 31, 32, 33, 34, 35, 36, 37, 38, 39, 40, 41, 42, 43, 44, 45, 46, 47, 48, 49, 50, 51, 52] rfl rfl (by decide +kernel) (fun _ _ h => by simp at h) hk1 hFc nil_P nil_D
    generalize H1 = H at hP hS ⊢
    have hP : va_P (dC, dI) vwCl (w10 h0 X C F n) H := hP
    have hD : va_D A (w10 h0 X C F n) := hD
    rcases hw with ⟨rfl, w_33⟩ | ⟨rfl, w_33⟩
    · refine lv_if_eq (tgt := 41) hx hb dX10_step_11 (by decide) (fun c_34 => absurd c_34 (by decide)) (fun _ => ?_)
      refine lv_aload_n hx hb dX10_step_14 rfl (lv_at hl 0 rfl) ?_
      refine va_get (D := (dC, dI)) (ci := 10) (v := .ref (X 2)) (C := RX10) (T := TX10) (N := 60) hx hb hg gb_10 hown hK hP 0 rfl rfl 2 (by decide) (hg _ gm_fieldLink_RX10_16_ErrandGuildModel_stepMany_AI_) (fun _ h9 => h9) rfl dX10_step_15 ?_
      refine lv_iload_n hx hb dX10_step_18 rfl (lv_at hl 1 rfl) ?_
      refine va_iald hx hb hK hP 3 2 rfl rfl (vp_in_iff.mpr ⟨by omega, by omega⟩) dX10_step_19 ?_
      refine lv_topi (fun z_35 ez_35 => ?_)
      have qz_35 := congrArg Int32.toInt ez_35
      have bz_35 := bd_at b_1 ez_35
      refine lv_bipush (v := 24) hx hb dX10_step_20 (by decide) ?_
      refine lv_icmp_eq (tgt := 41) hx hb dX10_step_22 (by decide) (fun c_36 => ?_) (fun c_36 => ?_)
      · simp only [i_lt, i_le, i_eq, ti_24] at c_36
        refine lv_iconst (v := -1) hx hb dX10_step_41 (by decide) ?_
        exact W.iret (v := -1) hx hb hr (fun t ht hW => ⟨⟨-1, (F, n), rfl, trivial, by rw [ht]; exact hP, hD, ⟨b_1, b_2, b_3, b_4, b_5, b_6, b_7, b_8, b_9, b_10, b_11, b_12, i_13, i_14, i_15, i_16, i_17, i_18, i_19, j_20, j_21, j_22, j_23, j_24, j_25, j_26, j_27, j_28, j_29⟩⟩, hS.F ht⟩) hS.2.2 dX10_step_42
      · simp only [i_lt, i_le, i_eq, ti_24] at c_36
        refine lv_iload_n hx hb dX10_step_25 rfl (lv_at hl 2 rfl) ?_
        refine lv_iload_n hx hb dX10_step_26 rfl (lv_at hl 3 rfl) ?_
        refine lv_iload hx hb dX10_step_27 (lv_at hl 4 rfl) ?_
        refine lv_aload_n hx hb dX10_step_29 rfl (lv_at hl 0 rfl) ?_
        refine va_get (D := (dC, dI)) (ci := 10) (v := .ref (X 2)) (C := RX10) (T := TX10) (N := 60) hx hb hg gb_10 hown hK hP 0 rfl rfl 2 (by decide) (hg _ gm_fieldLink_RX10_16_ErrandGuildModel_stepMany_AI_) (fun _ h9 => h9) rfl dX10_step_30 ?_
        refine lv_iload_n hx hb dX10_step_33 rfl (lv_at hl 1 rfl) ?_
        refine va_iald hx hb hK hP 3 2 rfl rfl (vp_in_iff.mpr ⟨by omega, by omega⟩) dX10_step_34 ?_
        refine lv_topi (fun z_37 ez_37 => ?_)
        obtain rfl : z_35 = z_37 := ez_35.trans ez_37.symm
        have hPc := hP.sub (ws' := []) [] rfl
        have hDc := hD.sub (ws' := []) [] (by decide) rfl
        have hKc := hK.sub (tys' := []) [] rfl
        have hFc := va_free (wc := []) hD hS hA [] rfl
        refine va_calli (va_runS (As := [.int v2, .int v3, .int v4, .int z_35]) (rest := []) ⟨hx, hb, hml, hown, hg⟩ (c_X10_areGood l dC dI v2 v3 v4 z_35 H.size) (va_cwS 4 hg (gw_S gm_methodLink_RX10_182_yX10_areGood gm_static_yX10_areGood gm_initialized_RX10 gm_code_yX10_areGood_cX10_areGood_4_some_boolean_) rfl rfl rfl (by decide +kernel) ⟨Nat.le_of_ble_eq_true rfl, Nat.le_of_ble_eq_true rfl⟩) ⟨fun a U g mk q => by obtain ⟨q0, q1, qP, qK, qD, qN⟩ := q; exact ⟨q0, q1, qP, va_K.moved (u := U) (U := U.calling g mk a) (Vm.Alike.refl U.vm) qK, qD, nx_same (u := U) (U := U.calling g mk a) rfl qN⟩, fun U hU hW => ⟨rfl, by rw [hU], by rw [hU]; exact hPc, va_K.moved hW.alike hKc, hDc.weaken (fun _ _ _ _ => trivial), nx_warm hW hN⟩⟩ rfl rfl hl.1 rfl (lv_room (Nat.le_of_ble_eq_true rfl)) dX10_step_35 ⟨Nat.le_of_ble_eq_true rfl, Nat.le_of_ble_eq_true rfl⟩) hS (fun q _ h => hFc q h) hFc (fun r_38 u_39 t H1 locs ht hvm hw hB hz1 hk1 hS => ?_)
        obtain ⟨hP, hD⟩ := va_join (wr := (w10 h0 X C F n)) (w1 := []) hP hD [] [0, 1, 2, 3, 4, 5, 6, 7, 8, 9, 10, 11, 12, 13, 14, 15, 16, 17, 18, 19, 20, 21, 22, 23, 24, 25, 26, 27, 28, 29, 30, 31, 32, 33, 34, 35, 36, 37, 38, 39, 40, 41, 42, 43, 44, 45, 46, 47, 48, 49, 50, 51, 52] rfl rfl (by decide +kernel) (fun _ _ h => by simp at h) hk1 hFc nil_P nil_D
        generalize H1 = H at hP hS ⊢
        have hP : va_P (dC, dI) vwCl (w10 h0 X C F n) H := hP
        have hD : va_D A (w10 h0 X C F n) := hD
        rcases hw with ⟨rfl, w_40⟩ | ⟨rfl, w_40⟩
        · refine lv_if_ne (tgt := 43) hx hb dX10_step_38 (by decide) (fun _ => ?_) (fun c_41 => absurd c_41 (by decide))
          refine lv_bipush (v := 24) hx hb dX10_step_43 (by decide) ?_
          refine lv_iload_n hx hb dX10_step_45 rfl (lv_at hl 1 rfl) ?_
          refine lv_imul hx hb dX10_step_46 ?_
          refine lv_topi (fun z_42 ez_42 => ?_)
          have tz_42 : z_42.toInt = 24 * v1.toInt := ar_mul ti_24 rfl ez_42 (by omega)
          refine lv_aload_n hx hb dX10_step_47 rfl (lv_at hl 0 rfl) ?_
          refine va_get (D := (dC, dI)) (ci := 10) (v := .ref (X 2)) (C := RX10) (T := TX10) (N := 60) hx hb hg gb_10 hown hK hP 0 rfl rfl 2 (by decide) (hg _ gm_fieldLink_RX10_16_ErrandGuildModel_stepMany_AI_) (fun _ h9 => h9) rfl dX10_step_48 ?_
          refine lv_iload_n hx hb dX10_step_51 rfl (lv_at hl 1 rfl) ?_
          refine va_iald hx hb hK hP 3 2 rfl rfl (vp_in_iff.mpr ⟨by omega, by omega⟩) dX10_step_52 ?_
          refine lv_topi (fun z_43 ez_43 => ?_)
          obtain rfl : z_35 = z_43 := ez_35.trans ez_43.symm
          refine lv_iadd hx hb dX10_step_53 ?_
          refine lv_topi (fun z_44 ez_44 => ?_)
          have tz_44 : z_44.toInt = z_42.toInt + z_35.toInt := ar_add rfl rfl ez_44 (by omega)
          refine lv_istore (lv' := [(5, .int z_44), (0, .ref h0), (1, .int v1), (2, .int v2), (3, .int v3), (4, .int v4)]) hx hb dX10_step_54 hl (by decide) rfl (fun ls hl => ?_)
          refine lv_aload_n hx hb dX10_step_56 rfl (lv_at hl 1 rfl) ?_
          refine va_get (D := (dC, dI)) (ci := 10) (v := .ref (X 3)) (C := RX10) (T := TX10) (N := 60) hx hb hg gb_10 hown hK hP 0 rfl rfl 3 (by decide) (hg _ gm_fieldLink_RX10_19_ErrandGuildModel_op_AI_) (fun _ h9 => h9) rfl dX10_step_57 ?_
          refine lv_iload hx hb dX10_step_60 (lv_at hl 0 rfl) ?_
          refine lv_iload_n hx hb dX10_step_62 rfl (lv_at hl 3 rfl) ?_
          refine va_iast hx hb hK hP hD hS 4 3 rfl rfl (vp_in_iff.mpr ⟨by omega, by omega⟩) dX10_step_63 (fun H locs hP hD hS => ?_)
          have hP : va_P (dC, dI) vwCl (w10 h0 X C (upF F 3 (upd (F 3) (Int32.toNatClampNeg z_44) v2)) n) H := hP
          have hD : va_D A (w10 h0 X C (upF F 3 (upd (F 3) (Int32.toNatClampNeg z_44) v2)) n) := hD
          have b_45 := bd_upd b_2 (Int32.toNatClampNeg z_44) (x := v2) (by omega) (by omega)
          refine lv_aload_n hx hb dX10_step_64 rfl (lv_at hl 1 rfl) ?_
          refine va_get (D := (dC, dI)) (ci := 10) (v := .ref (X 4)) (C := RX10) (T := TX10) (N := 60) hx hb hg gb_10 hown hK hP 0 rfl rfl 4 (by decide) (hg _ gm_fieldLink_RX10_22_ErrandGuildModel_opA_AI_) (fun _ h9 => h9) rfl dX10_step_65 ?_
          refine lv_iload hx hb dX10_step_68 (lv_at hl 0 rfl) ?_
          refine lv_iload_n hx hb dX10_step_70 rfl (lv_at hl 4 rfl) ?_
          refine va_iast hx hb hK hP hD hS 5 4 rfl rfl (vp_in_iff.mpr ⟨by omega, by omega⟩) dX10_step_71 (fun H locs hP hD hS => ?_)
          have hP : va_P (dC, dI) vwCl (w10 h0 X C (upF (upF F 3 (upd (F 3) (Int32.toNatClampNeg z_44) v2)) 4 (upd (F 4) (Int32.toNatClampNeg z_44) v3)) n) H := hP
          have hD : va_D A (w10 h0 X C (upF (upF F 3 (upd (F 3) (Int32.toNatClampNeg z_44) v2)) 4 (upd (F 4) (Int32.toNatClampNeg z_44) v3)) n) := hD
          refine lv_aload_n hx hb dX10_step_72 rfl (lv_at hl 1 rfl) ?_
          refine va_get (D := (dC, dI)) (ci := 10) (v := .ref (X 5)) (C := RX10) (T := TX10) (N := 60) hx hb hg gb_10 hown hK hP 0 rfl rfl 5 (by decide) (hg _ gm_fieldLink_RX10_25_ErrandGuildModel_opB_AI_) (fun _ h9 => h9) rfl dX10_step_73 ?_
          refine lv_iload hx hb dX10_step_76 (lv_at hl 0 rfl) ?_
          refine lv_iload hx hb dX10_step_78 (lv_at hl 5 rfl) ?_
          refine va_iast hx hb hK hP hD hS 6 5 rfl rfl (vp_in_iff.mpr ⟨by omega, by omega⟩) dX10_step_80 (fun H locs hP hD hS => ?_)
          have hP : va_P (dC, dI) vwCl (w10 h0 X C (upF (upF (upF F 3 (upd (F 3) (Int32.toNatClampNeg z_44) v2)) 4 (upd (F 4) (Int32.toNatClampNeg z_44) v3)) 5 (upd (F 5) (Int32.toNatClampNeg z_44) v4)) n) H := hP
          have hD : va_D A (w10 h0 X C (upF (upF (upF F 3 (upd (F 3) (Int32.toNatClampNeg z_44) v2)) 4 (upd (F 4) (Int32.toNatClampNeg z_44) v3)) 5 (upd (F 5) (Int32.toNatClampNeg z_44) v4)) n) := hD
          have ce := cl_eq z_44
          have j_46 := J0_set j_20 (Int32.toNatClampNeg z_44) (x := v2) (y := v3) (z := v4) (by omega) (by omega) (by omega)
          refine lv_aload_n hx hb dX10_step_81 rfl (lv_at hl 1 rfl) ?_
          refine va_get (D := (dC, dI)) (ci := 10) (v := .ref (X 2)) (C := RX10) (T := TX10) (N := 60) hx hb hg gb_10 hown hK hP 0 rfl rfl 2 (by decide) (hg _ gm_fieldLink_RX10_16_ErrandGuildModel_stepMany_AI_) (fun _ h9 => h9) rfl dX10_step_82 ?_
          refine lv_iload_n hx hb dX10_step_85 rfl (lv_at hl 2 rfl) ?_
          refine lv_aload_n hx hb dX10_step_86 rfl (lv_at hl 1 rfl) ?_
          refine va_get (D := (dC, dI)) (ci := 10) (v := .ref (X 2)) (C := RX10) (T := TX10) (N := 60) hx hb hg gb_10 hown hK hP 0 rfl rfl 2 (by decide) (hg _ gm_fieldLink_RX10_16_ErrandGuildModel_stepMany_AI_) (fun _ h9 => h9) rfl dX10_step_87 ?_
          refine lv_iload_n hx hb dX10_step_90 rfl (lv_at hl 2 rfl) ?_
          refine va_iald hx hb hK hP 3 2 rfl rfl (vp_in_iff.mpr ⟨by omega, by omega⟩) dX10_step_91 ?_
          refine lv_topi (fun z_47 ez_47 => ?_)
          obtain rfl : z_35 = z_47 := ez_35.trans ez_47.symm
          refine lv_iconst (v := 1) hx hb dX10_step_92 (by decide) ?_
          refine lv_iadd hx hb dX10_step_93 ?_
          refine lv_topi (fun z_48 ez_48 => ?_)
          have tz_48 : z_48.toInt = z_35.toInt + 1 := ar_add rfl ti_1 ez_48 (by omega)
          refine va_iast hx hb hK hP hD hS 3 2 rfl rfl (vp_in_iff.mpr ⟨by omega, by omega⟩) dX10_step_94 (fun H locs hP hD hS => ?_)
          have hP : va_P (dC, dI) vwCl (w10 h0 X C (upF (upF (upF (upF F 2 (upd (F 2) (Int32.toNatClampNeg v1) z_48)) 3 (upd (F 3) (Int32.toNatClampNeg z_44) v2)) 4 (upd (F 4) (Int32.toNatClampNeg z_44) v3)) 5 (upd (F 5) (Int32.toNatClampNeg z_44) v4)) n) H := hP
          have hD : va_D A (w10 h0 X C (upF (upF (upF (upF F 2 (upd (F 2) (Int32.toNatClampNeg v1) z_48)) 3 (upd (F 3) (Int32.toNatClampNeg z_44) v2)) 4 (upd (F 4) (Int32.toNatClampNeg z_44) v3)) 5 (upd (F 5) (Int32.toNatClampNeg z_44) v4)) n) := hD
          have b_49 := bd_upd b_1 (Int32.toNatClampNeg v1) (x := z_48) (by omega) (by omega)
          refine lv_aload_n hx hb dX10_step_95 rfl (lv_at hl 1 rfl) ?_
          refine va_get (D := (dC, dI)) (ci := 10) (v := .ref (X 2)) (C := RX10) (T := TX10) (N := 60) hx hb hg gb_10 hown hK hP 0 rfl rfl 2 (by decide) (hg _ gm_fieldLink_RX10_16_ErrandGuildModel_stepMany_AI_) (fun _ h9 => h9) rfl dX10_step_96 ?_
          refine lv_iload_n hx hb dX10_step_99 rfl (lv_at hl 2 rfl) ?_
          refine va_iald hx hb hK hP 3 2 rfl rfl (vp_in_iff.mpr ⟨by omega, by omega⟩) dX10_step_100 ?_
          refine lv_topi (fun z_50 ez_50 => ?_)
          obtain rfl : z_48 = z_50 := (ez_50.trans (upd_eq _ _ _)).symm
          exact W.iret (v := z_48) hx hb hr (fun t ht hW => ⟨⟨z_48, ((upF (upF (upF (upF F 2 (upd (F 2) (Int32.toNatClampNeg v1) z_48)) 3 (upd (F 3) (Int32.toNatClampNeg z_44) v2)) 4 (upd (F 4) (Int32.toNatClampNeg z_44) v3)) 5 (upd (F 5) (Int32.toNatClampNeg z_44) v4)), n), rfl, trivial, by rw [ht]; exact hP, hD, ⟨b_49, b_45, b_3, b_4, b_5, b_6, b_7, b_8, b_9, b_10, b_11, b_12, i_13, i_14, i_15, i_16, i_17, i_18, i_19, j_46, j_21, j_22, j_23, j_24, j_25, j_26, j_27, j_28, j_29⟩⟩, hS.F ht⟩) hS.2.2 dX10_step_101
        · refine lv_if_ne (tgt := 43) hx hb dX10_step_38 (by decide) (fun c_51 => absurd c_51 (by decide)) (fun _ => ?_)
          refine lv_iconst (v := -1) hx hb dX10_step_41 (by decide) ?_
          exact W.iret (v := -1) hx hb hr (fun t ht hW => ⟨⟨-1, (F, n), rfl, trivial, by rw [ht]; exact hP, hD, ⟨b_1, b_2, b_3, b_4, b_5, b_6, b_7, b_8, b_9, b_10, b_11, b_12, i_13, i_14, i_15, i_16, i_17, i_18, i_19, j_20, j_21, j_22, j_23, j_24, j_25, j_26, j_27, j_28, j_29⟩⟩, hS.F ht⟩) hS.2.2 dX10_step_42
    · refine lv_if_eq (tgt := 41) hx hb dX10_step_11 (by decide) (fun _ => ?_) (fun c_52 => absurd c_52 (by decide))
      refine lv_iconst (v := -1) hx hb dX10_step_41 (by decide) ?_
      exact W.iret (v := -1) hx hb hr (fun t ht hW => ⟨⟨-1, (F, n), rfl, trivial, by rw [ht]; exact hP, hD, ⟨b_1, b_2, b_3, b_4, b_5, b_6, b_7, b_8, b_9, b_10, b_11, b_12, i_13, i_14, i_15, i_16, i_17, i_18, i_19, j_20, j_21, j_22, j_23, j_24, j_25, j_26, j_27, j_28, j_29⟩⟩, hS.F ht⟩) hS.2.2 dX10_step_42

set_option maxHeartbeats 8000000 in
set_option maxRecDepth 100000 in
theorem c_X10_anew (l : Launch) (dC : Nat → ClassId) (dI : Nat → Nat → Nat) (kp : Int) (h0 : Nat) (X : Nat → Nat) (C : Nat → ClassId) (F : Nat → Nat → Int32) (n : Nat → Int32) (v1 : Int32) (sz : Nat) (hI : I10 kp F n) : Met l yX10_anew (.code yX10_anew cX10_anew 3 none :: gw) ({ frames := 0, cells := 0, slots := 0, locals := 0 }) (va_Pc [.ref h0, .int v1] (fun U => U.heap.size = sz ∧ va_P (dC, dI) vwCl (w10 h0 X C F n) U.heap ∧ va_K (dC, dI) vwCl (t10 C) U ∧ va_D (fun _ => True) (w10 h0 X C F n) ∧ nx U)) (va_Qv (fun (u : (Nat → Nat → Int32) × (Nat → Int32)) => True) (fun u t => va_P (dC, dI) vwCl (w10 h0 X C u.1 u.2) t.heap ∧ va_D (va_A (w10 h0 X C F n) sz) (w10 h0 X C u.1 u.2) ∧ I10 kp u.1 u.2) (va_A (w10 h0 X C F n) sz)) 0 0 (va_A (w10 h0 X C F n) sz) := by
  refine Met.ofW (cc := cX10_anew) (maxL := 3) (ret := none) (by decide) rfl ?_
  intro p e s m args below meth c s₁ B hml hv
  obtain ⟨rfl, hsz, hP, hK, hD0, hN⟩ := hv
  have hx := B.exec
  have hb := B.bytes
  have hr := B.returns
  have hts := atoms_spec (ws := .code yX10_anew cX10_anew 3 none :: gw) B.pre
  have hg : ∀ w ∈ gw, w.before _ s = true := fun w h => hts w (List.mem_cons_of_mem _ h)
  have hown : s.vm.findClass RX10 = some m.cls := findClass_of_methodNamed B.named
  have hlocks := B.notSynchronized
  subst hsz
  have hD := hD0.self (sz := s.heap.size)
  generalize hAe : va_A (w10 h0 X C F n) s.heap.size = A at hD ⊢
  have hA : ∀ q : Nat, s.heap.size ≤ q → A q := fun q h => by rw [← hAe]; exact Or.inr h
  have hS : va_S A s.heap s.heap [] := va_S.rf
  have hP : va_P (dC, dI) vwCl (w10 h0 X C F n) s.heap := hP
  have hl := lv_entry ([.ref h0, .int v1]) (n := 3) (Nat.le_of_ble_eq_true rfl)
  rw [lg_entry_eq]
  generalize (lg_sl ([.ref h0, .int v1]) ++ List.replicate (3 - (lg_sl ([.ref h0, .int v1])).length) Slot.unset).toArray = ls at hl ⊢
  have hl : lv_has ls 3 [(0, .ref h0), (1, .int v1)] := hl
  obtain ⟨b_1, b_2, b_3, b_4, b_5, b_6, b_7, b_8, b_9, b_10, b_11, b_12, i_13, i_14, i_15, i_16, i_17, i_18, i_19, j_20, j_21, j_22, j_23, j_24, j_25, j_26, j_27, j_28, j_29⟩ := id hI
  refine lv_iconst (v := 0) hx hb dX10_anew_0 (by decide) ?_
  refine lv_istore_n (lv' := [(2, .int 0), (0, .ref h0), (1, .int v1)]) hx hb dX10_anew_1 rfl hl (by decide) rfl (fun ls hl => ?_)
  have L2 : ∀ (fuel : Nat) (x_30 : Int32) (f_31 : Nat → Int32) (h_32 : bd 0 24 f_31) (H : Heap) (locs : List Loc) (ls : Array Slot), (9 - x_30.toInt).toNat < fuel → 0 ≤ x_30.toInt ∧ x_30.toInt ≤ 8 → va_P (dC, dI) vwCl (w10 h0 X C (upF F 2 f_31) n) H → va_D A (w10 h0 X C (upF F 2 f_31) n) → va_S A s.heap H locs → lv_has ls 3 [(2, .int x_30), (0, .ref h0), (1, .int v1)] → W p l e (headSpec (.code yX10_anew cX10_anew 3 none :: gw) ({ frames := 0, cells := 0, slots := 0, locals := 0 })).room s m ([.ref h0, .int v1] : List Value).toArray below meth c H locs 0 0 (MQ below (va_Qv (fun (u : (Nat → Nat → Int32) × (Nat → Int32)) => True) (fun u t => va_P (dC, dI) vwCl (w10 h0 X C u.1 u.2) t.heap ∧ va_D A (w10 h0 X C u.1 u.2) ∧ I10 kp u.1 u.2) A) ([.ref h0, .int v1] : List Value).toArray s 0 0 A) (F0 m 2 ls []) := by
    intro fuel
    induction fuel with
    | zero => intro x_30 f_31 h_32 H locs ls hm; exact absurd hm (Nat.not_lt_zero _)
    | succ fuel_34 ih_33 =>
      intro x_30 f_31 h_32 H locs ls hm_36 v_35 hP hD hS hl
      refine lv_iload_n hx hb dX10_anew_2 rfl (lv_at hl 0 rfl) ?_
      refine lv_bipush (v := 8) hx hb dX10_anew_3 (by decide) ?_
      refine lv_icmp_ge (tgt := 25) hx hb dX10_anew_5 (by decide) (fun c_37 => ?_) (fun c_37 => ?_)
      · simp only [i_lt, i_le, i_eq, ti_8] at c_37
        refine lv_aload_n hx hb dX10_anew_25 rfl (lv_at hl 1 rfl) ?_
        refine lv_iconst (v := 0) hx hb dX10_anew_26 (by decide) ?_
        refine va_put (D := (dC, dI)) (ci := 10) (v := .int 0) (ty := .int) (C := RX10) (T := TX10) (N := 60) hx hb hg gb_10 tyX10 tyX10_ok nmX10 hown hK hP hD hS 0 rfl rfl 11 (by decide) (hg _ gm_fieldLink_RX10_176_ErrandGuildModel_runs_I_) (fun _ h9 => h9) rfl (by decide +kernel) rfl rfl (Nat.le_of_ble_eq_true rfl) dX10_anew_27 (fun H locs hP hD hS => ?_)
        have hP : va_P (dC, dI) vwCl (w10 h0 X C (upF F 2 f_31) (upn n 11 0)) H := hP
        have hD : va_D A (w10 h0 X C (upF F 2 f_31) (upn n 11 0)) := hD
        have i_38 : 0 ≤ (0 : Int32).toInt ∧ (0 : Int32).toInt ≤ 200 := by have t_ := ti_0; omega
        refine lv_aload_n hx hb dX10_anew_30 rfl (lv_at hl 1 rfl) ?_
        refine lv_iconst (v := 0) hx hb dX10_anew_31 (by decide) ?_
        refine va_put (D := (dC, dI)) (ci := 10) (v := .int 0) (ty := .int) (C := RX10) (T := TX10) (N := 60) hx hb hg gb_10 tyX10 tyX10_ok nmX10 hown hK hP hD hS 0 rfl rfl 12 (by decide) (hg _ gm_fieldLink_RX10_186_ErrandGuildModel_beats_I_) (fun _ h9 => h9) rfl (by decide +kernel) rfl rfl (Nat.le_of_ble_eq_true rfl) dX10_anew_32 (fun H locs hP hD hS => ?_)
        have hP : va_P (dC, dI) vwCl (w10 h0 X C (upF F 2 f_31) (upn (upn n 11 0) 12 0)) H := hP
        have hD : va_D A (w10 h0 X C (upF F 2 f_31) (upn (upn n 11 0) 12 0)) := hD
        refine lv_aload_n hx hb dX10_anew_35 rfl (lv_at hl 1 rfl) ?_
        refine lv_iconst (v := 0) hx hb dX10_anew_36 (by decide) ?_
        refine va_put (D := (dC, dI)) (ci := 10) (v := .int 0) (ty := .int) (C := RX10) (T := TX10) (N := 60) hx hb hg gb_10 tyX10 tyX10_ok nmX10 hown hK hP hD hS 0 rfl rfl 45 (by decide) (hg _ gm_fieldLink_RX10_189_ErrandGuildModel_seenMany_I_) (fun _ h9 => h9) rfl (by decide +kernel) rfl rfl (Nat.le_of_ble_eq_true rfl) dX10_anew_37 (fun H locs hP hD hS => ?_)
        have hP : va_P (dC, dI) vwCl (w10 h0 X C (upF F 2 f_31) (upn (upn (upn n 11 0) 12 0) 45 0)) H := hP
        have hD : va_D A (w10 h0 X C (upF F 2 f_31) (upn (upn (upn n 11 0) 12 0) 45 0)) := hD
        have i_39 : 0 ≤ (0 : Int32).toInt ∧ (0 : Int32).toInt ≤ kp := by have t_ := ti_0; omega
        refine lv_aload_n hx hb dX10_anew_40 rfl (lv_at hl 1 rfl) ?_
        refine lv_iconst (v := 0) hx hb dX10_anew_41 (by decide) ?_
        refine va_put (D := (dC, dI)) (ci := 10) (v := .int 0) (ty := .int) (C := RX10) (T := TX10) (N := 60) hx hb hg gb_10 tyX10 tyX10_ok nmX10 hown hK hP hD hS 0 rfl rfl 46 (by decide) (hg _ gm_fieldLink_RX10_192_ErrandGuildModel_remarkMany_I_) (fun _ h9 => h9) rfl (by decide +kernel) rfl rfl (Nat.le_of_ble_eq_true rfl) dX10_anew_42 (fun H locs hP hD hS => ?_)
        have hP : va_P (dC, dI) vwCl (w10 h0 X C (upF F 2 f_31) (upn (upn (upn (upn n 11 0) 12 0) 45 0) 46 0)) H := hP
        have hD : va_D A (w10 h0 X C (upF F 2 f_31) (upn (upn (upn (upn n 11 0) 12 0) 45 0) 46 0)) := hD
        have i_40 : 0 ≤ (0 : Int32).toInt ∧ (0 : Int32).toInt ≤ 310000 := by have t_ := ti_0; omega
        refine lv_aload_n hx hb dX10_anew_45 rfl (lv_at hl 1 rfl) ?_
        refine lv_iconst (v := 0) hx hb dX10_anew_46 (by decide) ?_
        refine va_put (D := (dC, dI)) (ci := 10) (v := .int 0) (ty := .int) (C := RX10) (T := TX10) (N := 60) hx hb hg gb_10 tyX10 tyX10_ok nmX10 hown hK hP hD hS 0 rfl rfl 47 (by decide) (hg _ gm_fieldLink_RX10_195_ErrandGuildModel_handledMany_I_) (fun _ h9 => h9) rfl (by decide +kernel) rfl rfl (Nat.le_of_ble_eq_true rfl) dX10_anew_47 (fun H locs hP hD hS => ?_)
        have hP : va_P (dC, dI) vwCl (w10 h0 X C (upF F 2 f_31) (upn (upn (upn (upn (upn n 11 0) 12 0) 45 0) 46 0) 47 0)) H := hP
        have hD : va_D A (w10 h0 X C (upF F 2 f_31) (upn (upn (upn (upn (upn n 11 0) 12 0) 45 0) 46 0) 47 0)) := hD
        have i_41 : 0 ≤ (0 : Int32).toInt ∧ (0 : Int32).toInt ≤ 600 := by have t_ := ti_0; omega
        have j_42 : J6 (F 32) (0 : Int32) (0 : Int32) := by unfold J6; have t_ := ti_0; omega
        refine lv_aload_n hx hb dX10_anew_50 rfl (lv_at hl 1 rfl) ?_
        refine lv_iconst (v := 0) hx hb dX10_anew_51 (by decide) ?_
        refine va_put (D := (dC, dI)) (ci := 10) (v := .int 0) (ty := .int) (C := RX10) (T := TX10) (N := 60) hx hb hg gb_10 tyX10 tyX10_ok nmX10 hown hK hP hD hS 0 rfl rfl 48 (by decide) (hg _ gm_fieldLink_RX10_198_ErrandGuildModel_orderMany_I_) (fun _ h9 => h9) rfl (by decide +kernel) rfl rfl (Nat.le_of_ble_eq_true rfl) dX10_anew_52 (fun H locs hP hD hS => ?_)
        have hP : va_P (dC, dI) vwCl (w10 h0 X C (upF F 2 f_31) (upn (upn (upn (upn (upn (upn n 11 0) 12 0) 45 0) 46 0) 47 0) 48 0)) H := hP
        have hD : va_D A (w10 h0 X C (upF F 2 f_31) (upn (upn (upn (upn (upn (upn n 11 0) 12 0) 45 0) 46 0) 47 0) 48 0)) := hD
        have i_43 : 0 ≤ (0 : Int32).toInt ∧ (0 : Int32).toInt ≤ kp := by have t_ := ti_0; omega
        refine lv_iconst (v := 0) hx hb dX10_anew_55 (by decide) ?_
        refine lv_istore_n (lv' := [(2, .int 0), (0, .ref h0), (1, .int v1)]) hx hb dX10_anew_56 rfl hl (by decide) rfl (fun ls hl => ?_)
        have L57 : ∀ (fuel : Nat) (x_44 : Int32) (f_45 : Nat → Int32) (H : Heap) (locs : List Loc) (ls : Array Slot), (7 - x_44.toInt).toNat < fuel → 0 ≤ x_44.toInt ∧ x_44.toInt ≤ 6 → va_P (dC, dI) vwCl (w10 h0 X C (upF (upF F 2 f_31) 10 f_45) (upn (upn (upn (upn (upn (upn n 11 0) 12 0) 45 0) 46 0) 47 0) 48 0)) H → va_D A (w10 h0 X C (upF (upF F 2 f_31) 10 f_45) (upn (upn (upn (upn (upn (upn n 11 0) 12 0) 45 0) 46 0) 47 0) 48 0)) → va_S A s.heap H locs → lv_has ls 3 [(2, .int x_44), (0, .ref h0), (1, .int v1)] → W p l e (headSpec (.code yX10_anew cX10_anew 3 none :: gw) ({ frames := 0, cells := 0, slots := 0, locals := 0 })).room s m ([.ref h0, .int v1] : List Value).toArray below meth c H locs 0 0 (MQ below (va_Qv (fun (u : (Nat → Nat → Int32) × (Nat → Int32)) => True) (fun u t => va_P (dC, dI) vwCl (w10 h0 X C u.1 u.2) t.heap ∧ va_D A (w10 h0 X C u.1 u.2) ∧ I10 kp u.1 u.2) A) ([.ref h0, .int v1] : List Value).toArray s 0 0 A) (F0 m 57 ls []) := by
          intro fuel
          induction fuel with
          | zero => intro x_44 f_45 H locs ls hm; exact absurd hm (Nat.not_lt_zero _)
          | succ fuel_47 ih_46 =>
            intro x_44 f_45 H locs ls hm_49 v_48 hP hD hS hl
            refine lv_iload_n hx hb dX10_anew_57 rfl (lv_at hl 0 rfl) ?_
            refine lv_bipush (v := 6) hx hb dX10_anew_58 (by decide) ?_
            refine lv_icmp_ge (tgt := 76) hx hb dX10_anew_60 (by decide) (fun c_50 => ?_) (fun c_50 => ?_)
            · simp only [i_lt, i_le, i_eq, ti_6] at c_50
              exact W.vret hx hb hr (fun t ht hW => ⟨⟨((upF (upF F 2 f_31) 10 f_45), (upn (upn (upn (upn (upn (upn n 11 0) 12 0) 45 0) 46 0) 47 0) 48 0)), rfl, trivial, by rw [ht]; exact hP, hD, ⟨h_32, b_2, b_3, b_4, b_5, b_6, b_7, b_8, b_9, b_10, b_11, b_12, i_13, i_38, i_15, i_39, i_40, i_41, i_43, j_20, j_21, j_22, j_23, j_24, j_25, j_42, j_27, j_28, j_29⟩⟩, hS.F ht⟩) hS.2.2 dX10_anew_76
            · simp only [i_lt, i_le, i_eq, ti_6] at c_50
              refine lv_aload_n hx hb dX10_anew_63 rfl (lv_at hl 1 rfl) ?_
              refine va_get (D := (dC, dI)) (ci := 10) (v := .ref (X 10)) (C := RX10) (T := TX10) (N := 60) hx hb hg gb_10 hown hK hP 0 rfl rfl 10 (by decide) (hg _ gm_fieldLink_RX10_42_ErrandGuildModel_onThread_AI_) (fun _ h9 => h9) rfl dX10_anew_64 ?_
              refine lv_iload_n hx hb dX10_anew_67 rfl (lv_at hl 0 rfl) ?_
              refine lv_iconst (v := -1) hx hb dX10_anew_68 (by decide) ?_
              refine va_iast hx hb hK hP hD hS 10 9 rfl rfl (vp_in_iff.mpr ⟨by omega, by omega⟩) dX10_anew_69 (fun H locs hP hD hS => ?_)
              have hP : va_P (dC, dI) vwCl (w10 h0 X C (upF (upF F 2 f_31) 10 (upd f_45 (Int32.toNatClampNeg x_44) (-1))) (upn (upn (upn (upn (upn (upn n 11 0) 12 0) 45 0) 46 0) 47 0) 48 0)) H := hP
              have hD : va_D A (w10 h0 X C (upF (upF F 2 f_31) 10 (upd f_45 (Int32.toNatClampNeg x_44) (-1))) (upn (upn (upn (upn (upn (upn n 11 0) 12 0) 45 0) 46 0) 47 0) 48 0)) := hD
              obtain ⟨y_51, ey_51⟩ : ∃ q : Int32, q = x_44 + (1) := ⟨_, rfl⟩
              refine lv_iinc (v := y_51) (lv' := [(2, .int y_51), (0, .ref h0), (1, .int v1)]) hx hb dX10_anew_70 hl (k := 0) rfl (by rw [ey_51]; rfl) (by decide) rfl (fun ls hl => ?_)
              have ty_51 : y_51.toInt = x_44.toInt + (1) := ar_add rfl ti_1 ey_51 (by omega)
              refine lv_goto (tgt := 57) hx hb dX10_anew_73 (by decide) ?_
              exact ih_46 y_51 (upd f_45 (Int32.toNatClampNeg x_44) (-1))  H locs ls (by omega) (by omega) hP hD hS (lv_sub hl [0, 1, 2] rfl)
        exact L57 _ (0) (F 10)  _ _ _ (Nat.lt_succ_self _) (by have t_0 := ti_0; omega) hP hD hS (lv_sub hl [0, 1, 2] rfl)
      · simp only [i_lt, i_le, i_eq, ti_8] at c_37
        refine lv_iload_n hx hb dX10_anew_8 rfl (lv_at hl 2 rfl) ?_
        refine lv_if_eq (tgt := 25) hx hb dX10_anew_9 (by decide) (fun c_52 => ?_) (fun c_52 => ?_)
        · simp only [i_lt, i_le, i_eq, ti_0] at c_52
          refine lv_aload_n hx hb dX10_anew_25 rfl (lv_at hl 1 rfl) ?_
          refine lv_iconst (v := 0) hx hb dX10_anew_26 (by decide) ?_
          refine va_put (D := (dC, dI)) (ci := 10) (v := .int 0) (ty := .int) (C := RX10) (T := TX10) (N := 60) hx hb hg gb_10 tyX10 tyX10_ok nmX10 hown hK hP hD hS 0 rfl rfl 11 (by decide) (hg _ gm_fieldLink_RX10_176_ErrandGuildModel_runs_I_) (fun _ h9 => h9) rfl (by decide +kernel) rfl rfl (Nat.le_of_ble_eq_true rfl) dX10_anew_27 (fun H locs hP hD hS => ?_)
          have hP : va_P (dC, dI) vwCl (w10 h0 X C (upF F 2 f_31) (upn n 11 0)) H := hP
          have hD : va_D A (w10 h0 X C (upF F 2 f_31) (upn n 11 0)) := hD
          have i_53 : 0 ≤ (0 : Int32).toInt ∧ (0 : Int32).toInt ≤ 200 := by have t_ := ti_0; omega
          refine lv_aload_n hx hb dX10_anew_30 rfl (lv_at hl 1 rfl) ?_
          refine lv_iconst (v := 0) hx hb dX10_anew_31 (by decide) ?_
          refine va_put (D := (dC, dI)) (ci := 10) (v := .int 0) (ty := .int) (C := RX10) (T := TX10) (N := 60) hx hb hg gb_10 tyX10 tyX10_ok nmX10 hown hK hP hD hS 0 rfl rfl 12 (by decide) (hg _ gm_fieldLink_RX10_186_ErrandGuildModel_beats_I_) (fun _ h9 => h9) rfl (by decide +kernel) rfl rfl (Nat.le_of_ble_eq_true rfl) dX10_anew_32 (fun H locs hP hD hS => ?_)
          have hP : va_P (dC, dI) vwCl (w10 h0 X C (upF F 2 f_31) (upn (upn n 11 0) 12 0)) H := hP
          have hD : va_D A (w10 h0 X C (upF F 2 f_31) (upn (upn n 11 0) 12 0)) := hD
          refine lv_aload_n hx hb dX10_anew_35 rfl (lv_at hl 1 rfl) ?_
          refine lv_iconst (v := 0) hx hb dX10_anew_36 (by decide) ?_
          refine va_put (D := (dC, dI)) (ci := 10) (v := .int 0) (ty := .int) (C := RX10) (T := TX10) (N := 60) hx hb hg gb_10 tyX10 tyX10_ok nmX10 hown hK hP hD hS 0 rfl rfl 45 (by decide) (hg _ gm_fieldLink_RX10_189_ErrandGuildModel_seenMany_I_) (fun _ h9 => h9) rfl (by decide +kernel) rfl rfl (Nat.le_of_ble_eq_true rfl) dX10_anew_37 (fun H locs hP hD hS => ?_)
          have hP : va_P (dC, dI) vwCl (w10 h0 X C (upF F 2 f_31) (upn (upn (upn n 11 0) 12 0) 45 0)) H := hP
          have hD : va_D A (w10 h0 X C (upF F 2 f_31) (upn (upn (upn n 11 0) 12 0) 45 0)) := hD
          have i_54 : 0 ≤ (0 : Int32).toInt ∧ (0 : Int32).toInt ≤ kp := by have t_ := ti_0; omega
          refine lv_aload_n hx hb dX10_anew_40 rfl (lv_at hl 1 rfl) ?_
          refine lv_iconst (v := 0) hx hb dX10_anew_41 (by decide) ?_
          refine va_put (D := (dC, dI)) (ci := 10) (v := .int 0) (ty := .int) (C := RX10) (T := TX10) (N := 60) hx hb hg gb_10 tyX10 tyX10_ok nmX10 hown hK hP hD hS 0 rfl rfl 46 (by decide) (hg _ gm_fieldLink_RX10_192_ErrandGuildModel_remarkMany_I_) (fun _ h9 => h9) rfl (by decide +kernel) rfl rfl (Nat.le_of_ble_eq_true rfl) dX10_anew_42 (fun H locs hP hD hS => ?_)
          have hP : va_P (dC, dI) vwCl (w10 h0 X C (upF F 2 f_31) (upn (upn (upn (upn n 11 0) 12 0) 45 0) 46 0)) H := hP
          have hD : va_D A (w10 h0 X C (upF F 2 f_31) (upn (upn (upn (upn n 11 0) 12 0) 45 0) 46 0)) := hD
          have i_55 : 0 ≤ (0 : Int32).toInt ∧ (0 : Int32).toInt ≤ 310000 := by have t_ := ti_0; omega
          refine lv_aload_n hx hb dX10_anew_45 rfl (lv_at hl 1 rfl) ?_
          refine lv_iconst (v := 0) hx hb dX10_anew_46 (by decide) ?_
          refine va_put (D := (dC, dI)) (ci := 10) (v := .int 0) (ty := .int) (C := RX10) (T := TX10) (N := 60) hx hb hg gb_10 tyX10 tyX10_ok nmX10 hown hK hP hD hS 0 rfl rfl 47 (by decide) (hg _ gm_fieldLink_RX10_195_ErrandGuildModel_handledMany_I_) (fun _ h9 => h9) rfl (by decide +kernel) rfl rfl (Nat.le_of_ble_eq_true rfl) dX10_anew_47 (fun H locs hP hD hS => ?_)
          have hP : va_P (dC, dI) vwCl (w10 h0 X C (upF F 2 f_31) (upn (upn (upn (upn (upn n 11 0) 12 0) 45 0) 46 0) 47 0)) H := hP
          have hD : va_D A (w10 h0 X C (upF F 2 f_31) (upn (upn (upn (upn (upn n 11 0) 12 0) 45 0) 46 0) 47 0)) := hD
          have i_56 : 0 ≤ (0 : Int32).toInt ∧ (0 : Int32).toInt ≤ 600 := by have t_ := ti_0; omega
          have j_57 : J6 (F 32) (0 : Int32) (0 : Int32) := by unfold J6; have t_ := ti_0; omega
          refine lv_aload_n hx hb dX10_anew_50 rfl (lv_at hl 1 rfl) ?_
          refine lv_iconst (v := 0) hx hb dX10_anew_51 (by decide) ?_
          refine va_put (D := (dC, dI)) (ci := 10) (v := .int 0) (ty := .int) (C := RX10) (T := TX10) (N := 60) hx hb hg gb_10 tyX10 tyX10_ok nmX10 hown hK hP hD hS 0 rfl rfl 48 (by decide) (hg _ gm_fieldLink_RX10_198_ErrandGuildModel_orderMany_I_) (fun _ h9 => h9) rfl (by decide +kernel) rfl rfl (Nat.le_of_ble_eq_true rfl) dX10_anew_52 (fun H locs hP hD hS => ?_)
          have hP : va_P (dC, dI) vwCl (w10 h0 X C (upF F 2 f_31) (upn (upn (upn (upn (upn (upn n 11 0) 12 0) 45 0) 46 0) 47 0) 48 0)) H := hP
          have hD : va_D A (w10 h0 X C (upF F 2 f_31) (upn (upn (upn (upn (upn (upn n 11 0) 12 0) 45 0) 46 0) 47 0) 48 0)) := hD
          have i_58 : 0 ≤ (0 : Int32).toInt ∧ (0 : Int32).toInt ≤ kp := by have t_ := ti_0; omega
          refine lv_iconst (v := 0) hx hb dX10_anew_55 (by decide) ?_
          refine lv_istore_n (lv' := [(2, .int 0), (0, .ref h0), (1, .int v1)]) hx hb dX10_anew_56 rfl hl (by decide) rfl (fun ls hl => ?_)
          have L57 : ∀ (fuel : Nat) (x_59 : Int32) (f_60 : Nat → Int32) (H : Heap) (locs : List Loc) (ls : Array Slot), (7 - x_59.toInt).toNat < fuel → 0 ≤ x_59.toInt ∧ x_59.toInt ≤ 6 → va_P (dC, dI) vwCl (w10 h0 X C (upF (upF F 2 f_31) 10 f_60) (upn (upn (upn (upn (upn (upn n 11 0) 12 0) 45 0) 46 0) 47 0) 48 0)) H → va_D A (w10 h0 X C (upF (upF F 2 f_31) 10 f_60) (upn (upn (upn (upn (upn (upn n 11 0) 12 0) 45 0) 46 0) 47 0) 48 0)) → va_S A s.heap H locs → lv_has ls 3 [(2, .int x_59), (0, .ref h0), (1, .int v1)] → W p l e (headSpec (.code yX10_anew cX10_anew 3 none :: gw) ({ frames := 0, cells := 0, slots := 0, locals := 0 })).room s m ([.ref h0, .int v1] : List Value).toArray below meth c H locs 0 0 (MQ below (va_Qv (fun (u : (Nat → Nat → Int32) × (Nat → Int32)) => True) (fun u t => va_P (dC, dI) vwCl (w10 h0 X C u.1 u.2) t.heap ∧ va_D A (w10 h0 X C u.1 u.2) ∧ I10 kp u.1 u.2) A) ([.ref h0, .int v1] : List Value).toArray s 0 0 A) (F0 m 57 ls []) := by
            intro fuel
            induction fuel with
            | zero => intro x_59 f_60 H locs ls hm; exact absurd hm (Nat.not_lt_zero _)
            | succ fuel_62 ih_61 =>
              intro x_59 f_60 H locs ls hm_64 v_63 hP hD hS hl
              refine lv_iload_n hx hb dX10_anew_57 rfl (lv_at hl 0 rfl) ?_
              refine lv_bipush (v := 6) hx hb dX10_anew_58 (by decide) ?_
              refine lv_icmp_ge (tgt := 76) hx hb dX10_anew_60 (by decide) (fun c_65 => ?_) (fun c_65 => ?_)
              · simp only [i_lt, i_le, i_eq, ti_6] at c_65
                exact W.vret hx hb hr (fun t ht hW => ⟨⟨((upF (upF F 2 f_31) 10 f_60), (upn (upn (upn (upn (upn (upn n 11 0) 12 0) 45 0) 46 0) 47 0) 48 0)), rfl, trivial, by rw [ht]; exact hP, hD, ⟨h_32, b_2, b_3, b_4, b_5, b_6, b_7, b_8, b_9, b_10, b_11, b_12, i_13, i_53, i_15, i_54, i_55, i_56, i_58, j_20, j_21, j_22, j_23, j_24, j_25, j_57, j_27, j_28, j_29⟩⟩, hS.F ht⟩) hS.2.2 dX10_anew_76
              · simp only [i_lt, i_le, i_eq, ti_6] at c_65
                refine lv_aload_n hx hb dX10_anew_63 rfl (lv_at hl 1 rfl) ?_
                refine va_get (D := (dC, dI)) (ci := 10) (v := .ref (X 10)) (C := RX10) (T := TX10) (N := 60) hx hb hg gb_10 hown hK hP 0 rfl rfl 10 (by decide) (hg _ gm_fieldLink_RX10_42_ErrandGuildModel_onThread_AI_) (fun _ h9 => h9) rfl dX10_anew_64 ?_
                refine lv_iload_n hx hb dX10_anew_67 rfl (lv_at hl 0 rfl) ?_
                refine lv_iconst (v := -1) hx hb dX10_anew_68 (by decide) ?_
                refine va_iast hx hb hK hP hD hS 10 9 rfl rfl (vp_in_iff.mpr ⟨by omega, by omega⟩) dX10_anew_69 (fun H locs hP hD hS => ?_)
                have hP : va_P (dC, dI) vwCl (w10 h0 X C (upF (upF F 2 f_31) 10 (upd f_60 (Int32.toNatClampNeg x_59) (-1))) (upn (upn (upn (upn (upn (upn n 11 0) 12 0) 45 0) 46 0) 47 0) 48 0)) H := hP
                have hD : va_D A (w10 h0 X C (upF (upF F 2 f_31) 10 (upd f_60 (Int32.toNatClampNeg x_59) (-1))) (upn (upn (upn (upn (upn (upn n 11 0) 12 0) 45 0) 46 0) 47 0) 48 0)) := hD
                obtain ⟨y_66, ey_66⟩ : ∃ q : Int32, q = x_59 + (1) := ⟨_, rfl⟩
                refine lv_iinc (v := y_66) (lv' := [(2, .int y_66), (0, .ref h0), (1, .int v1)]) hx hb dX10_anew_70 hl (k := 0) rfl (by rw [ey_66]; rfl) (by decide) rfl (fun ls hl => ?_)
                have ty_66 : y_66.toInt = x_59.toInt + (1) := ar_add rfl ti_1 ey_66 (by omega)
                refine lv_goto (tgt := 57) hx hb dX10_anew_73 (by decide) ?_
                exact ih_61 y_66 (upd f_60 (Int32.toNatClampNeg x_59) (-1))  H locs ls (by omega) (by omega) hP hD hS (lv_sub hl [0, 1, 2] rfl)
          exact L57 _ (0) (F 10)  _ _ _ (Nat.lt_succ_self _) (by have t_0 := ti_0; omega) hP hD hS (lv_sub hl [0, 1, 2] rfl)
        · simp only [i_lt, i_le, i_eq, ti_0] at c_52
          refine lv_aload_n hx hb dX10_anew_12 rfl (lv_at hl 1 rfl) ?_
          refine va_get (D := (dC, dI)) (ci := 10) (v := .ref (X 2)) (C := RX10) (T := TX10) (N := 60) hx hb hg gb_10 hown hK hP 0 rfl rfl 2 (by decide) (hg _ gm_fieldLink_RX10_16_ErrandGuildModel_stepMany_AI_) (fun _ h9 => h9) rfl dX10_anew_13 ?_
          refine lv_iload_n hx hb dX10_anew_16 rfl (lv_at hl 0 rfl) ?_
          refine lv_iconst (v := 0) hx hb dX10_anew_17 (by decide) ?_
          refine va_iast hx hb hK hP hD hS 3 2 rfl rfl (vp_in_iff.mpr ⟨by omega, by omega⟩) dX10_anew_18 (fun H locs hP hD hS => ?_)
          have hP : va_P (dC, dI) vwCl (w10 h0 X C (upF F 2 (upd f_31 (Int32.toNatClampNeg x_30) 0)) n) H := hP
          have hD : va_D A (w10 h0 X C (upF F 2 (upd f_31 (Int32.toNatClampNeg x_30) 0)) n) := hD
          have b_67 := bd_upd h_32 (Int32.toNatClampNeg x_30) (x := 0) (by have t_ := ti_0; omega) (by have t_ := ti_0; omega)
          obtain ⟨y_68, ey_68⟩ : ∃ q : Int32, q = x_30 + (1) := ⟨_, rfl⟩
          refine lv_iinc (v := y_68) (lv' := [(2, .int y_68), (0, .ref h0), (1, .int v1)]) hx hb dX10_anew_19 hl (k := 0) rfl (by rw [ey_68]; rfl) (by decide) rfl (fun ls hl => ?_)
          have ty_68 : y_68.toInt = x_30.toInt + (1) := ar_add rfl ti_1 ey_68 (by omega)
          refine lv_goto (tgt := 2) hx hb dX10_anew_22 (by decide) ?_
          exact ih_33 y_68 (upd f_31 (Int32.toNatClampNeg x_30) 0) b_67 H locs ls (by omega) (by omega) hP hD hS (lv_sub hl [0, 1, 2] rfl)
  exact L2 _ (0) (F 2) b_1 _ _ _ (Nat.lt_succ_self _) (by have t_0 := ti_0; omega) hP hD hS (lv_sub hl [0, 1, 2] rfl)
