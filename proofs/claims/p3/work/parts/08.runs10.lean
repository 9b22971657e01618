set_option maxHeartbeats 8000000 in
set_option maxRecDepth 100000 in
theorem c_X10_leaves (l : Launch) (dC : Nat → ClassId) (dI : Nat → Nat → Nat) (kp : Int) (h0 : Nat) (X : Nat → Nat) (C : Nat → ClassId) (F : Nat → Nat → Int32) (n : Nat → Int32) (v1 : Int32) (sz : Nat) (hI : I10 kp F n) (hr : 0 ≤ v1.toInt ∧ v1.toInt < 200) (hst : ¬ (F 13 (Int32.toNatClampNeg v1)).toInt = 1) (hth : 0 ≤ (F 18 (Int32.toNatClampNeg v1)).toInt) : Met l yX10_leaves (.code yX10_leaves cX10_leaves 2 none :: gw) ({ frames := 0, cells := 0, slots := 0, locals := 0 }) (va_Pc [.ref h0, .int v1] (fun U => U.heap.size = sz ∧ va_P (dC, dI) vwCl (w10 h0 X C F n) U.heap ∧ va_K (dC, dI) vwCl (t10 C) U ∧ va_D (fun _ => True) (w10 h0 X C F n) ∧ nx U)) (va_Qv (fun (u : (Nat → Nat → Int32) × (Nat → Int32)) => (u.1 13 (Int32.toNatClampNeg v1)).toInt = (F 13 (Int32.toNatClampNeg v1)).toInt ∧ (u.1 32 (Int32.toNatClampNeg v1)).toInt = (F 32 (Int32.toNatClampNeg v1)).toInt ∧ (u.2 11).toInt = (n 11).toInt) (fun u t => va_P (dC, dI) vwCl (w10 h0 X C u.1 u.2) t.heap ∧ va_D (va_A (w10 h0 X C F n) sz) (w10 h0 X C u.1 u.2) ∧ I10 kp u.1 u.2) (va_A (w10 h0 X C F n) sz)) 0 0 (va_A (w10 h0 X C F n) sz) := by
  refine Met.ofW (cc := cX10_leaves) (maxL := 2) (ret := none) (by decide) rfl ?_
  intro p e s m args below meth c s₁ B hml hv
  obtain ⟨rfl, hsz, hP, hK, hD0, hN⟩ := hv
  have hx := B.exec
  have hb := B.bytes
  have hr := B.returns
  have hts := atoms_spec (ws := .code yX10_leaves cX10_leaves 2 none :: gw) B.pre
  have hg : ∀ w ∈ gw, w.before _ s = true := fun w h => hts w (List.mem_cons_of_mem _ h)
  have hown : s.vm.findClass RX10 = some m.cls := findClass_of_methodNamed B.named
  have hlocks := B.notSynchronized
  subst hsz
  have hD := hD0.self (sz := s.heap.size)
  generalize hAe : va_A (w10 h0 X C F n) s.heap.size = A at hD ⊢
  have hA : ∀ q : Nat, s.heap.size ≤ q → A q := fun q h => by rw [← hAe]; exact Or.inr h
  have hS : va_S A s.heap s.heap [] := va_S.rf
  have hP : va_P (dC, dI) vwCl (w10 h0 X C F n) s.heap := hP
  have hl := lv_entry ([.ref h0, .int v1]) (n := 2) (Nat.le_of_ble_eq_true rfl)
  rw [lg_entry_eq]
  generalize (lg_sl ([.ref h0, .int v1]) ++ List.replicate (2 - (lg_sl ([.ref h0, .int v1])).length) Slot.unset).toArray = ls at hl ⊢
  have hl : lv_has ls 2 [(0, .ref h0), (1, .int v1)] := hl
  obtain ⟨b_1, b_2, b_3, b_4, b_5, b_6, b_7, b_8, b_9, b_10, b_11, b_12, i_13, i_14, i_15, i_16, i_17, i_18, i_19, j_20, j_21, j_22, j_23, j_24, j_25, j_26, j_27, j_28, j_29⟩ := id hI
  refine lv_aload_n hx hb dX10_leaves_0 rfl (lv_at hl 0 rfl) ?_
  refine va_get (D := (dC, dI)) (ci := 10) (v := .ref (X 10)) (C := RX10) (T := TX10) (N := 60) hx hb hg gb_10 hown hK hP 0 rfl rfl 10 (by decide) (hg _ gm_fieldLink_RX10_42_ErrandGuildModel_onThread_AI_) (fun _ h9 => h9) rfl dX10_leaves_1 ?_
  refine lv_aload_n hx hb dX10_leaves_4 rfl (lv_at hl 0 rfl) ?_
  refine va_get (D := (dC, dI)) (ci := 10) (v := .ref (X 18)) (C := RX10) (T := TX10) (N := 60) hx hb hg gb_10 hown hK hP 0 rfl rfl 18 (by decide) (hg _ gm_fieldLink_RX10_60_ErrandGuildModel_thread_AI_) (fun _ h9 => h9) rfl dX10_leaves_5 ?_
  refine lv_iload_n hx hb dX10_leaves_8 rfl (lv_at hl 1 rfl) ?_
  refine va_iald hx hb hK hP 16 15 rfl rfl (vp_in_iff.mpr ⟨by omega, by omega⟩) dX10_leaves_9 ?_
  refine lv_topi (fun z_30 ez_30 => ?_)
  have qz_30 := congrArg Int32.toInt ez_30
  have bz_30 := bd_at b_7 ez_30
  refine lv_iconst (v := -1) hx hb dX10_leaves_10 (by decide) ?_
  refine va_iast hx hb hK hP hD hS 10 9 rfl rfl (vp_in_iff.mpr ⟨by omega, by omega⟩) dX10_leaves_11 (fun H locs hP hD hS => ?_)
  have hP : va_P (dC, dI) vwCl (w10 h0 X C (upF F 10 (upd (F 10) (Int32.toNatClampNeg z_30) (-1))) n) H := hP
  have hD : va_D A (w10 h0 X C (upF F 10 (upd (F 10) (Int32.toNatClampNeg z_30) (-1))) n) := hD
  refine lv_aload_n hx hb dX10_leaves_12 rfl (lv_at hl 0 rfl) ?_
  refine va_get (D := (dC, dI)) (ci := 10) (v := .ref (X 18)) (C := RX10) (T := TX10) (N := 60) hx hb hg gb_10 hown hK hP 0 rfl rfl 18 (by decide) (hg _ gm_fieldLink_RX10_60_ErrandGuildModel_thread_AI_) (fun _ h9 => h9) rfl dX10_leaves_13 ?_
  refine lv_iload_n hx hb dX10_leaves_16 rfl (lv_at hl 1 rfl) ?_
  refine lv_iconst (v := -1) hx hb dX10_leaves_17 (by decide) ?_
  refine va_iast hx hb hK hP hD hS 16 15 rfl rfl (vp_in_iff.mpr ⟨by omega, by omega⟩) dX10_leaves_18 (fun H locs hP hD hS => ?_)
  have hP : va_P (dC, dI) vwCl (w10 h0 X C (upF (upF F 10 (upd (F 10) (Int32.toNatClampNeg z_30) (-1))) 18 (upd (F 18) (Int32.toNatClampNeg v1) (-1))) n) H := hP
  have hD : va_D A (w10 h0 X C (upF (upF F 10 (upd (F 10) (Int32.toNatClampNeg z_30) (-1))) 18 (upd (F 18) (Int32.toNatClampNeg v1) (-1))) n) := hD
  have b_31 := bd_upd b_7 (Int32.toNatClampNeg v1) (x := (-1)) (by have t_ := ti_m1; omega) (by have t_ := ti_m1; omega)
  have j_32 : J1 (F 13) (upd (F 18) (Int32.toNatClampNeg v1) (-1)) := J1_th j_21 (Int32.toNatClampNeg v1) (fun h => absurd h hst)
  exact W.vret hx hb hr (fun t ht hW => ⟨⟨((upF (upF F 10 (upd (F 10) (Int32.toNatClampNeg z_30) (-1))) 18 (upd (F 18) (Int32.toNatClampNeg v1) (-1))), n), rfl, ⟨rfl, rfl, rfl⟩, by rw [ht]; exact hP, hD, ⟨b_1, b_2, b_3, b_4, b_5, b_6, b_31, b_8, b_9, b_10, b_11, b_12, i_13, i_14, i_15, i_16, i_17, i_18, i_19, j_20, j_32, j_22, j_23, j_24, j_25, j_26, j_27, j_28, j_29⟩⟩, hS.F ht⟩) hS.2.2 dX10_leaves_19

set_option maxHeartbeats 8000000 in
set_option maxRecDepth 100000 in
theorem c_X10_waits (l : Launch) (dC : Nat → ClassId) (dI : Nat → Nat → Nat) (kp : Int) (h0 : Nat) (X : Nat → Nat) (C : Nat → ClassId) (F : Nat → Nat → Int32) (n : Nat → Int32) (v1 : Int32) (sz : Nat) (hI : I10 kp F n) (hr : 0 ≤ v1.toInt ∧ v1.toInt < 200) (hs1 : (F 13 (Int32.toNatClampNeg v1)).toInt = 1) (hpl : (F 20 (Int32.toNatClampNeg v1)).toInt ≤ 23) : Met l yX10_waits (.code yX10_waits cX10_waits 2 none :: gw) ({ frames := 1, cells := 0, slots := 0, locals := 21 }) (va_Pc [.ref h0, .int v1] (fun U => U.heap.size = sz ∧ va_P (dC, dI) vwCl (w10 h0 X C F n) U.heap ∧ va_K (dC, dI) vwCl (t10 C) U ∧ va_D (fun _ => True) (w10 h0 X C F n) ∧ nx U)) (va_Qv (fun (u : (Nat → Nat → Int32) × (Nat → Int32)) => True) (fun u t => va_P (dC, dI) vwCl (w10 h0 X C u.1 u.2) t.heap ∧ va_D (va_A (w10 h0 X C F n) sz) (w10 h0 X C u.1 u.2) ∧ I10 kp u.1 u.2) (va_A (w10 h0 X C F n) sz)) 0 0 (va_A (w10 h0 X C F n) sz) := by
  refine Met.ofW (cc := cX10_waits) (maxL := 2) (ret := none) (by decide) rfl ?_
  intro p e s m args below meth c s₁ B hml hv
  obtain ⟨rfl, hsz, hP, hK, hD0, hN⟩ := hv
  have hx := B.exec
  have hb := B.bytes
  have hr := B.returns
  have hts := atoms_spec (ws := .code yX10_waits cX10_waits 2 none :: gw) B.pre
  have hg : ∀ w ∈ gw, w.before _ s = true := fun w h => hts w (List.mem_cons_of_mem _ h)
  have hown : s.vm.findClass RX10 = some m.cls := findClass_of_methodNamed B.named
  have hlocks := B.notSynchronized
  subst hsz
  have hD := hD0.self (sz := s.heap.size)
  generalize hAe : va_A (w10 h0 X C F n) s.heap.size = A at hD ⊢
  have hA : ∀ q : Nat, s.heap.size ≤ q → A q := fun q h => by rw [← hAe]; exact Or.inr h
  have hS : va_S A s.heap s.heap [] := va_S.rf
  have hP : va_P (dC, dI) vwCl (w10 h0 X C F n) s.heap := hP
  have hl := lv_entry ([.ref h0, .int v1]) (n := 2) (Nat.le_of_ble_eq_true rfl)
  rw [lg_entry_eq]
  generalize (lg_sl ([.ref h0, .int v1]) ++ List.replicate (2 - (lg_sl ([.ref h0, .int v1])).length) Slot.unset).toArray = ls at hl ⊢
  have hl : lv_has ls 2 [(0, .ref h0), (1, .int v1)] := hl
  obtain ⟨b_1, b_2, b_3, b_4, b_5, b_6, b_7, b_8, b_9, b_10, b_11, b_12, i_13, i_14, i_15, i_16, i_17, i_18, i_19, j_20, j_21, j_22, j_23, j_24, j_25, j_26, j_27, j_28, j_29⟩ := id hI
  have h18 := j_21 (Int32.toNatClampNeg v1) hs1
  have h32 : (F 32 (Int32.toNatClampNeg v1)).toInt = 0 := Classical.byContradiction (fun h => by have h2 := j_28 (Int32.toNatClampNeg v1) h; omega)
  refine lv_aload_n hx hb dX10_waits_0 rfl (lv_at hl 0 rfl) ?_
  refine va_get (D := (dC, dI)) (ci := 10) (v := .ref (X 13)) (C := RX10) (T := TX10) (N := 60) hx hb hg gb_10 hown hK hP 0 rfl rfl 13 (by decide) (hg _ gm_fieldLink_RX10_45_ErrandGuildModel_state_AI_) (fun _ h9 => h9) rfl dX10_waits_1 ?_
  refine lv_iload_n hx hb dX10_waits_4 rfl (lv_at hl 1 rfl) ?_
  refine lv_iconst (v := 2) hx hb dX10_waits_5 (by decide) ?_
  refine va_iast hx hb hK hP hD hS 11 10 rfl rfl (vp_in_iff.mpr ⟨by omega, by omega⟩) dX10_waits_6 (fun H locs hP hD hS => ?_)
  have hP : va_P (dC, dI) vwCl (w10 h0 X C (upF F 13 (upd (F 13) (Int32.toNatClampNeg v1) 2)) n) H := hP
  have hD : va_D A (w10 h0 X C (upF F 13 (upd (F 13) (Int32.toNatClampNeg v1) 2)) n) := hD
  have b_30 := bd_upd b_3 (Int32.toNatClampNeg v1) (x := 2) (by have t_ := ti_2; omega) (by have t_ := ti_2; omega)
  have j_31 : J1 (upd (F 13) (Int32.toNatClampNeg v1) 2) (F 18) := J1_sa j_21 (Int32.toNatClampNeg v1) (fun h => by have t_2 := ti_2; omega)
  have j_32 : J8 (F 32) (upd (F 13) (Int32.toNatClampNeg v1) 2) := J8_sa j_28 (Int32.toNatClampNeg v1) (Or.inl h32)
  refine lv_aload_n hx hb dX10_waits_7 rfl (lv_at hl 0 rfl) ?_
  refine va_get (D := (dC, dI)) (ci := 10) (v := .ref (X 24)) (C := RX10) (T := TX10) (N := 60) hx hb hg gb_10 hown hK hP 0 rfl rfl 24 (by decide) (hg _ gm_fieldLink_RX10_78_ErrandGuildModel_isBack_AZ_) (fun _ h9 => h9) rfl dX10_waits_8 ?_
  refine lv_iload_n hx hb dX10_waits_11 rfl (lv_at hl 1 rfl) ?_
  refine lv_iconst (v := 1) hx hb dX10_waits_12 (by decide) ?_
  refine va_zast hx hb hK hP hD hS 22 21 rfl rfl (vp_in_iff.mpr ⟨by omega, by omega⟩) dX10_waits_13 (fun H locs hP hD hS => ?_)
  have hP : va_P (dC, dI) vwCl (w10 h0 X C (upF (upF F 13 (upd (F 13) (Int32.toNatClampNeg v1) 2)) 24 (upd (F 24) (Int32.toNatClampNeg v1) (vp_nar .boolean 1))) n) H := hP
  have hD : va_D A (w10 h0 X C (upF (upF F 13 (upd (F 13) (Int32.toNatClampNeg v1) 2)) 24 (upd (F 24) (Int32.toNatClampNeg v1) (vp_nar .boolean 1))) n) := hD
  have j_33 : J7 (upd (F 24) (Int32.toNatClampNeg v1) (vp_nar .boolean 1)) (F 20) := J7_ib j_27 (Int32.toNatClampNeg v1) (Or.inr hpl)
  refine lv_aload_n hx hb dX10_waits_14 rfl (lv_at hl 0 rfl) ?_
  refine lv_iload_n hx hb dX10_waits_15 rfl (lv_at hl 1 rfl) ?_
  have hFc := free_all hD hS hA
  refine va_callv (va_runV (As := [.int v1]) (rest := []) ⟨hx, hb, hml, hown, hg⟩ (c_X10_leaves l dC dI kp h0 X C (upF (upF F 13 (upd (F 13) (Int32.toNatClampNeg v1) 2)) 24 (upd (F 24) (Int32.toNatClampNeg v1) (vp_nar .boolean 1))) n v1 H.size ⟨b_1, b_2, b_30, b_4, b_5, b_6, b_7, b_8, b_9, b_10, b_11, b_12, i_13, i_14, i_15, i_16, i_17, i_18, i_19, j_20, j_31, j_22, j_23, j_24, j_25, j_26, j_33, j_32, j_29⟩ (by omega) (by show ¬ ((upd (F 13) (Int32.toNatClampNeg v1) 2) (Int32.toNatClampNeg v1)).toInt = 1; rw [upd_eq]; have t_2 := ti_2; have t_3 := ti_3; have t_4 := ti_4; omega) (by show 0 ≤ (F 18 (Int32.toNatClampNeg v1)).toInt; exact h18)) (cwV 1 hg (gw_V gm_methodLink_RX10_211_yX10_leaves gm_instanceMethod_yX10_leaves gm_selects_RX10_yX10_leaves_yX10_leaves gm_initialized_RX10 gm_code_yX10_leaves_cX10_leaves_2_none) rfl rfl rfl (by decide +kernel) ⟨Nat.le_of_ble_eq_true rfl, Nat.le_of_ble_eq_true rfl⟩) ⟨fun a U g mk q => by obtain ⟨q0, q1, qP, qK, qD, qN⟩ := q; exact ⟨q0, q1, qP, va_K.moved (u := U) (U := U.calling g mk a) (Vm.Alike.refl U.vm) qK, qD, nx_same (u := U) (U := U.calling g mk a) rfl qN⟩, va_recv hK hP (ci := 10) (q0 := 0) rfl rfl, fun U hU hW => ⟨rfl, by rw [hU], by rw [hU]; exact hP, va_K.moved hW.alike hK, hD.weaken (fun _ _ _ _ => trivial), nx_warm hW hN⟩⟩ rfl rfl hl.1 rfl (lv_room (Nat.le_of_ble_eq_true rfl)) dX10_waits_16 ⟨Nat.le_of_ble_eq_true rfl, Nat.le_of_ble_eq_true rfl⟩) hS (fun q _ h => hFc q h) hFc (fun u_35 t H1 locs ht hvm hw hB hz1 hk1 hS => ?_)
  obtain ⟨F_36, n_37⟩ := u_35
  obtain ⟨hP, hD, hI_38⟩ := hB
  have hI_38 : I10 kp F_36 n_37 := hI_38
  obtain ⟨b_39, b_40, b_41, b_42, b_43, b_44, b_45, b_46, b_47, b_48, b_49, b_50, i_51, i_52, i_53, i_54, i_55, i_56, i_57, j_58, j_59, j_60, j_61, j_62, j_63, j_64, j_65, j_66, j_67⟩ := id hI_38
  rw [ht] at hP
  have hD := hD.weaken (fun k q _ h => hFc _ h)
  generalize H1 = H at hP hS ⊢
  have hP : va_P (dC, dI) vwCl (w10 h0 X C F_36 n_37) H := hP
  have hD : va_D A (w10 h0 X C F_36 n_37) := hD
  have w_68 : (F_36 13 (Int32.toNatClampNeg v1)).toInt = ((upd (F 13) (Int32.toNatClampNeg v1) 2) (Int32.toNatClampNeg v1)).toInt ∧ (F_36 32 (Int32.toNatClampNeg v1)).toInt = ((F 32) (Int32.toNatClampNeg v1)).toInt ∧ (n_37 11).toInt = ((n 11)).toInt := hw
  try simp only [upd_eq] at w_68
  exact W.vret hx hb hr (fun t ht hW => ⟨⟨(F_36, n_37), rfl, trivial, by rw [ht]; exact hP, hD, ⟨b_39, b_40, b_41, b_42, b_43, b_44, b_45, b_46, b_47, b_48, b_49, b_50, i_51, i_52, i_53, i_54, i_55, i_56, i_57, j_58, j_59, j_60, j_61, j_62, j_63, j_64, j_65, j_66, j_67⟩⟩, hS.F ht⟩) hS.2.2 dX10_waits_19

set_option maxHeartbeats 8000000 in
set_option maxRecDepth 100000 in
theorem c_X10_comes (l : Launch) (dC : Nat → ClassId) (dI : Nat → Nat → Nat) (kp : Int) (h0 : Nat) (X : Nat → Nat) (C : Nat → ClassId) (F : Nat → Nat → Int32) (n : Nat → Int32) (v1 : Int32) (v2 : Int32) (sz : Nat) (hI : I10 kp F n) (he : 0 ≤ v1.toInt ∧ v1.toInt < 8) (hf : -1 ≤ v2.toInt ∧ v2.toInt < (n 11).toInt) (hroom : (n 11).toInt < 200) : Met l yX10_comes (.code yX10_comes cX10_comes 5 (some .int) :: gw) ({ frames := 2, cells := 0, slots := 0, locals := 47 }) (va_Pc [.ref h0, .int v1, .int v2] (fun U => U.heap.size = sz ∧ va_P (dC, dI) vwCl (w10 h0 X C F n) U.heap ∧ va_K (dC, dI) vwCl (t10 C) U ∧ va_D (fun _ => True) (w10 h0 X C F n) ∧ nx U)) (va_Qi (fun (r : Int32) (u : (Nat → Nat → Int32) × (Nat → Int32)) => 0 ≤ r.toInt ∧ r.toInt < 200 ∧ (∀ j : Nat, (j : Int) < (n 11).toInt → (u.1 13 j).toInt = (F 13 j).toInt ∧ (u.1 20 j).toInt = (F 20 j).toInt ∧ (u.1 24 j).toInt = (F 24 j).toInt) ∧ (u.2 11).toInt = (n 11).toInt + 1) (fun u t => va_P (dC, dI) vwCl (w10 h0 X C u.1 u.2) t.heap ∧ va_D (va_A (w10 h0 X C F n) sz) (w10 h0 X C u.1 u.2) ∧ I10 kp u.1 u.2) (va_A (w10 h0 X C F n) sz)) 0 0 (va_A (w10 h0 X C F n) sz) := by
  refine Met.ofW (cc := cX10_comes) (maxL := 5) (ret := (some .int)) (by decide) rfl ?_
  intro p e s m args below meth c s₁ B hml hv
  obtain ⟨rfl, hsz, hP, hK, hD0, hN⟩ := hv
  have hx := B.exec
  have hb := B.bytes
  have hr := B.returns
  have hts := atoms_spec (ws := .code yX10_comes cX10_comes 5 (some .int) :: gw) B.pre
  have hg : ∀ w ∈ gw, w.before _ s = true := fun w h => hts w (List.mem_cons_of_mem _ h)
  have hown : s.vm.findClass RX10 = some m.cls := findClass_of_methodNamed B.named
  have hlocks := B.notSynchronized
  subst hsz
  have hD := hD0.self (sz := s.heap.size)
  generalize hAe : va_A (w10 h0 X C F n) s.heap.size = A at hD ⊢
  have hA : ∀ q : Nat, s.heap.size ≤ q → A q := fun q h => by rw [← hAe]; exact Or.inr h
  have hS : va_S A s.heap s.heap [] := va_S.rf
  have hP : va_P (dC, dI) vwCl (w10 h0 X C F n) s.heap := hP
  have hl := lv_entry ([.ref h0, .int v1, .int v2]) (n := 5) (Nat.le_of_ble_eq_true rfl)
  rw [lg_entry_eq]
  generalize (lg_sl ([.ref h0, .int v1, .int v2]) ++ List.replicate (5 - (lg_sl ([.ref h0, .int v1, .int v2])).length) Slot.unset).toArray = ls at hl ⊢
  have hl : lv_has ls 5 [(0, .ref h0), (1, .int v1), (2, .int v2)] := hl
  obtain ⟨b_1, b_2, b_3, b_4, b_5, b_6, b_7, b_8, b_9, b_10, b_11, b_12, i_13, i_14, i_15, i_16, i_17, i_18, i_19, j_20, j_21, j_22, j_23, j_24, j_25, j_26, j_27, j_28, j_29⟩ := id hI
  refine lv_aload_n hx hb dX10_comes_0 rfl (lv_at hl 0 rfl) ?_
  refine va_get (D := (dC, dI)) (ci := 10) (v := .int (n 11)) (C := RX10) (T := TX10) (N := 60) hx hb hg gb_10 hown hK hP 0 rfl rfl 11 (by decide) (hg _ gm_fieldLink_RX10_176_ErrandGuildModel_runs_I_) (fun _ h9 => h9) rfl dX10_comes_1 ?_
  refine lv_istore_n (lv' := [(3, .int (n 11)), (0, .ref h0), (1, .int v1), (2, .int v2)]) hx hb dX10_comes_4 rfl hl (by decide) rfl (fun ls hl => ?_)
  refine lv_aload_n hx hb dX10_comes_5 rfl (lv_at hl 1 rfl) ?_
  refine lv_iload_n hx hb dX10_comes_6 rfl (lv_at hl 0 rfl) ?_
  refine lv_iconst (v := 1) hx hb dX10_comes_7 (by decide) ?_
  refine lv_iadd hx hb dX10_comes_8 ?_
  refine lv_topi (fun z_30 ez_30 => ?_)
  have tz_30 : z_30.toInt = (n 11).toInt + 1 := ar_add rfl ti_1 ez_30 (by omega)
  refine va_put (D := (dC, dI)) (ci := 10) (v := .int z_30) (ty := .int) (C := RX10) (T := TX10) (N := 60) hx hb hg gb_10 tyX10 tyX10_ok nmX10 hown hK hP hD hS 0 rfl rfl 11 (by decide) (hg _ gm_fieldLink_RX10_176_ErrandGuildModel_runs_I_) (fun _ h9 => h9) rfl (by decide +kernel) rfl rfl (Nat.le_of_ble_eq_true rfl) dX10_comes_9 (fun H locs hP hD hS => ?_)
  have hP : va_P (dC, dI) vwCl (w10 h0 X C F (upn n 11 z_30)) H := hP
  have hD : va_D A (w10 h0 X C F (upn n 11 z_30)) := hD
  have i_31 : 0 ≤ z_30.toInt ∧ z_30.toInt ≤ 200 := by omega
  refine lv_aload_n hx hb dX10_comes_12 rfl (lv_at hl 1 rfl) ?_
  refine va_get (D := (dC, dI)) (ci := 10) (v := .ref (X 13)) (C := RX10) (T := TX10) (N := 60) hx hb hg gb_10 hown hK hP 0 rfl rfl 13 (by decide) (hg _ gm_fieldLink_RX10_45_ErrandGuildModel_state_AI_) (fun _ h9 => h9) rfl dX10_comes_13 ?_
  refine lv_iload_n hx hb dX10_comes_16 rfl (lv_at hl 0 rfl) ?_
  refine lv_iconst (v := 0) hx hb dX10_comes_17 (by decide) ?_
  refine va_iast hx hb hK hP hD hS 11 10 rfl rfl (vp_in_iff.mpr ⟨by omega, by omega⟩) dX10_comes_18 (fun H locs hP hD hS => ?_)
  have hP : va_P (dC, dI) vwCl (w10 h0 X C (upF F 13 (upd (F 13) (Int32.toNatClampNeg (n 11)) 0)) (upn n 11 z_30)) H := hP
  have hD : va_D A (w10 h0 X C (upF F 13 (upd (F 13) (Int32.toNatClampNeg (n 11)) 0)) (upn n 11 z_30)) := hD
  have b_32 := bd_upd b_3 (Int32.toNatClampNeg (n 11)) (x := 0) (by have t_ := ti_0; omega) (by have t_ := ti_0; omega)
  have j_33 : J1 (upd (F 13) (Int32.toNatClampNeg (n 11)) 0) (F 18) := J1_sa j_21 (Int32.toNatClampNeg (n 11)) (fun h => by have t_0 := ti_0; omega)
  refine lv_aload_n hx hb dX10_comes_19 rfl (lv_at hl 1 rfl) ?_
  refine va_get (D := (dC, dI)) (ci := 10) (v := .ref (X 14)) (C := RX10) (T := TX10) (N := 60) hx hb hg gb_10 hown hK hP 0 rfl rfl 14 (by decide) (hg _ gm_fieldLink_RX10_48_ErrandGuildModel_errand_AI_) (fun _ h9 => h9) rfl dX10_comes_20 ?_
  refine lv_iload_n hx hb dX10_comes_23 rfl (lv_at hl 0 rfl) ?_
  refine lv_iload_n hx hb dX10_comes_24 rfl (lv_at hl 2 rfl) ?_
  refine va_iast hx hb hK hP hD hS 12 11 rfl rfl (vp_in_iff.mpr ⟨by omega, by omega⟩) dX10_comes_25 (fun H locs hP hD hS => ?_)
  have hP : va_P (dC, dI) vwCl (w10 h0 X C (upF (upF F 13 (upd (F 13) (Int32.toNatClampNeg (n 11)) 0)) 14 (upd (F 14) (Int32.toNatClampNeg (n 11)) v1)) (upn n 11 z_30)) H := hP
  have hD : va_D A (w10 h0 X C (upF (upF F 13 (upd (F 13) (Int32.toNatClampNeg (n 11)) 0)) 14 (upd (F 14) (Int32.toNatClampNeg (n 11)) v1)) (upn n 11 z_30)) := hD
  have b_34 := bd_upd b_4 (Int32.toNatClampNeg (n 11)) (x := v1) (by omega) (by omega)
  refine lv_aload_n hx hb dX10_comes_26 rfl (lv_at hl 1 rfl) ?_
  refine va_get (D := (dC, dI)) (ci := 10) (v := .ref (X 15)) (C := RX10) (T := TX10) (N := 60) hx hb hg gb_10 hown hK hP 0 rfl rfl 15 (by decide) (hg _ gm_fieldLink_RX10_51_ErrandGuildModel_giver_AI_) (fun _ h9 => h9) rfl dX10_comes_27 ?_
  refine lv_iload_n hx hb dX10_comes_30 rfl (lv_at hl 0 rfl) ?_
  refine lv_iload_n hx hb dX10_comes_31 rfl (lv_at hl 3 rfl) ?_
  refine va_iast hx hb hK hP hD hS 13 12 rfl rfl (vp_in_iff.mpr ⟨by omega, by omega⟩) dX10_comes_32 (fun H locs hP hD hS => ?_)
  have hP : va_P (dC, dI) vwCl (w10 h0 X C (upF (upF (upF F 13 (upd (F 13) (Int32.toNatClampNeg (n 11)) 0)) 14 (upd (F 14) (Int32.toNatClampNeg (n 11)) v1)) 15 (upd (F 15) (Int32.toNatClampNeg (n 11)) v2)) (upn n 11 z_30)) H := hP
  have hD : va_D A (w10 h0 X C (upF (upF (upF F 13 (upd (F 13) (Int32.toNatClampNeg (n 11)) 0)) 14 (upd (F 14) (Int32.toNatClampNeg (n 11)) v1)) 15 (upd (F 15) (Int32.toNatClampNeg (n 11)) v2)) (upn n 11 z_30)) := hD
  have b_35 := bd_upd b_5 (Int32.toNatClampNeg (n 11)) (x := v2) (by omega) (by omega)
  refine lv_aload_n hx hb dX10_comes_33 rfl (lv_at hl 1 rfl) ?_
  refine va_get (D := (dC, dI)) (ci := 10) (v := .ref (X 16)) (C := RX10) (T := TX10) (N := 60) hx hb hg gb_10 hown hK hP 0 rfl rfl 16 (by decide) (hg _ gm_fieldLink_RX10_54_ErrandGuildModel_root_AI_) (fun _ h9 => h9) rfl dX10_comes_34 ?_
  refine lv_iload_n hx hb dX10_comes_37 rfl (lv_at hl 0 rfl) ?_
  refine lv_iload_n hx hb dX10_comes_38 rfl (lv_at hl 3 rfl) ?_
  refine lv_iconst (v := -1) hx hb dX10_comes_39 (by decide) ?_
  refine lv_icmp_ne (tgt := 47) hx hb dX10_comes_40 (by decide) (fun c_36 => ?_) (fun c_36 => ?_)
  · simp only [i_lt, i_le, i_eq, ti_m1] at c_36
    refine lv_aload_n hx hb dX10_comes_47 rfl (lv_at hl 1 rfl) ?_
    refine va_get (D := (dC, dI)) (ci := 10) (v := .ref (X 16)) (C := RX10) (T := TX10) (N := 60) hx hb hg gb_10 hown hK hP 0 rfl rfl 16 (by decide) (hg _ gm_fieldLink_RX10_54_ErrandGuildModel_root_AI_) (fun _ h9 => h9) rfl dX10_comes_48 ?_
    refine lv_iload_n hx hb dX10_comes_51 rfl (lv_at hl 3 rfl) ?_
    refine va_iald hx hb hK hP 14 13 rfl rfl (vp_in_iff.mpr ⟨by omega, by omega⟩) dX10_comes_52 ?_
    refine lv_topi (fun z_37 ez_37 => ?_)
    have qz_37 := congrArg Int32.toInt ez_37
    have bz_37 := bd_at b_6 ez_37
    refine va_iast hx hb hK hP hD hS 14 13 rfl rfl (vp_in_iff.mpr ⟨by omega, by omega⟩) dX10_comes_53 (fun H locs hP hD hS => ?_)
    have hP : va_P (dC, dI) vwCl (w10 h0 X C (upF (upF (upF (upF F 13 (upd (F 13) (Int32.toNatClampNeg (n 11)) 0)) 14 (upd (F 14) (Int32.toNatClampNeg (n 11)) v1)) 15 (upd (F 15) (Int32.toNatClampNeg (n 11)) v2)) 16 (upd (F 16) (Int32.toNatClampNeg (n 11)) z_37)) (upn n 11 z_30)) H := hP
    have hD : va_D A (w10 h0 X C (upF (upF (upF (upF F 13 (upd (F 13) (Int32.toNatClampNeg (n 11)) 0)) 14 (upd (F 14) (Int32.toNatClampNeg (n 11)) v1)) 15 (upd (F 15) (Int32.toNatClampNeg (n 11)) v2)) 16 (upd (F 16) (Int32.toNatClampNeg (n 11)) z_37)) (upn n 11 z_30)) := hD
    have b_38 := bd_upd b_6 (Int32.toNatClampNeg (n 11)) (x := z_37) (by omega) (by omega)
    refine lv_aload_n hx hb dX10_comes_54 rfl (lv_at hl 1 rfl) ?_
    refine va_get (D := (dC, dI)) (ci := 10) (v := .ref (X 17)) (C := RX10) (T := TX10) (N := 60) hx hb hg gb_10 hown hK hP 0 rfl rfl 17 (by decide) (hg _ gm_fieldLink_RX10_57_ErrandGuildModel_depth_AI_) (fun _ h9 => h9) rfl dX10_comes_55 ?_
    refine lv_iload_n hx hb dX10_comes_58 rfl (lv_at hl 0 rfl) ?_
    refine lv_iload_n hx hb dX10_comes_59 rfl (lv_at hl 3 rfl) ?_
    refine lv_iconst (v := -1) hx hb dX10_comes_60 (by decide) ?_
    refine lv_icmp_ne (tgt := 68) hx hb dX10_comes_61 (by decide) (fun c_39 => ?_) (fun c_39 => ?_)
    · simp only [i_lt, i_le, i_eq, ti_m1] at c_39
      refine lv_aload_n hx hb dX10_comes_68 rfl (lv_at hl 1 rfl) ?_
      refine va_get (D := (dC, dI)) (ci := 10) (v := .ref (X 17)) (C := RX10) (T := TX10) (N := 60) hx hb hg gb_10 hown hK hP 0 rfl rfl 17 (by decide) (hg _ gm_fieldLink_RX10_57_ErrandGuildModel_depth_AI_) (fun _ h9 => h9) rfl dX10_comes_69 ?_
      refine lv_iload_n hx hb dX10_comes_72 rfl (lv_at hl 3 rfl) ?_
      refine va_iald hx hb hK hP 15 14 rfl rfl (vp_in_iff.mpr ⟨by omega, by omega⟩) dX10_comes_73 ?_
      refine lv_topi (fun z_40 ez_40 => ?_)
      have qz_40 := congrArg Int32.toInt ez_40
      refine lv_iconst (v := 1) hx hb dX10_comes_74 (by decide) ?_
      refine lv_iadd hx hb dX10_comes_75 ?_
      refine lv_topi (fun z_41 ez_41 => ?_)
      refine va_iast hx hb hK hP hD hS 15 14 rfl rfl (vp_in_iff.mpr ⟨by omega, by omega⟩) dX10_comes_76 (fun H locs hP hD hS => ?_)
      have hP : va_P (dC, dI) vwCl (w10 h0 X C (upF (upF (upF (upF (upF F 13 (upd (F 13) (Int32.toNatClampNeg (n 11)) 0)) 14 (upd (F 14) (Int32.toNatClampNeg (n 11)) v1)) 15 (upd (F 15) (Int32.toNatClampNeg (n 11)) v2)) 16 (upd (F 16) (Int32.toNatClampNeg (n 11)) z_37)) 17 (upd (F 17) (Int32.toNatClampNeg (n 11)) z_41)) (upn n 11 z_30)) H := hP
      have hD : va_D A (w10 h0 X C (upF (upF (upF (upF (upF F 13 (upd (F 13) (Int32.toNatClampNeg (n 11)) 0)) 14 (upd (F 14) (Int32.toNatClampNeg (n 11)) v1)) 15 (upd (F 15) (Int32.toNatClampNeg (n 11)) v2)) 16 (upd (F 16) (Int32.toNatClampNeg (n 11)) z_37)) 17 (upd (F 17) (Int32.toNatClampNeg (n 11)) z_41)) (upn n 11 z_30)) := hD
      refine lv_aload_n hx hb dX10_comes_77 rfl (lv_at hl 1 rfl) ?_
      refine va_get (D := (dC, dI)) (ci := 10) (v := .ref (X 18)) (C := RX10) (T := TX10) (N := 60) hx hb hg gb_10 hown hK hP 0 rfl rfl 18 (by decide) (hg _ gm_fieldLink_RX10_60_ErrandGuildModel_thread_AI_) (fun _ h9 => h9) rfl dX10_comes_78 ?_
      refine lv_iload_n hx hb dX10_comes_81 rfl (lv_at hl 0 rfl) ?_
      refine lv_iconst (v := -1) hx hb dX10_comes_82 (by decide) ?_
      refine va_iast hx hb hK hP hD hS 16 15 rfl rfl (vp_in_iff.mpr ⟨by omega, by omega⟩) dX10_comes_83 (fun H locs hP hD hS => ?_)
      have hP : va_P (dC, dI) vwCl (w10 h0 X C (upF (upF (upF (upF (upF (upF F 13 (upd (F 13) (Int32.toNatClampNeg (n 11)) 0)) 14 (upd (F 14) (Int32.toNatClampNeg (n 11)) v1)) 15 (upd (F 15) (Int32.toNatClampNeg (n 11)) v2)) 16 (upd (F 16) (Int32.toNatClampNeg (n 11)) z_37)) 17 (upd (F 17) (Int32.toNatClampNeg (n 11)) z_41)) 18 (upd (F 18) (Int32.toNatClampNeg (n 11)) (-1))) (upn n 11 z_30)) H := hP
      have hD : va_D A (w10 h0 X C (upF (upF (upF (upF (upF (upF F 13 (upd (F 13) (Int32.toNatClampNeg (n 11)) 0)) 14 (upd (F 14) (Int32.toNatClampNeg (n 11)) v1)) 15 (upd (F 15) (Int32.toNatClampNeg (n 11)) v2)) 16 (upd (F 16) (Int32.toNatClampNeg (n 11)) z_37)) 17 (upd (F 17) (Int32.toNatClampNeg (n 11)) z_41)) 18 (upd (F 18) (Int32.toNatClampNeg (n 11)) (-1))) (upn n 11 z_30)) := hD
      have b_42 := bd_upd b_7 (Int32.toNatClampNeg (n 11)) (x := (-1)) (by have t_ := ti_m1; omega) (by have t_ := ti_m1; omega)
      have j_43 : J1 (upd (F 13) (Int32.toNatClampNeg (n 11)) 0) (upd (F 18) (Int32.toNatClampNeg (n 11)) (-1)) := J1_th j_33 (Int32.toNatClampNeg (n 11)) (fun h => by rw [upd_eq] at h; have t_0 := ti_0; omega)
      refine lv_aload_n hx hb dX10_comes_84 rfl (lv_at hl 1 rfl) ?_
      refine va_get (D := (dC, dI)) (ci := 10) (v := .ref (X 19)) (C := RX10) (T := TX10) (N := 60) hx hb hg gb_10 hown hK hP 0 rfl rfl 19 (by decide) (hg _ gm_fieldLink_RX10_63_ErrandGuildModel_sum_AI_) (fun _ h9 => h9) rfl dX10_comes_85 ?_
      refine lv_iload_n hx hb dX10_comes_88 rfl (lv_at hl 0 rfl) ?_
      refine lv_iconst (v := 0) hx hb dX10_comes_89 (by decide) ?_
      refine va_iast hx hb hK hP hD hS 17 16 rfl rfl (vp_in_iff.mpr ⟨by omega, by omega⟩) dX10_comes_90 (fun H locs hP hD hS => ?_)
      have hP : va_P (dC, dI) vwCl (w10 h0 X C (upF (upF (upF (upF (upF (upF (upF F 13 (upd (F 13) (Int32.toNatClampNeg (n 11)) 0)) 14 (upd (F 14) (Int32.toNatClampNeg (n 11)) v1)) 15 (upd (F 15) (Int32.toNatClampNeg (n 11)) v2)) 16 (upd (F 16) (Int32.toNatClampNeg (n 11)) z_37)) 17 (upd (F 17) (Int32.toNatClampNeg (n 11)) z_41)) 18 (upd (F 18) (Int32.toNatClampNeg (n 11)) (-1))) 19 (upd (F 19) (Int32.toNatClampNeg (n 11)) 0)) (upn n 11 z_30)) H := hP
      have hD : va_D A (w10 h0 X C (upF (upF (upF (upF (upF (upF (upF F 13 (upd (F 13) (Int32.toNatClampNeg (n 11)) 0)) 14 (upd (F 14) (Int32.toNatClampNeg (n 11)) v1)) 15 (upd (F 15) (Int32.toNatClampNeg (n 11)) v2)) 16 (upd (F 16) (Int32.toNatClampNeg (n 11)) z_37)) 17 (upd (F 17) (Int32.toNatClampNeg (n 11)) z_41)) 18 (upd (F 18) (Int32.toNatClampNeg (n 11)) (-1))) 19 (upd (F 19) (Int32.toNatClampNeg (n 11)) 0)) (upn n 11 z_30)) := hD
      refine lv_aload_n hx hb dX10_comes_91 rfl (lv_at hl 1 rfl) ?_
      refine va_get (D := (dC, dI)) (ci := 10) (v := .ref (X 20)) (C := RX10) (T := TX10) (N := 60) hx hb hg gb_10 hown hK hP 0 rfl rfl 20 (by decide) (hg _ gm_fieldLink_RX10_66_ErrandGuildModel_place_AI_) (fun _ h9 => h9) rfl dX10_comes_92 ?_
      refine lv_iload_n hx hb dX10_comes_95 rfl (lv_at hl 0 rfl) ?_
      refine lv_iconst (v := 0) hx hb dX10_comes_96 (by decide) ?_
      refine va_iast hx hb hK hP hD hS 18 17 rfl rfl (vp_in_iff.mpr ⟨by omega, by omega⟩) dX10_comes_97 (fun H locs hP hD hS => ?_)
      have hP : va_P (dC, dI) vwCl (w10 h0 X C (upF (upF (upF (upF (upF (upF (upF (upF F 13 (upd (F 13) (Int32.toNatClampNeg (n 11)) 0)) 14 (upd (F 14) (Int32.toNatClampNeg (n 11)) v1)) 15 (upd (F 15) (Int32.toNatClampNeg (n 11)) v2)) 16 (upd (F 16) (Int32.toNatClampNeg (n 11)) z_37)) 17 (upd (F 17) (Int32.toNatClampNeg (n 11)) z_41)) 18 (upd (F 18) (Int32.toNatClampNeg (n 11)) (-1))) 19 (upd (F 19) (Int32.toNatClampNeg (n 11)) 0)) 20 (upd (F 20) (Int32.toNatClampNeg (n 11)) 0)) (upn n 11 z_30)) H := hP
      have hD : va_D A (w10 h0 X C (upF (upF (upF (upF (upF (upF (upF (upF F 13 (upd (F 13) (Int32.toNatClampNeg (n 11)) 0)) 14 (upd (F 14) (Int32.toNatClampNeg (n 11)) v1)) 15 (upd (F 15) (Int32.toNatClampNeg (n 11)) v2)) 16 (upd (F 16) (Int32.toNatClampNeg (n 11)) z_37)) 17 (upd (F 17) (Int32.toNatClampNeg (n 11)) z_41)) 18 (upd (F 18) (Int32.toNatClampNeg (n 11)) (-1))) 19 (upd (F 19) (Int32.toNatClampNeg (n 11)) 0)) 20 (upd (F 20) (Int32.toNatClampNeg (n 11)) 0)) (upn n 11 z_30)) := hD
      have b_44 := bd_upd b_8 (Int32.toNatClampNeg (n 11)) (x := 0) (by have t_ := ti_0; omega) (by have t_ := ti_0; omega)
      have j_45 : J7 (F 24) (upd (F 20) (Int32.toNatClampNeg (n 11)) 0) := J7_pl j_27 (Int32.toNatClampNeg (n 11)) (Or.inr (by have t_0 := ti_0; omega))
      refine lv_aload_n hx hb dX10_comes_98 rfl (lv_at hl 1 rfl) ?_
      refine va_get (D := (dC, dI)) (ci := 10) (v := .ref (X 21)) (C := RX10) (T := TX10) (N := 60) hx hb hg gb_10 hown hK hP 0 rfl rfl 21 (by decide) (hg _ gm_fieldLink_RX10_69_ErrandGuildModel_gaveAt_AI_) (fun _ h9 => h9) rfl dX10_comes_99 ?_
      refine lv_iload_n hx hb dX10_comes_102 rfl (lv_at hl 0 rfl) ?_
      refine lv_iload_n hx hb dX10_comes_103 rfl (lv_at hl 3 rfl) ?_
      refine lv_iconst (v := -1) hx hb dX10_comes_104 (by decide) ?_
      refine lv_icmp_ne (tgt := 112) hx hb dX10_comes_105 (by decide) (fun c_46 => ?_) (fun c_46 => ?_)
      · simp only [i_lt, i_le, i_eq, ti_m1] at c_46
        refine lv_aload_n hx hb dX10_comes_112 rfl (lv_at hl 1 rfl) ?_
        refine va_get (D := (dC, dI)) (ci := 10) (v := .ref (X 20)) (C := RX10) (T := TX10) (N := 60) hx hb hg gb_10 hown hK hP 0 rfl rfl 20 (by decide) (hg _ gm_fieldLink_RX10_66_ErrandGuildModel_place_AI_) (fun _ h9 => h9) rfl dX10_comes_113 ?_
        refine lv_iload_n hx hb dX10_comes_116 rfl (lv_at hl 3 rfl) ?_
        refine va_iald hx hb hK hP 18 17 rfl rfl (vp_in_iff.mpr ⟨by omega, by omega⟩) dX10_comes_117 ?_
        refine lv_topi (fun z_47 ez_47 => ?_)
        have qz_47 := congrArg Int32.toInt ez_47
        have bz_47 := bd_at b_44 ez_47
        refine va_iast hx hb hK hP hD hS 19 18 rfl rfl (vp_in_iff.mpr ⟨by omega, by omega⟩) dX10_comes_118 (fun H locs hP hD hS => ?_)
        have hP : va_P (dC, dI) vwCl (w10 h0 X C (upF (upF (upF (upF (upF (upF (upF (upF (upF F 13 (upd (F 13) (Int32.toNatClampNeg (n 11)) 0)) 14 (upd (F 14) (Int32.toNatClampNeg (n 11)) v1)) 15 (upd (F 15) (Int32.toNatClampNeg (n 11)) v2)) 16 (upd (F 16) (Int32.toNatClampNeg (n 11)) z_37)) 17 (upd (F 17) (Int32.toNatClampNeg (n 11)) z_41)) 18 (upd (F 18) (Int32.toNatClampNeg (n 11)) (-1))) 19 (upd (F 19) (Int32.toNatClampNeg (n 11)) 0)) 20 (upd (F 20) (Int32.toNatClampNeg (n 11)) 0)) 21 (upd (F 21) (Int32.toNatClampNeg (n 11)) z_47)) (upn n 11 z_30)) H := hP
        have hD : va_D A (w10 h0 X C (upF (upF (upF (upF (upF (upF (upF (upF (upF F 13 (upd (F 13) (Int32.toNatClampNeg (n 11)) 0)) 14 (upd (F 14) (Int32.toNatClampNeg (n 11)) v1)) 15 (upd (F 15) (Int32.toNatClampNeg (n 11)) v2)) 16 (upd (F 16) (Int32.toNatClampNeg (n 11)) z_37)) 17 (upd (F 17) (Int32.toNatClampNeg (n 11)) z_41)) 18 (upd (F 18) (Int32.toNatClampNeg (n 11)) (-1))) 19 (upd (F 19) (Int32.toNatClampNeg (n 11)) 0)) 20 (upd (F 20) (Int32.toNatClampNeg (n 11)) 0)) 21 (upd (F 21) (Int32.toNatClampNeg (n 11)) z_47)) (upn n 11 z_30)) := hD
        refine lv_aload_n hx hb dX10_comes_119 rfl (lv_at hl 1 rfl) ?_
        refine va_get (D := (dC, dI)) (ci := 10) (v := .ref (X 22)) (C := RX10) (T := TX10) (N := 60) hx hb hg gb_10 hown hK hP 0 rfl rfl 22 (by decide) (hg _ gm_fieldLink_RX10_72_ErrandGuildModel_endedAt_AI_) (fun _ h9 => h9) rfl dX10_comes_120 ?_
        refine lv_iload_n hx hb dX10_comes_123 rfl (lv_at hl 0 rfl) ?_
        refine lv_iconst (v := -1) hx hb dX10_comes_124 (by decide) ?_
        refine va_iast hx hb hK hP hD hS 20 19 rfl rfl (vp_in_iff.mpr ⟨by omega, by omega⟩) dX10_comes_125 (fun H locs hP hD hS => ?_)
        have hP : va_P (dC, dI) vwCl (w10 h0 X C (upF (upF (upF (upF (upF (upF (upF (upF (upF (upF F 13 (upd (F 13) (Int32.toNatClampNeg (n 11)) 0)) 14 (upd (F 14) (Int32.toNatClampNeg (n 11)) v1)) 15 (upd (F 15) (Int32.toNatClampNeg (n 11)) v2)) 16 (upd (F 16) (Int32.toNatClampNeg (n 11)) z_37)) 17 (upd (F 17) (Int32.toNatClampNeg (n 11)) z_41)) 18 (upd (F 18) (Int32.toNatClampNeg (n 11)) (-1))) 19 (upd (F 19) (Int32.toNatClampNeg (n 11)) 0)) 20 (upd (F 20) (Int32.toNatClampNeg (n 11)) 0)) 21 (upd (F 21) (Int32.toNatClampNeg (n 11)) z_47)) 22 (upd (F 22) (Int32.toNatClampNeg (n 11)) (-1))) (upn n 11 z_30)) H := hP
        have hD : va_D A (w10 h0 X C (upF (upF (upF (upF (upF (upF (upF (upF (upF (upF F 13 (upd (F 13) (Int32.toNatClampNeg (n 11)) 0)) 14 (upd (F 14) (Int32.toNatClampNeg (n 11)) v1)) 15 (upd (F 15) (Int32.toNatClampNeg (n 11)) v2)) 16 (upd (F 16) (Int32.toNatClampNeg (n 11)) z_37)) 17 (upd (F 17) (Int32.toNatClampNeg (n 11)) z_41)) 18 (upd (F 18) (Int32.toNatClampNeg (n 11)) (-1))) 19 (upd (F 19) (Int32.toNatClampNeg (n 11)) 0)) 20 (upd (F 20) (Int32.toNatClampNeg (n 11)) 0)) 21 (upd (F 21) (Int32.toNatClampNeg (n 11)) z_47)) 22 (upd (F 22) (Int32.toNatClampNeg (n 11)) (-1))) (upn n 11 z_30)) := hD
        refine lv_aload_n hx hb dX10_comes_126 rfl (lv_at hl 1 rfl) ?_
        refine va_get (D := (dC, dI)) (ci := 10) (v := .ref (X 23)) (C := RX10) (T := TX10) (N := 60) hx hb hg gb_10 hown hK hP 0 rfl rfl 23 (by decide) (hg _ gm_fieldLink_RX10_75_ErrandGuildModel_came_AI_) (fun _ h9 => h9) rfl dX10_comes_127 ?_
        refine lv_iload_n hx hb dX10_comes_130 rfl (lv_at hl 0 rfl) ?_
        refine lv_iconst (v := 0) hx hb dX10_comes_131 (by decide) ?_
        refine va_iast hx hb hK hP hD hS 21 20 rfl rfl (vp_in_iff.mpr ⟨by omega, by omega⟩) dX10_comes_132 (fun H locs hP hD hS => ?_)
        have hP : va_P (dC, dI) vwCl (w10 h0 X C (upF (upF (upF (upF (upF (upF (upF (upF (upF (upF (upF F 13 (upd (F 13) (Int32.toNatClampNeg (n 11)) 0)) 14 (upd (F 14) (Int32.toNatClampNeg (n 11)) v1)) 15 (upd (F 15) (Int32.toNatClampNeg (n 11)) v2)) 16 (upd (F 16) (Int32.toNatClampNeg (n 11)) z_37)) 17 (upd (F 17) (Int32.toNatClampNeg (n 11)) z_41)) 18 (upd (F 18) (Int32.toNatClampNeg (n 11)) (-1))) 19 (upd (F 19) (Int32.toNatClampNeg (n 11)) 0)) 20 (upd (F 20) (Int32.toNatClampNeg (n 11)) 0)) 21 (upd (F 21) (Int32.toNatClampNeg (n 11)) z_47)) 22 (upd (F 22) (Int32.toNatClampNeg (n 11)) (-1))) 23 (upd (F 23) (Int32.toNatClampNeg (n 11)) 0)) (upn n 11 z_30)) H := hP
        have hD : va_D A (w10 h0 X C (upF (upF (upF (upF (upF (upF (upF (upF (upF (upF (upF F 13 (upd (F 13) (Int32.toNatClampNeg (n 11)) 0)) 14 (upd (F 14) (Int32.toNatClampNeg (n 11)) v1)) 15 (upd (F 15) (Int32.toNatClampNeg (n 11)) v2)) 16 (upd (F 16) (Int32.toNatClampNeg (n 11)) z_37)) 17 (upd (F 17) (Int32.toNatClampNeg (n 11)) z_41)) 18 (upd (F 18) (Int32.toNatClampNeg (n 11)) (-1))) 19 (upd (F 19) (Int32.toNatClampNeg (n 11)) 0)) 20 (upd (F 20) (Int32.toNatClampNeg (n 11)) 0)) 21 (upd (F 21) (Int32.toNatClampNeg (n 11)) z_47)) 22 (upd (F 22) (Int32.toNatClampNeg (n 11)) (-1))) 23 (upd (F 23) (Int32.toNatClampNeg (n 11)) 0)) (upn n 11 z_30)) := hD
        refine lv_aload_n hx hb dX10_comes_133 rfl (lv_at hl 1 rfl) ?_
        refine va_get (D := (dC, dI)) (ci := 10) (v := .ref (X 24)) (C := RX10) (T := TX10) (N := 60) hx hb hg gb_10 hown hK hP 0 rfl rfl 24 (by decide) (hg _ gm_fieldLink_RX10_78_ErrandGuildModel_isBack_AZ_) (fun _ h9 => h9) rfl dX10_comes_134 ?_
        refine lv_iload_n hx hb dX10_comes_137 rfl (lv_at hl 0 rfl) ?_
        refine lv_iconst (v := 0) hx hb dX10_comes_138 (by decide) ?_
        refine va_zast hx hb hK hP hD hS 22 21 rfl rfl (vp_in_iff.mpr ⟨by omega, by omega⟩) dX10_comes_139 (fun H locs hP hD hS => ?_)
        have hP : va_P (dC, dI) vwCl (w10 h0 X C (upF (upF (upF (upF (upF (upF (upF (upF (upF (upF (upF (upF F 13 (upd (F 13) (Int32.toNatClampNeg (n 11)) 0)) 14 (upd (F 14) (Int32.toNatClampNeg (n 11)) v1)) 15 (upd (F 15) (Int32.toNatClampNeg (n 11)) v2)) 16 (upd (F 16) (Int32.toNatClampNeg (n 11)) z_37)) 17 (upd (F 17) (Int32.toNatClampNeg (n 11)) z_41)) 18 (upd (F 18) (Int32.toNatClampNeg (n 11)) (-1))) 19 (upd (F 19) (Int32.toNatClampNeg (n 11)) 0)) 20 (upd (F 20) (Int32.toNatClampNeg (n 11)) 0)) 21 (upd (F 21) (Int32.toNatClampNeg (n 11)) z_47)) 22 (upd (F 22) (Int32.toNatClampNeg (n 11)) (-1))) 23 (upd (F 23) (Int32.toNatClampNeg (n 11)) 0)) 24 (upd (F 24) (Int32.toNatClampNeg (n 11)) (vp_nar .boolean 0))) (upn n 11 z_30)) H := hP
        have hD : va_D A (w10 h0 X C (upF (upF (upF (upF (upF (upF (upF (upF (upF (upF (upF (upF F 13 (upd (F 13) (Int32.toNatClampNeg (n 11)) 0)) 14 (upd (F 14) (Int32.toNatClampNeg (n 11)) v1)) 15 (upd (F 15) (Int32.toNatClampNeg (n 11)) v2)) 16 (upd (F 16) (Int32.toNatClampNeg (n 11)) z_37)) 17 (upd (F 17) (Int32.toNatClampNeg (n 11)) z_41)) 18 (upd (F 18) (Int32.toNatClampNeg (n 11)) (-1))) 19 (upd (F 19) (Int32.toNatClampNeg (n 11)) 0)) 20 (upd (F 20) (Int32.toNatClampNeg (n 11)) 0)) 21 (upd (F 21) (Int32.toNatClampNeg (n 11)) z_47)) 22 (upd (F 22) (Int32.toNatClampNeg (n 11)) (-1))) 23 (upd (F 23) (Int32.toNatClampNeg (n 11)) 0)) 24 (upd (F 24) (Int32.toNatClampNeg (n 11)) (vp_nar .boolean 0))) (upn n 11 z_30)) := hD
        have j_48 : J7 (upd (F 24) (Int32.toNatClampNeg (n 11)) (vp_nar .boolean 0)) (upd (F 20) (Int32.toNatClampNeg (n 11)) 0) := J7_ib j_45 (Int32.toNatClampNeg (n 11)) (Or.inl (by rw [nb0]; decide))
        refine lv_aload_n hx hb dX10_comes_140 rfl (lv_at hl 1 rfl) ?_
        refine va_get (D := (dC, dI)) (ci := 10) (v := .ref (X 25)) (C := RX10) (T := TX10) (N := 60) hx hb hg gb_10 hown hK hP 0 rfl rfl 25 (by decide) (hg _ gm_fieldLink_RX10_81_ErrandGuildModel_isTold_AZ_) (fun _ h9 => h9) rfl dX10_comes_141 ?_
        refine lv_iload_n hx hb dX10_comes_144 rfl (lv_at hl 0 rfl) ?_
        refine lv_iconst (v := 0) hx hb dX10_comes_145 (by decide) ?_
        refine va_zast hx hb hK hP hD hS 23 22 rfl rfl (vp_in_iff.mpr ⟨by omega, by omega⟩) dX10_comes_146 (fun H locs hP hD hS => ?_)
        have hP : va_P (dC, dI) vwCl (w10 h0 X C (upF (upF (upF (upF (upF (upF (upF (upF (upF (upF (upF (upF (upF F 13 (upd (F 13) (Int32.toNatClampNeg (n 11)) 0)) 14 (upd (F 14) (Int32.toNatClampNeg (n 11)) v1)) 15 (upd (F 15) (Int32.toNatClampNeg (n 11)) v2)) 16 (upd (F 16) (Int32.toNatClampNeg (n 11)) z_37)) 17 (upd (F 17) (Int32.toNatClampNeg (n 11)) z_41)) 18 (upd (F 18) (Int32.toNatClampNeg (n 11)) (-1))) 19 (upd (F 19) (Int32.toNatClampNeg (n 11)) 0)) 20 (upd (F 20) (Int32.toNatClampNeg (n 11)) 0)) 21 (upd (F 21) (Int32.toNatClampNeg (n 11)) z_47)) 22 (upd (F 22) (Int32.toNatClampNeg (n 11)) (-1))) 23 (upd (F 23) (Int32.toNatClampNeg (n 11)) 0)) 24 (upd (F 24) (Int32.toNatClampNeg (n 11)) (vp_nar .boolean 0))) 25 (upd (F 25) (Int32.toNatClampNeg (n 11)) (vp_nar .boolean 0))) (upn n 11 z_30)) H := hP
        have hD : va_D A (w10 h0 X C (upF (upF (upF (upF (upF (upF (upF (upF (upF (upF (upF (upF (upF F 13 (upd (F 13) (Int32.toNatClampNeg (n 11)) 0)) 14 (upd (F 14) (Int32.toNatClampNeg (n 11)) v1)) 15 (upd (F 15) (Int32.toNatClampNeg (n 11)) v2)) 16 (upd (F 16) (Int32.toNatClampNeg (n 11)) z_37)) 17 (upd (F 17) (Int32.toNatClampNeg (n 11)) z_41)) 18 (upd (F 18) (Int32.toNatClampNeg (n 11)) (-1))) 19 (upd (F 19) (Int32.toNatClampNeg (n 11)) 0)) 20 (upd (F 20) (Int32.toNatClampNeg (n 11)) 0)) 21 (upd (F 21) (Int32.toNatClampNeg (n 11)) z_47)) 22 (upd (F 22) (Int32.toNatClampNeg (n 11)) (-1))) 23 (upd (F 23) (Int32.toNatClampNeg (n 11)) 0)) 24 (upd (F 24) (Int32.toNatClampNeg (n 11)) (vp_nar .boolean 0))) 25 (upd (F 25) (Int32.toNatClampNeg (n 11)) (vp_nar .boolean 0))) (upn n 11 z_30)) := hD
        refine lv_aload_n hx hb dX10_comes_147 rfl (lv_at hl 1 rfl) ?_
        refine va_get (D := (dC, dI)) (ci := 10) (v := .ref (X 26)) (C := RX10) (T := TX10) (N := 60) hx hb hg gb_10 hown hK hP 0 rfl rfl 26 (by decide) (hg _ gm_fieldLink_RX10_84_ErrandGuildModel_wasWaited_AZ_) (fun _ h9 => h9) rfl dX10_comes_148 ?_
        refine lv_iload_n hx hb dX10_comes_151 rfl (lv_at hl 0 rfl) ?_
        refine lv_iconst (v := 0) hx hb dX10_comes_152 (by decide) ?_
        refine va_zast hx hb hK hP hD hS 24 23 rfl rfl (vp_in_iff.mpr ⟨by omega, by omega⟩) dX10_comes_153 (fun H locs hP hD hS => ?_)
        have hP : va_P (dC, dI) vwCl (w10 h0 X C (upF (upF (upF (upF (upF (upF (upF (upF (upF (upF (upF (upF (upF (upF F 13 (upd (F 13) (Int32.toNatClampNeg (n 11)) 0)) 14 (upd (F 14) (Int32.toNatClampNeg (n 11)) v1)) 15 (upd (F 15) (Int32.toNatClampNeg (n 11)) v2)) 16 (upd (F 16) (Int32.toNatClampNeg (n 11)) z_37)) 17 (upd (F 17) (Int32.toNatClampNeg (n 11)) z_41)) 18 (upd (F 18) (Int32.toNatClampNeg (n 11)) (-1))) 19 (upd (F 19) (Int32.toNatClampNeg (n 11)) 0)) 20 (upd (F 20) (Int32.toNatClampNeg (n 11)) 0)) 21 (upd (F 21) (Int32.toNatClampNeg (n 11)) z_47)) 22 (upd (F 22) (Int32.toNatClampNeg (n 11)) (-1))) 23 (upd (F 23) (Int32.toNatClampNeg (n 11)) 0)) 24 (upd (F 24) (Int32.toNatClampNeg (n 11)) (vp_nar .boolean 0))) 25 (upd (F 25) (Int32.toNatClampNeg (n 11)) (vp_nar .boolean 0))) 26 (upd (F 26) (Int32.toNatClampNeg (n 11)) (vp_nar .boolean 0))) (upn n 11 z_30)) H := hP
        have hD : va_D A (w10 h0 X C (upF (upF (upF (upF (upF (upF (upF (upF (upF (upF (upF (upF (upF (upF F 13 (upd (F 13) (Int32.toNatClampNeg (n 11)) 0)) 14 (upd (F 14) (Int32.toNatClampNeg (n 11)) v1)) 15 (upd (F 15) (Int32.toNatClampNeg (n 11)) v2)) 16 (upd (F 16) (Int32.toNatClampNeg (n 11)) z_37)) 17 (upd (F 17) (Int32.toNatClampNeg (n 11)) z_41)) 18 (upd (F 18) (Int32.toNatClampNeg (n 11)) (-1))) 19 (upd (F 19) (Int32.toNatClampNeg (n 11)) 0)) 20 (upd (F 20) (Int32.toNatClampNeg (n 11)) 0)) 21 (upd (F 21) (Int32.toNatClampNeg (n 11)) z_47)) 22 (upd (F 22) (Int32.toNatClampNeg (n 11)) (-1))) 23 (upd (F 23) (Int32.toNatClampNeg (n 11)) 0)) 24 (upd (F 24) (Int32.toNatClampNeg (n 11)) (vp_nar .boolean 0))) 25 (upd (F 25) (Int32.toNatClampNeg (n 11)) (vp_nar .boolean 0))) 26 (upd (F 26) (Int32.toNatClampNeg (n 11)) (vp_nar .boolean 0))) (upn n 11 z_30)) := hD
        refine lv_aload_n hx hb dX10_comes_154 rfl (lv_at hl 1 rfl) ?_
        refine va_get (D := (dC, dI)) (ci := 10) (v := .ref (X 27)) (C := RX10) (T := TX10) (N := 60) hx hb hg gb_10 hown hK hP 0 rfl rfl 27 (by decide) (hg _ gm_fieldLink_RX10_87_ErrandGuildModel_isAwaited_AZ_) (fun _ h9 => h9) rfl dX10_comes_155 ?_
        refine lv_iload_n hx hb dX10_comes_158 rfl (lv_at hl 0 rfl) ?_
        refine lv_iconst (v := 0) hx hb dX10_comes_159 (by decide) ?_
        refine va_zast hx hb hK hP hD hS 25 24 rfl rfl (vp_in_iff.mpr ⟨by omega, by omega⟩) dX10_comes_160 (fun H locs hP hD hS => ?_)
        have hP : va_P (dC, dI) vwCl (w10 h0 X C (upF (upF (upF (upF (upF (upF (upF (upF (upF (upF (upF (upF (upF (upF (upF F 13 (upd (F 13) (Int32.toNatClampNeg (n 11)) 0)) 14 (upd (F 14) (Int32.toNatClampNeg (n 11)) v1)) 15 (upd (F 15) (Int32.toNatClampNeg (n 11)) v2)) 16 (upd (F 16) (Int32.toNatClampNeg (n 11)) z_37)) 17 (upd (F 17) (Int32.toNatClampNeg (n 11)) z_41)) 18 (upd (F 18) (Int32.toNatClampNeg (n 11)) (-1))) 19 (upd (F 19) (Int32.toNatClampNeg (n 11)) 0)) 20 (upd (F 20) (Int32.toNatClampNeg (n 11)) 0)) 21 (upd (F 21) (Int32.toNatClampNeg (n 11)) z_47)) 22 (upd (F 22) (Int32.toNatClampNeg (n 11)) (-1))) 23 (upd (F 23) (Int32.toNatClampNeg (n 11)) 0)) 24 (upd (F 24) (Int32.toNatClampNeg (n 11)) (vp_nar .boolean 0))) 25 (upd (F 25) (Int32.toNatClampNeg (n 11)) (vp_nar .boolean 0))) 26 (upd (F 26) (Int32.toNatClampNeg (n 11)) (vp_nar .boolean 0))) 27 (upd (F 27) (Int32.toNatClampNeg (n 11)) (vp_nar .boolean 0))) (upn n 11 z_30)) H := hP
        have hD : va_D A (w10 h0 X C (upF (upF (upF (upF (upF (upF (upF (upF (upF (upF (upF (upF (upF (upF (upF F 13 (upd (F 13) (Int32.toNatClampNeg (n 11)) 0)) 14 (upd (F 14) (Int32.toNatClampNeg (n 11)) v1)) 15 (upd (F 15) (Int32.toNatClampNeg (n 11)) v2)) 16 (upd (F 16) (Int32.toNatClampNeg (n 11)) z_37)) 17 (upd (F 17) (Int32.toNatClampNeg (n 11)) z_41)) 18 (upd (F 18) (Int32.toNatClampNeg (n 11)) (-1))) 19 (upd (F 19) (Int32.toNatClampNeg (n 11)) 0)) 20 (upd (F 20) (Int32.toNatClampNeg (n 11)) 0)) 21 (upd (F 21) (Int32.toNatClampNeg (n 11)) z_47)) 22 (upd (F 22) (Int32.toNatClampNeg (n 11)) (-1))) 23 (upd (F 23) (Int32.toNatClampNeg (n 11)) 0)) 24 (upd (F 24) (Int32.toNatClampNeg (n 11)) (vp_nar .boolean 0))) 25 (upd (F 25) (Int32.toNatClampNeg (n 11)) (vp_nar .boolean 0))) 26 (upd (F 26) (Int32.toNatClampNeg (n 11)) (vp_nar .boolean 0))) 27 (upd (F 27) (Int32.toNatClampNeg (n 11)) (vp_nar .boolean 0))) (upn n 11 z_30)) := hD
        refine lv_aload_n hx hb dX10_comes_161 rfl (lv_at hl 1 rfl) ?_
        refine va_get (D := (dC, dI)) (ci := 10) (v := .ref (X 32)) (C := RX10) (T := TX10) (N := 60) hx hb hg gb_10 hown hK hP 0 rfl rfl 32 (by decide) (hg _ gm_fieldLink_RX10_102_ErrandGuildModel_isUncaught_AZ_) (fun _ h9 => h9) rfl dX10_comes_162 ?_
        refine lv_iload_n hx hb dX10_comes_165 rfl (lv_at hl 0 rfl) ?_
        refine lv_iconst (v := 0) hx hb dX10_comes_166 (by decide) ?_
        refine va_zast hx hb hK hP hD hS 30 29 rfl rfl (vp_in_iff.mpr ⟨by omega, by omega⟩) dX10_comes_167 (fun H locs hP hD hS => ?_)
        have hP : va_P (dC, dI) vwCl (w10 h0 X C (upF (upF (upF (upF (upF (upF (upF (upF (upF (upF (upF (upF (upF (upF (upF (upF F 13 (upd (F 13) (Int32.toNatClampNeg (n 11)) 0)) 14 (upd (F 14) (Int32.toNatClampNeg (n 11)) v1)) 15 (upd (F 15) (Int32.toNatClampNeg (n 11)) v2)) 16 (upd (F 16) (Int32.toNatClampNeg (n 11)) z_37)) 17 (upd (F 17) (Int32.toNatClampNeg (n 11)) z_41)) 18 (upd (F 18) (Int32.toNatClampNeg (n 11)) (-1))) 19 (upd (F 19) (Int32.toNatClampNeg (n 11)) 0)) 20 (upd (F 20) (Int32.toNatClampNeg (n 11)) 0)) 21 (upd (F 21) (Int32.toNatClampNeg (n 11)) z_47)) 22 (upd (F 22) (Int32.toNatClampNeg (n 11)) (-1))) 23 (upd (F 23) (Int32.toNatClampNeg (n 11)) 0)) 24 (upd (F 24) (Int32.toNatClampNeg (n 11)) (vp_nar .boolean 0))) 25 (upd (F 25) (Int32.toNatClampNeg (n 11)) (vp_nar .boolean 0))) 26 (upd (F 26) (Int32.toNatClampNeg (n 11)) (vp_nar .boolean 0))) 27 (upd (F 27) (Int32.toNatClampNeg (n 11)) (vp_nar .boolean 0))) 32 (upd (F 32) (Int32.toNatClampNeg (n 11)) (vp_nar .boolean 0))) (upn n 11 z_30)) H := hP
        have hD : va_D A (w10 h0 X C (upF (upF (upF (upF (upF (upF (upF (upF (upF (upF (upF (upF (upF (upF (upF (upF F 13 (upd (F 13) (Int32.toNatClampNeg (n 11)) 0)) 14 (upd (F 14) (Int32.toNatClampNeg (n 11)) v1)) 15 (upd (F 15) (Int32.toNatClampNeg (n 11)) v2)) 16 (upd (F 16) (Int32.toNatClampNeg (n 11)) z_37)) 17 (upd (F 17) (Int32.toNatClampNeg (n 11)) z_41)) 18 (upd (F 18) (Int32.toNatClampNeg (n 11)) (-1))) 19 (upd (F 19) (Int32.toNatClampNeg (n 11)) 0)) 20 (upd (F 20) (Int32.toNatClampNeg (n 11)) 0)) 21 (upd (F 21) (Int32.toNatClampNeg (n 11)) z_47)) 22 (upd (F 22) (Int32.toNatClampNeg (n 11)) (-1))) 23 (upd (F 23) (Int32.toNatClampNeg (n 11)) 0)) 24 (upd (F 24) (Int32.toNatClampNeg (n 11)) (vp_nar .boolean 0))) 25 (upd (F 25) (Int32.toNatClampNeg (n 11)) (vp_nar .boolean 0))) 26 (upd (F 26) (Int32.toNatClampNeg (n 11)) (vp_nar .boolean 0))) 27 (upd (F 27) (Int32.toNatClampNeg (n 11)) (vp_nar .boolean 0))) 32 (upd (F 32) (Int32.toNatClampNeg (n 11)) (vp_nar .boolean 0))) (upn n 11 z_30)) := hD
        have j_49 : J8 (upd (F 32) (Int32.toNatClampNeg (n 11)) (vp_nar .boolean 0)) (upd (F 13) (Int32.toNatClampNeg (n 11)) 0) := J8_both j_28 (Int32.toNatClampNeg (n 11)) (Or.inl (by rw [nb0]; decide))
        have j_50 : J6 (upd (F 32) (Int32.toNatClampNeg (n 11)) (vp_nar .boolean 0)) (n 47) z_30 := J6_new j_26 (by omega) (by omega) rfl nb0
        refine lv_aload_n hx hb dX10_comes_168 rfl (lv_at hl 1 rfl) ?_
        refine va_get (D := (dC, dI)) (ci := 10) (v := .ref (X 36)) (C := RX10) (T := TX10) (N := 60) hx hb hg gb_10 hown hK hP 0 rfl rfl 36 (by decide) (hg _ gm_fieldLink_RX10_114_ErrandGuildModel_bindMany_AI_) (fun _ h9 => h9) rfl dX10_comes_169 ?_
        refine lv_iload_n hx hb dX10_comes_172 rfl (lv_at hl 0 rfl) ?_
        refine lv_iconst (v := 0) hx hb dX10_comes_173 (by decide) ?_
        refine va_iast hx hb hK hP hD hS 34 33 rfl rfl (vp_in_iff.mpr ⟨by omega, by omega⟩) dX10_comes_174 (fun H locs hP hD hS => ?_)
        have hP : va_P (dC, dI) vwCl (w10 h0 X C (upF (upF (upF (upF (upF (upF (upF (upF (upF (upF (upF (upF (upF (upF (upF (upF (upF F 13 (upd (F 13) (Int32.toNatClampNeg (n 11)) 0)) 14 (upd (F 14) (Int32.toNatClampNeg (n 11)) v1)) 15 (upd (F 15) (Int32.toNatClampNeg (n 11)) v2)) 16 (upd (F 16) (Int32.toNatClampNeg (n 11)) z_37)) 17 (upd (F 17) (Int32.toNatClampNeg (n 11)) z_41)) 18 (upd (F 18) (Int32.toNatClampNeg (n 11)) (-1))) 19 (upd (F 19) (Int32.toNatClampNeg (n 11)) 0)) 20 (upd (F 20) (Int32.toNatClampNeg (n 11)) 0)) 21 (upd (F 21) (Int32.toNatClampNeg (n 11)) z_47)) 22 (upd (F 22) (Int32.toNatClampNeg (n 11)) (-1))) 23 (upd (F 23) (Int32.toNatClampNeg (n 11)) 0)) 24 (upd (F 24) (Int32.toNatClampNeg (n 11)) (vp_nar .boolean 0))) 25 (upd (F 25) (Int32.toNatClampNeg (n 11)) (vp_nar .boolean 0))) 26 (upd (F 26) (Int32.toNatClampNeg (n 11)) (vp_nar .boolean 0))) 27 (upd (F 27) (Int32.toNatClampNeg (n 11)) (vp_nar .boolean 0))) 32 (upd (F 32) (Int32.toNatClampNeg (n 11)) (vp_nar .boolean 0))) 36 (upd (F 36) (Int32.toNatClampNeg (n 11)) 0)) (upn n 11 z_30)) H := hP
        have hD : va_D A (w10 h0 X C (upF (upF (upF (upF (upF (upF (upF (upF (upF (upF (upF (upF (upF (upF (upF (upF (upF F 13 (upd (F 13) (Int32.toNatClampNeg (n 11)) 0)) 14 (upd (F 14) (Int32.toNatClampNeg (n 11)) v1)) 15 (upd (F 15) (Int32.toNatClampNeg (n 11)) v2)) 16 (upd (F 16) (Int32.toNatClampNeg (n 11)) z_37)) 17 (upd (F 17) (Int32.toNatClampNeg (n 11)) z_41)) 18 (upd (F 18) (Int32.toNatClampNeg (n 11)) (-1))) 19 (upd (F 19) (Int32.toNatClampNeg (n 11)) 0)) 20 (upd (F 20) (Int32.toNatClampNeg (n 11)) 0)) 21 (upd (F 21) (Int32.toNatClampNeg (n 11)) z_47)) 22 (upd (F 22) (Int32.toNatClampNeg (n 11)) (-1))) 23 (upd (F 23) (Int32.toNatClampNeg (n 11)) 0)) 24 (upd (F 24) (Int32.toNatClampNeg (n 11)) (vp_nar .boolean 0))) 25 (upd (F 25) (Int32.toNatClampNeg (n 11)) (vp_nar .boolean 0))) 26 (upd (F 26) (Int32.toNatClampNeg (n 11)) (vp_nar .boolean 0))) 27 (upd (F 27) (Int32.toNatClampNeg (n 11)) (vp_nar .boolean 0))) 32 (upd (F 32) (Int32.toNatClampNeg (n 11)) (vp_nar .boolean 0))) 36 (upd (F 36) (Int32.toNatClampNeg (n 11)) 0)) (upn n 11 z_30)) := hD
        have b_51 := bd_upd b_10 (Int32.toNatClampNeg (n 11)) (x := 0) (by have t_ := ti_0; omega) (by have t_ := ti_0; omega)
        have j_52 : J2 (upd (F 36) (Int32.toNatClampNeg (n 11)) 0) (upd (F 20) (Int32.toNatClampNeg (n 11)) 0) := J2_both j_23 (Int32.toNatClampNeg (n 11)) (Int.le_refl _)
        have j_53 : J5 (F 39) (upd (F 36) (Int32.toNatClampNeg (n 11)) 0) (F 41) (F 43) (F 42) := J5_bm j_25 (Int32.toNatClampNeg (n 11)) (Or.inr (by have t_0 := ti_0; omega))
        refine lv_aload_n hx hb dX10_comes_175 rfl (lv_at hl 1 rfl) ?_
        refine va_get (D := (dC, dI)) (ci := 10) (v := .ref (X 39)) (C := RX10) (T := TX10) (N := 60) hx hb hg gb_10 hown hK hP 0 rfl rfl 39 (by decide) (hg _ gm_fieldLink_RX10_123_ErrandGuildModel_tryMany_AI_) (fun _ h9 => h9) rfl dX10_comes_176 ?_
        refine lv_iload_n hx hb dX10_comes_179 rfl (lv_at hl 0 rfl) ?_
        refine lv_iconst (v := 0) hx hb dX10_comes_180 (by decide) ?_
        refine va_iast hx hb hK hP hD hS 37 36 rfl rfl (vp_in_iff.mpr ⟨by omega, by omega⟩) dX10_comes_181 (fun H locs hP hD hS => ?_)
        have hP : va_P (dC, dI) vwCl (w10 h0 X C (upF (upF (upF (upF (upF (upF (upF (upF (upF (upF (upF (upF (upF (upF (upF (upF (upF (upF F 13 (upd (F 13) (Int32.toNatClampNeg (n 11)) 0)) 14 (upd (F 14) (Int32.toNatClampNeg (n 11)) v1)) 15 (upd (F 15) (Int32.toNatClampNeg (n 11)) v2)) 16 (upd (F 16) (Int32.toNatClampNeg (n 11)) z_37)) 17 (upd (F 17) (Int32.toNatClampNeg (n 11)) z_41)) 18 (upd (F 18) (Int32.toNatClampNeg (n 11)) (-1))) 19 (upd (F 19) (Int32.toNatClampNeg (n 11)) 0)) 20 (upd (F 20) (Int32.toNatClampNeg (n 11)) 0)) 21 (upd (F 21) (Int32.toNatClampNeg (n 11)) z_47)) 22 (upd (F 22) (Int32.toNatClampNeg (n 11)) (-1))) 23 (upd (F 23) (Int32.toNatClampNeg (n 11)) 0)) 24 (upd (F 24) (Int32.toNatClampNeg (n 11)) (vp_nar .boolean 0))) 25 (upd (F 25) (Int32.toNatClampNeg (n 11)) (vp_nar .boolean 0))) 26 (upd (F 26) (Int32.toNatClampNeg (n 11)) (vp_nar .boolean 0))) 27 (upd (F 27) (Int32.toNatClampNeg (n 11)) (vp_nar .boolean 0))) 32 (upd (F 32) (Int32.toNatClampNeg (n 11)) (vp_nar .boolean 0))) 36 (upd (F 36) (Int32.toNatClampNeg (n 11)) 0)) 39 (upd (F 39) (Int32.toNatClampNeg (n 11)) 0)) (upn n 11 z_30)) H := hP
        have hD : va_D A (w10 h0 X C (upF (upF (upF (upF (upF (upF (upF (upF (upF (upF (upF (upF (upF (upF (upF (upF (upF (upF F 13 (upd (F 13) (Int32.toNatClampNeg (n 11)) 0)) 14 (upd (F 14) (Int32.toNatClampNeg (n 11)) v1)) 15 (upd (F 15) (Int32.toNatClampNeg (n 11)) v2)) 16 (upd (F 16) (Int32.toNatClampNeg (n 11)) z_37)) 17 (upd (F 17) (Int32.toNatClampNeg (n 11)) z_41)) 18 (upd (F 18) (Int32.toNatClampNeg (n 11)) (-1))) 19 (upd (F 19) (Int32.toNatClampNeg (n 11)) 0)) 20 (upd (F 20) (Int32.toNatClampNeg (n 11)) 0)) 21 (upd (F 21) (Int32.toNatClampNeg (n 11)) z_47)) 22 (upd (F 22) (Int32.toNatClampNeg (n 11)) (-1))) 23 (upd (F 23) (Int32.toNatClampNeg (n 11)) 0)) 24 (upd (F 24) (Int32.toNatClampNeg (n 11)) (vp_nar .boolean 0))) 25 (upd (F 25) (Int32.toNatClampNeg (n 11)) (vp_nar .boolean 0))) 26 (upd (F 26) (Int32.toNatClampNeg (n 11)) (vp_nar .boolean 0))) 27 (upd (F 27) (Int32.toNatClampNeg (n 11)) (vp_nar .boolean 0))) 32 (upd (F 32) (Int32.toNatClampNeg (n 11)) (vp_nar .boolean 0))) 36 (upd (F 36) (Int32.toNatClampNeg (n 11)) 0)) 39 (upd (F 39) (Int32.toNatClampNeg (n 11)) 0)) (upn n 11 z_30)) := hD
        have b_54 := bd_upd b_11 (Int32.toNatClampNeg (n 11)) (x := 0) (by have t_ := ti_0; omega) (by have t_ := ti_0; omega)
        have j_55 : J2 (upd (F 39) (Int32.toNatClampNeg (n 11)) 0) (upd (F 20) (Int32.toNatClampNeg (n 11)) 0) := J2_both j_22 (Int32.toNatClampNeg (n 11)) (Int.le_refl _)
        have j_56 : J4 (upd (F 39) (Int32.toNatClampNeg (n 11)) 0) (F 41) := J4_tm j_24 (Int32.toNatClampNeg (n 11)) (Or.inr (by have t_0 := ti_0; omega))
        have j_57 : J5 (upd (F 39) (Int32.toNatClampNeg (n 11)) 0) (upd (F 36) (Int32.toNatClampNeg (n 11)) 0) (F 41) (F 43) (F 42) := J5_tm j_53 (Int32.toNatClampNeg (n 11)) (Or.inr (by have t_0 := ti_0; omega))
        refine lv_iconst (v := 0) hx hb dX10_comes_182 (by decide) ?_
        refine lv_istore (lv' := [(4, .int 0), (3, .int (n 11)), (0, .ref h0), (1, .int v1), (2, .int v2)]) hx hb dX10_comes_183 hl (by decide) rfl (fun ls hl => ?_)
        have L185 : ∀ (fuel : Nat) (x_58 : Int32) (f_59 : Nat → Int32) (f_60 : Nat → Int32) (H : Heap) (locs : List Loc) (ls : Array Slot), (9 - x_58.toInt).toNat < fuel → 0 ≤ x_58.toInt ∧ x_58.toInt ≤ 8 → va_P (dC, dI) vwCl (w10 h0 X C (upF (upF (upF (upF (upF (upF (upF (upF (upF (upF (upF (upF (upF (upF (upF (upF (upF (upF (upF (upF F 13 (upd (F 13) (Int32.toNatClampNeg (n 11)) 0)) 14 (upd (F 14) (Int32.toNatClampNeg (n 11)) v1)) 15 (upd (F 15) (Int32.toNatClampNeg (n 11)) v2)) 16 (upd (F 16) (Int32.toNatClampNeg (n 11)) z_37)) 17 (upd (F 17) (Int32.toNatClampNeg (n 11)) z_41)) 18 (upd (F 18) (Int32.toNatClampNeg (n 11)) (-1))) 19 (upd (F 19) (Int32.toNatClampNeg (n 11)) 0)) 20 (upd (F 20) (Int32.toNatClampNeg (n 11)) 0)) 21 (upd (F 21) (Int32.toNatClampNeg (n 11)) z_47)) 22 (upd (F 22) (Int32.toNatClampNeg (n 11)) (-1))) 23 (upd (F 23) (Int32.toNatClampNeg (n 11)) 0)) 24 (upd (F 24) (Int32.toNatClampNeg (n 11)) (vp_nar .boolean 0))) 25 (upd (F 25) (Int32.toNatClampNeg (n 11)) (vp_nar .boolean 0))) 26 (upd (F 26) (Int32.toNatClampNeg (n 11)) (vp_nar .boolean 0))) 27 (upd (F 27) (Int32.toNatClampNeg (n 11)) (vp_nar .boolean 0))) 32 (upd (F 32) (Int32.toNatClampNeg (n 11)) (vp_nar .boolean 0))) 33 f_59) 35 f_60) 36 (upd (F 36) (Int32.toNatClampNeg (n 11)) 0)) 39 (upd (F 39) (Int32.toNatClampNeg (n 11)) 0)) (upn n 11 z_30)) H → va_D A (w10 h0 X C (upF (upF (upF (upF (upF (upF (upF (upF (upF (upF (upF (upF (upF (upF (upF (upF (upF (upF (upF (upF F 13 (upd (F 13) (Int32.toNatClampNeg (n 11)) 0)) 14 (upd (F 14) (Int32.toNatClampNeg (n 11)) v1)) 15 (upd (F 15) (Int32.toNatClampNeg (n 11)) v2)) 16 (upd (F 16) (Int32.toNatClampNeg (n 11)) z_37)) 17 (upd (F 17) (Int32.toNatClampNeg (n 11)) z_41)) 18 (upd (F 18) (Int32.toNatClampNeg (n 11)) (-1))) 19 (upd (F 19) (Int32.toNatClampNeg (n 11)) 0)) 20 (upd (F 20) (Int32.toNatClampNeg (n 11)) 0)) 21 (upd (F 21) (Int32.toNatClampNeg (n 11)) z_47)) 22 (upd (F 22) (Int32.toNatClampNeg (n 11)) (-1))) 23 (upd (F 23) (Int32.toNatClampNeg (n 11)) 0)) 24 (upd (F 24) (Int32.toNatClampNeg (n 11)) (vp_nar .boolean 0))) 25 (upd (F 25) (Int32.toNatClampNeg (n 11)) (vp_nar .boolean 0))) 26 (upd (F 26) (Int32.toNatClampNeg (n 11)) (vp_nar .boolean 0))) 27 (upd (F 27) (Int32.toNatClampNeg (n 11)) (vp_nar .boolean 0))) 32 (upd (F 32) (Int32.toNatClampNeg (n 11)) (vp_nar .boolean 0))) 33 f_59) 35 f_60) 36 (upd (F 36) (Int32.toNatClampNeg (n 11)) 0)) 39 (upd (F 39) (Int32.toNatClampNeg (n 11)) 0)) (upn n 11 z_30)) → va_S A s.heap H locs → lv_has ls 5 [(4, .int x_58), (3, .int (n 11)), (0, .ref h0), (1, .int v1), (2, .int v2)] → W p l e (headSpec (.code yX10_comes cX10_comes 5 (some .int) :: gw) ({ frames := 2, cells := 0, slots := 0, locals := 47 })).room s m ([.ref h0, .int v1, .int v2] : List Value).toArray below meth c H locs 0 0 (MQ below (va_Qi (fun (r : Int32) (u : (Nat → Nat → Int32) × (Nat → Int32)) => 0 ≤ r.toInt ∧ r.toInt < 200 ∧ (∀ j : Nat, (j : Int) < (n 11).toInt → (u.1 13 j).toInt = (F 13 j).toInt ∧ (u.1 20 j).toInt = (F 20 j).toInt ∧ (u.1 24 j).toInt = (F 24 j).toInt) ∧ (u.2 11).toInt = (n 11).toInt + 1) (fun u t => va_P (dC, dI) vwCl (w10 h0 X C u.1 u.2) t.heap ∧ va_D A (w10 h0 X C u.1 u.2) ∧ I10 kp u.1 u.2) A) ([.ref h0, .int v1, .int v2] : List Value).toArray s 0 0 A) (F0 m 185 ls []) := by
          intro fuel
          induction fuel with
          | zero => intro x_58 f_59 f_60 H locs ls hm; exact absurd hm (Nat.not_lt_zero _)
          | succ fuel_62 ih_61 =>
            intro x_58 f_59 f_60 H locs ls hm_64 v_63 hP hD hS hl
            refine lv_iload hx hb dX10_comes_185 (lv_at hl 0 rfl) ?_
            refine lv_bipush (v := 8) hx hb dX10_comes_187 (by decide) ?_
            refine lv_icmp_ge (tgt := 245) hx hb dX10_comes_189 (by decide) (fun c_65 => ?_) (fun c_65 => ?_)
            · simp only [i_lt, i_le, i_eq, ti_8] at c_65
              refine lv_iload_n hx hb dX10_comes_245 rfl (lv_at hl 1 rfl) ?_
              exact W.iret (v := n 11) hx hb hr (fun t ht hW => ⟨⟨n 11, ((upF (upF (upF (upF (upF (upF (upF (upF (upF (upF (upF (upF (upF (upF (upF (upF (upF (upF (upF (upF F 13 (upd (F 13) (Int32.toNatClampNeg (n 11)) 0)) 14 (upd (F 14) (Int32.toNatClampNeg (n 11)) v1)) 15 (upd (F 15) (Int32.toNatClampNeg (n 11)) v2)) 16 (upd (F 16) (Int32.toNatClampNeg (n 11)) z_37)) 17 (upd (F 17) (Int32.toNatClampNeg (n 11)) z_41)) 18 (upd (F 18) (Int32.toNatClampNeg (n 11)) (-1))) 19 (upd (F 19) (Int32.toNatClampNeg (n 11)) 0)) 20 (upd (F 20) (Int32.toNatClampNeg (n 11)) 0)) 21 (upd (F 21) (Int32.toNatClampNeg (n 11)) z_47)) 22 (upd (F 22) (Int32.toNatClampNeg (n 11)) (-1))) 23 (upd (F 23) (Int32.toNatClampNeg (n 11)) 0)) 24 (upd (F 24) (Int32.toNatClampNeg (n 11)) (vp_nar .boolean 0))) 25 (upd (F 25) (Int32.toNatClampNeg (n 11)) (vp_nar .boolean 0))) 26 (upd (F 26) (Int32.toNatClampNeg (n 11)) (vp_nar .boolean 0))) 27 (upd (F 27) (Int32.toNatClampNeg (n 11)) (vp_nar .boolean 0))) 32 (upd (F 32) (Int32.toNatClampNeg (n 11)) (vp_nar .boolean 0))) 33 f_59) 35 f_60) 36 (upd (F 36) (Int32.toNatClampNeg (n 11)) 0)) 39 (upd (F 39) (Int32.toNatClampNeg (n 11)) 0)), (upn n 11 z_30)), rfl, ⟨by omega, by omega, fun j hj => ⟨by show ((upd (F 13) (Int32.toNatClampNeg (n 11)) 0) j).toInt = (F 13 j).toInt; rw [upd_ne _ _ _ _ (by have ce := cl_eq (n 11); omega)], by show ((upd (F 20) (Int32.toNatClampNeg (n 11)) 0) j).toInt = (F 20 j).toInt; rw [upd_ne _ _ _ _ (by have ce := cl_eq (n 11); omega)], by show ((upd (F 24) (Int32.toNatClampNeg (n 11)) (vp_nar .boolean 0)) j).toInt = (F 24 j).toInt; rw [upd_ne _ _ _ _ (by have ce := cl_eq (n 11); omega)]⟩, by show z_30.toInt = (n 11).toInt + 1; omega⟩, by rw [ht]; exact hP, hD, ⟨b_1, b_2, b_32, b_34, b_35, b_38, b_42, b_44, b_9, b_51, b_54, b_12, i_13, i_31, i_15, i_16, i_17, i_18, i_19, j_20, j_43, j_55, j_52, j_56, j_57, j_50, j_48, j_49, j_29⟩⟩, hS.F ht⟩) hS.2.2 dX10_comes_246
            · simp only [i_lt, i_le, i_eq, ti_8] at c_65
              refine lv_aload_n hx hb dX10_comes_192 rfl (lv_at hl 2 rfl) ?_
              refine va_get (D := (dC, dI)) (ci := 10) (v := .ref (X 35)) (C := RX10) (T := TX10) (N := 60) hx hb hg gb_10 hown hK hP 0 rfl rfl 35 (by decide) (hg _ gm_fieldLink_RX10_111_ErrandGuildModel_hasWritten_AZ_) (fun _ h9 => h9) rfl dX10_comes_193 ?_
              refine lv_bipush (v := 8) hx hb dX10_comes_196 (by decide) ?_
              refine lv_iload_n hx hb dX10_comes_198 rfl (lv_at hl 1 rfl) ?_
              refine lv_imul hx hb dX10_comes_199 ?_
              refine lv_topi (fun z_66 ez_66 => ?_)
              have tz_66 : z_66.toInt = 8 * (n 11).toInt := ar_mul ti_8 rfl ez_66 (by omega)
              refine lv_iload hx hb dX10_comes_200 (lv_at hl 0 rfl) ?_
              refine lv_iadd hx hb dX10_comes_202 ?_
              refine lv_topi (fun z_67 ez_67 => ?_)
              have tz_67 : z_67.toInt = z_66.toInt + x_58.toInt := ar_add rfl rfl ez_67 (by omega)
              refine lv_iconst (v := 0) hx hb dX10_comes_203 (by decide) ?_
              refine va_zast hx hb hK hP hD hS 33 32 rfl rfl (vp_in_iff.mpr ⟨by omega, by omega⟩) dX10_comes_204 (fun H locs hP hD hS => ?_)
              have hP : va_P (dC, dI) vwCl (w10 h0 X C (upF (upF (upF (upF (upF (upF (upF (upF (upF (upF (upF (upF (upF (upF (upF (upF (upF (upF (upF (upF F 13 (upd (F 13) (Int32.toNatClampNeg (n 11)) 0)) 14 (upd (F 14) (Int32.toNatClampNeg (n 11)) v1)) 15 (upd (F 15) (Int32.toNatClampNeg (n 11)) v2)) 16 (upd (F 16) (Int32.toNatClampNeg (n 11)) z_37)) 17 (upd (F 17) (Int32.toNatClampNeg (n 11)) z_41)) 18 (upd (F 18) (Int32.toNatClampNeg (n 11)) (-1))) 19 (upd (F 19) (Int32.toNatClampNeg (n 11)) 0)) 20 (upd (F 20) (Int32.toNatClampNeg (n 11)) 0)) 21 (upd (F 21) (Int32.toNatClampNeg (n 11)) z_47)) 22 (upd (F 22) (Int32.toNatClampNeg (n 11)) (-1))) 23 (upd (F 23) (Int32.toNatClampNeg (n 11)) 0)) 24 (upd (F 24) (Int32.toNatClampNeg (n 11)) (vp_nar .boolean 0))) 25 (upd (F 25) (Int32.toNatClampNeg (n 11)) (vp_nar .boolean 0))) 26 (upd (F 26) (Int32.toNatClampNeg (n 11)) (vp_nar .boolean 0))) 27 (upd (F 27) (Int32.toNatClampNeg (n 11)) (vp_nar .boolean 0))) 32 (upd (F 32) (Int32.toNatClampNeg (n 11)) (vp_nar .boolean 0))) 33 f_59) 35 (upd f_60 (Int32.toNatClampNeg z_67) (vp_nar .boolean 0))) 36 (upd (F 36) (Int32.toNatClampNeg (n 11)) 0)) 39 (upd (F 39) (Int32.toNatClampNeg (n 11)) 0)) (upn n 11 z_30)) H := hP
              have hD : va_D A (w10 h0 X C (upF (upF (upF (upF (upF (upF (upF (upF (upF (upF (upF (upF (upF (upF (upF (upF (upF (upF (upF (upF F 13 (upd (F 13) (Int32.toNatClampNeg (n 11)) 0)) 14 (upd (F 14) (Int32.toNatClampNeg (n 11)) v1)) 15 (upd (F 15) (Int32.toNatClampNeg (n 11)) v2)) 16 (upd (F 16) (Int32.toNatClampNeg (n 11)) z_37)) 17 (upd (F 17) (Int32.toNatClampNeg (n 11)) z_41)) 18 (upd (F 18) (Int32.toNatClampNeg (n 11)) (-1))) 19 (upd (F 19) (Int32.toNatClampNeg (n 11)) 0)) 20 (upd (F 20) (Int32.toNatClampNeg (n 11)) 0)) 21 (upd (F 21) (Int32.toNatClampNeg (n 11)) z_47)) 22 (upd (F 22) (Int32.toNatClampNeg (n 11)) (-1))) 23 (upd (F 23) (Int32.toNatClampNeg (n 11)) 0)) 24 (upd (F 24) (Int32.toNatClampNeg (n 11)) (vp_nar .boolean 0))) 25 (upd (F 25) (Int32.toNatClampNeg (n 11)) (vp_nar .boolean 0))) 26 (upd (F 26) (Int32.toNatClampNeg (n 11)) (vp_nar .boolean 0))) 27 (upd (F 27) (Int32.toNatClampNeg (n 11)) (vp_nar .boolean 0))) 32 (upd (F 32) (Int32.toNatClampNeg (n 11)) (vp_nar .boolean 0))) 33 f_59) 35 (upd f_60 (Int32.toNatClampNeg z_67) (vp_nar .boolean 0))) 36 (upd (F 36) (Int32.toNatClampNeg (n 11)) 0)) 39 (upd (F 39) (Int32.toNatClampNeg (n 11)) 0)) (upn n 11 z_30)) := hD
              refine lv_aload_n hx hb dX10_comes_205 rfl (lv_at hl 2 rfl) ?_
              refine va_get (D := (dC, dI)) (ci := 10) (v := .ref (X 33)) (C := RX10) (T := TX10) (N := 60) hx hb hg gb_10 hown hK hP 0 rfl rfl 33 (by decide) (hg _ gm_fieldLink_RX10_105_ErrandGuildModel_kept_AI_) (fun _ h9 => h9) rfl dX10_comes_206 ?_
              refine lv_bipush (v := 8) hx hb dX10_comes_209 (by decide) ?_
              refine lv_iload_n hx hb dX10_comes_211 rfl (lv_at hl 1 rfl) ?_
              refine lv_imul hx hb dX10_comes_212 ?_
              refine lv_topi (fun z_68 ez_68 => ?_)
              have tz_68 : z_68.toInt = 8 * (n 11).toInt := ar_mul ti_8 rfl ez_68 (by omega)
              refine lv_iload hx hb dX10_comes_213 (lv_at hl 0 rfl) ?_
              refine lv_iadd hx hb dX10_comes_215 ?_
              refine lv_topi (fun z_69 ez_69 => ?_)
              have tz_69 : z_69.toInt = z_68.toInt + x_58.toInt := ar_add rfl rfl ez_69 (by omega)
              refine lv_iload_n hx hb dX10_comes_216 rfl (lv_at hl 4 rfl) ?_
              refine lv_iconst (v := -1) hx hb dX10_comes_217 (by decide) ?_
              refine lv_icmp_ne (tgt := 231) hx hb dX10_comes_218 (by decide) (fun c_70 => ?_) (fun c_70 => ?_)
              · simp only [i_lt, i_le, i_eq, ti_m1] at c_70
                refine lv_aload_n hx hb dX10_comes_231 rfl (lv_at hl 2 rfl) ?_
                refine lv_iload_n hx hb dX10_comes_232 rfl (lv_at hl 4 rfl) ?_
                refine lv_iload hx hb dX10_comes_233 (lv_at hl 0 rfl) ?_
                have hFc := free_all hD hS hA
                refine va_calli (va_runV (As := [.int v2, .int x_58]) (rest := [.int z_69, .ref (X 33)]) ⟨hx, hb, hml, hown, hg⟩ (c_X10_reads l dC dI kp h0 X C (upF (upF (upF (upF (upF (upF (upF (upF (upF (upF (upF (upF (upF (upF (upF (upF (upF (upF (upF (upF F 13 (upd (F 13) (Int32.toNatClampNeg (n 11)) 0)) 14 (upd (F 14) (Int32.toNatClampNeg (n 11)) v1)) 15 (upd (F 15) (Int32.toNatClampNeg (n 11)) v2)) 16 (upd (F 16) (Int32.toNatClampNeg (n 11)) z_37)) 17 (upd (F 17) (Int32.toNatClampNeg (n 11)) z_41)) 18 (upd (F 18) (Int32.toNatClampNeg (n 11)) (-1))) 19 (upd (F 19) (Int32.toNatClampNeg (n 11)) 0)) 20 (upd (F 20) (Int32.toNatClampNeg (n 11)) 0)) 21 (upd (F 21) (Int32.toNatClampNeg (n 11)) z_47)) 22 (upd (F 22) (Int32.toNatClampNeg (n 11)) (-1))) 23 (upd (F 23) (Int32.toNatClampNeg (n 11)) 0)) 24 (upd (F 24) (Int32.toNatClampNeg (n 11)) (vp_nar .boolean 0))) 25 (upd (F 25) (Int32.toNatClampNeg (n 11)) (vp_nar .boolean 0))) 26 (upd (F 26) (Int32.toNatClampNeg (n 11)) (vp_nar .boolean 0))) 27 (upd (F 27) (Int32.toNatClampNeg (n 11)) (vp_nar .boolean 0))) 32 (upd (F 32) (Int32.toNatClampNeg (n 11)) (vp_nar .boolean 0))) 33 f_59) 35 (upd f_60 (Int32.toNatClampNeg z_67) (vp_nar .boolean 0))) 36 (upd (F 36) (Int32.toNatClampNeg (n 11)) 0)) 39 (upd (F 39) (Int32.toNatClampNeg (n 11)) 0)) (upn n 11 z_30) v2 x_58 H.size ⟨b_1, b_2, b_32, b_34, b_35, b_38, b_42, b_44, b_9, b_51, b_54, b_12, i_13, i_31, i_15, i_16, i_17, i_18, i_19, j_20, j_43, j_55, j_52, j_56, j_57, j_50, j_48, j_49, j_29⟩ (by omega) (by omega)) (cwV 2 hg (gw_V gm_methodLink_RX10_201_yX10_reads gm_instanceMethod_yX10_reads gm_selects_RX10_yX10_reads_yX10_reads gm_initialized_RX10 gm_code_yX10_reads_cX10_reads_5_some_int_) rfl rfl rfl (by decide +kernel) ⟨Nat.le_of_ble_eq_true rfl, Nat.le_of_ble_eq_true rfl⟩) ⟨fun a U g mk q => by obtain ⟨q0, q1, qP, qK, qD, qN⟩ := q; exact ⟨q0, q1, qP, va_K.moved (u := U) (U := U.calling g mk a) (Vm.Alike.refl U.vm) qK, qD, nx_same (u := U) (U := U.calling g mk a) rfl qN⟩, va_recv hK hP (ci := 10) (q0 := 0) rfl rfl, fun U hU hW => ⟨rfl, by rw [hU], by rw [hU]; exact hP, va_K.moved hW.alike hK, hD.weaken (fun _ _ _ _ => trivial), nx_warm hW hN⟩⟩ rfl rfl hl.1 rfl (lv_room (Nat.le_of_ble_eq_true rfl)) dX10_comes_235 ⟨Nat.le_of_ble_eq_true rfl, Nat.le_of_ble_eq_true rfl⟩) hS (fun q _ h => hFc q h) hFc (fun r_71 u_72 t H1 locs ht hvm hw hB hz1 hk1 hS => ?_)
                obtain ⟨hP, hD⟩ := hB
                rw [ht] at hP
                have hD := hD.weaken (fun k q _ h => hFc _ h)
                generalize H1 = H at hP hS ⊢
                have hP : va_P (dC, dI) vwCl (w10 h0 X C (upF (upF (upF (upF (upF (upF (upF (upF (upF (upF (upF (upF (upF (upF (upF (upF (upF (upF (upF (upF F 13 (upd (F 13) (Int32.toNatClampNeg (n 11)) 0)) 14 (upd (F 14) (Int32.toNatClampNeg (n 11)) v1)) 15 (upd (F 15) (Int32.toNatClampNeg (n 11)) v2)) 16 (upd (F 16) (Int32.toNatClampNeg (n 11)) z_37)) 17 (upd (F 17) (Int32.toNatClampNeg (n 11)) z_41)) 18 (upd (F 18) (Int32.toNatClampNeg (n 11)) (-1))) 19 (upd (F 19) (Int32.toNatClampNeg (n 11)) 0)) 20 (upd (F 20) (Int32.toNatClampNeg (n 11)) 0)) 21 (upd (F 21) (Int32.toNatClampNeg (n 11)) z_47)) 22 (upd (F 22) (Int32.toNatClampNeg (n 11)) (-1))) 23 (upd (F 23) (Int32.toNatClampNeg (n 11)) 0)) 24 (upd (F 24) (Int32.toNatClampNeg (n 11)) (vp_nar .boolean 0))) 25 (upd (F 25) (Int32.toNatClampNeg (n 11)) (vp_nar .boolean 0))) 26 (upd (F 26) (Int32.toNatClampNeg (n 11)) (vp_nar .boolean 0))) 27 (upd (F 27) (Int32.toNatClampNeg (n 11)) (vp_nar .boolean 0))) 32 (upd (F 32) (Int32.toNatClampNeg (n 11)) (vp_nar .boolean 0))) 33 f_59) 35 (upd f_60 (Int32.toNatClampNeg z_67) (vp_nar .boolean 0))) 36 (upd (F 36) (Int32.toNatClampNeg (n 11)) 0)) 39 (upd (F 39) (Int32.toNatClampNeg (n 11)) 0)) (upn n 11 z_30)) H := hP
                have hD : va_D A (w10 h0 X C (upF (upF (upF (upF (upF (upF (upF (upF (upF (upF (upF (upF (upF (upF (upF (upF (upF (upF (upF (upF F 13 (upd (F 13) (Int32.toNatClampNeg (n 11)) 0)) 14 (upd (F 14) (Int32.toNatClampNeg (n 11)) v1)) 15 (upd (F 15) (Int32.toNatClampNeg (n 11)) v2)) 16 (upd (F 16) (Int32.toNatClampNeg (n 11)) z_37)) 17 (upd (F 17) (Int32.toNatClampNeg (n 11)) z_41)) 18 (upd (F 18) (Int32.toNatClampNeg (n 11)) (-1))) 19 (upd (F 19) (Int32.toNatClampNeg (n 11)) 0)) 20 (upd (F 20) (Int32.toNatClampNeg (n 11)) 0)) 21 (upd (F 21) (Int32.toNatClampNeg (n 11)) z_47)) 22 (upd (F 22) (Int32.toNatClampNeg (n 11)) (-1))) 23 (upd (F 23) (Int32.toNatClampNeg (n 11)) 0)) 24 (upd (F 24) (Int32.toNatClampNeg (n 11)) (vp_nar .boolean 0))) 25 (upd (F 25) (Int32.toNatClampNeg (n 11)) (vp_nar .boolean 0))) 26 (upd (F 26) (Int32.toNatClampNeg (n 11)) (vp_nar .boolean 0))) 27 (upd (F 27) (Int32.toNatClampNeg (n 11)) (vp_nar .boolean 0))) 32 (upd (F 32) (Int32.toNatClampNeg (n 11)) (vp_nar .boolean 0))) 33 f_59) 35 (upd f_60 (Int32.toNatClampNeg z_67) (vp_nar .boolean 0))) 36 (upd (F 36) (Int32.toNatClampNeg (n 11)) 0)) 39 (upd (F 39) (Int32.toNatClampNeg (n 11)) 0)) (upn n 11 z_30)) := hD
                refine va_iast hx hb hK hP hD hS 31 30 rfl rfl (vp_in_iff.mpr ⟨by omega, by omega⟩) dX10_comes_238 (fun H locs hP hD hS => ?_)
                have hP : va_P (dC, dI) vwCl (w10 h0 X C (upF (upF (upF (upF (upF (upF (upF (upF (upF (upF (upF (upF (upF (upF (upF (upF (upF (upF (upF (upF F 13 (upd (F 13) (Int32.toNatClampNeg (n 11)) 0)) 14 (upd (F 14) (Int32.toNatClampNeg (n 11)) v1)) 15 (upd (F 15) (Int32.toNatClampNeg (n 11)) v2)) 16 (upd (F 16) (Int32.toNatClampNeg (n 11)) z_37)) 17 (upd (F 17) (Int32.toNatClampNeg (n 11)) z_41)) 18 (upd (F 18) (Int32.toNatClampNeg (n 11)) (-1))) 19 (upd (F 19) (Int32.toNatClampNeg (n 11)) 0)) 20 (upd (F 20) (Int32.toNatClampNeg (n 11)) 0)) 21 (upd (F 21) (Int32.toNatClampNeg (n 11)) z_47)) 22 (upd (F 22) (Int32.toNatClampNeg (n 11)) (-1))) 23 (upd (F 23) (Int32.toNatClampNeg (n 11)) 0)) 24 (upd (F 24) (Int32.toNatClampNeg (n 11)) (vp_nar .boolean 0))) 25 (upd (F 25) (Int32.toNatClampNeg (n 11)) (vp_nar .boolean 0))) 26 (upd (F 26) (Int32.toNatClampNeg (n 11)) (vp_nar .boolean 0))) 27 (upd (F 27) (Int32.toNatClampNeg (n 11)) (vp_nar .boolean 0))) 32 (upd (F 32) (Int32.toNatClampNeg (n 11)) (vp_nar .boolean 0))) 33 (upd f_59 (Int32.toNatClampNeg z_69) r_71)) 35 (upd f_60 (Int32.toNatClampNeg z_67) (vp_nar .boolean 0))) 36 (upd (F 36) (Int32.toNatClampNeg (n 11)) 0)) 39 (upd (F 39) (Int32.toNatClampNeg (n 11)) 0)) (upn n 11 z_30)) H := hP
                have hD : va_D A (w10 h0 X C (upF (upF (upF (upF (upF (upF (upF (upF (upF (upF (upF (upF (upF (upF (upF (upF (upF (upF (upF (upF F 13 (upd (F 13) (Int32.toNatClampNeg (n 11)) 0)) 14 (upd (F 14) (Int32.toNatClampNeg (n 11)) v1)) 15 (upd (F 15) (Int32.toNatClampNeg (n 11)) v2)) 16 (upd (F 16) (Int32.toNatClampNeg (n 11)) z_37)) 17 (upd (F 17) (Int32.toNatClampNeg (n 11)) z_41)) 18 (upd (F 18) (Int32.toNatClampNeg (n 11)) (-1))) 19 (upd (F 19) (Int32.toNatClampNeg (n 11)) 0)) 20 (upd (F 20) (Int32.toNatClampNeg (n 11)) 0)) 21 (upd (F 21) (Int32.toNatClampNeg (n 11)) z_47)) 22 (upd (F 22) (Int32.toNatClampNeg (n 11)) (-1))) 23 (upd (F 23) (Int32.toNatClampNeg (n 11)) 0)) 24 (upd (F 24) (Int32.toNatClampNeg (n 11)) (vp_nar .boolean 0))) 25 (upd (F 25) (Int32.toNatClampNeg (n 11)) (vp_nar .boolean 0))) 26 (upd (F 26) (Int32.toNatClampNeg (n 11)) (vp_nar .boolean 0))) 27 (upd (F 27) (Int32.toNatClampNeg (n 11)) (vp_nar .boolean 0))) 32 (upd (F 32) (Int32.toNatClampNeg (n 11)) (vp_nar .boolean 0))) 33 (upd f_59 (Int32.toNatClampNeg z_69) r_71)) 35 (upd f_60 (Int32.toNatClampNeg z_67) (vp_nar .boolean 0))) 36 (upd (F 36) (Int32.toNatClampNeg (n 11)) 0)) 39 (upd (F 39) (Int32.toNatClampNeg (n 11)) 0)) (upn n 11 z_30)) := hD
                obtain ⟨y_74, ey_74⟩ : ∃ q : Int32, q = x_58 + (1) := ⟨_, rfl⟩
                refine lv_iinc (v := y_74) (lv' := [(4, .int y_74), (3, .int (n 11)), (0, .ref h0), (1, .int v1), (2, .int v2)]) hx hb dX10_comes_239 hl (k := 0) rfl (by rw [ey_74]; rfl) (by decide) rfl (fun ls hl => ?_)
                have ty_74 : y_74.toInt = x_58.toInt + (1) := ar_add rfl ti_1 ey_74 (by omega)
                refine lv_goto (tgt := 185) hx hb dX10_comes_242 (by decide) ?_
                exact ih_61 y_74 (upd f_59 (Int32.toNatClampNeg z_69) r_71) (upd f_60 (Int32.toNatClampNeg z_67) (vp_nar .boolean 0))  H locs ls (by omega) (by omega) hP hD hS (lv_sub hl [0, 1, 2, 3, 4] rfl)
              · simp only [i_lt, i_le, i_eq, ti_m1] at c_70
                refine lv_aload_n hx hb dX10_comes_221 rfl (lv_at hl 2 rfl) ?_
                refine va_get (D := (dC, dI)) (ci := 10) (v := .ref (X 1)) (C := RX10) (T := TX10) (N := 60) hx hb hg gb_10 hown hK hP 0 rfl rfl 1 (by decide) (hg _ gm_fieldLink_RX10_13_ErrandGuildModel_first_AI_) (fun _ h9 => h9) rfl dX10_comes_222 ?_
                refine lv_iload hx hb dX10_comes_225 (lv_at hl 0 rfl) ?_
                refine va_iald hx hb hK hP 2 1 rfl rfl (vp_in_iff.mpr ⟨by omega, by omega⟩) dX10_comes_227 ?_
                refine lv_topi (fun z_75 ez_75 => ?_)
                have qz_75 := congrArg Int32.toInt ez_75
                refine lv_goto (tgt := 238) hx hb dX10_comes_228 (by decide) ?_
                refine va_iast hx hb hK hP hD hS 31 30 rfl rfl (vp_in_iff.mpr ⟨by omega, by omega⟩) dX10_comes_238 (fun H locs hP hD hS => ?_)
                have hP : va_P (dC, dI) vwCl (w10 h0 X C (upF (upF (upF (upF (upF (upF (upF (upF (upF (upF (upF (upF (upF (upF (upF (upF (upF (upF (upF (upF F 13 (upd (F 13) (Int32.toNatClampNeg (n 11)) 0)) 14 (upd (F 14) (Int32.toNatClampNeg (n 11)) v1)) 15 (upd (F 15) (Int32.toNatClampNeg (n 11)) v2)) 16 (upd (F 16) (Int32.toNatClampNeg (n 11)) z_37)) 17 (upd (F 17) (Int32.toNatClampNeg (n 11)) z_41)) 18 (upd (F 18) (Int32.toNatClampNeg (n 11)) (-1))) 19 (upd (F 19) (Int32.toNatClampNeg (n 11)) 0)) 20 (upd (F 20) (Int32.toNatClampNeg (n 11)) 0)) 21 (upd (F 21) (Int32.toNatClampNeg (n 11)) z_47)) 22 (upd (F 22) (Int32.toNatClampNeg (n 11)) (-1))) 23 (upd (F 23) (Int32.toNatClampNeg (n 11)) 0)) 24 (upd (F 24) (Int32.toNatClampNeg (n 11)) (vp_nar .boolean 0))) 25 (upd (F 25) (Int32.toNatClampNeg (n 11)) (vp_nar .boolean 0))) 26 (upd (F 26) (Int32.toNatClampNeg (n 11)) (vp_nar .boolean 0))) 27 (upd (F 27) (Int32.toNatClampNeg (n 11)) (vp_nar .boolean 0))) 32 (upd (F 32) (Int32.toNatClampNeg (n 11)) (vp_nar .boolean 0))) 33 (upd f_59 (Int32.toNatClampNeg z_69) z_75)) 35 (upd f_60 (Int32.toNatClampNeg z_67) (vp_nar .boolean 0))) 36 (upd (F 36) (Int32.toNatClampNeg (n 11)) 0)) 39 (upd (F 39) (Int32.toNatClampNeg (n 11)) 0)) (upn n 11 z_30)) H := hP
                have hD : va_D A (w10 h0 X C (upF (upF (upF (upF (upF (upF (upF (upF (upF (upF (upF (upF (upF (upF (upF (upF (upF (upF (upF (upF F 13 (upd (F 13) (Int32.toNatClampNeg (n 11)) 0)) 14 (upd (F 14) (Int32.toNatClampNeg (n 11)) v1)) 15 (upd (F 15) (Int32.toNatClampNeg (n 11)) v2)) 16 (upd (F 16) (Int32.toNatClampNeg (n 11)) z_37)) 17 (upd (F 17) (Int32.toNatClampNeg (n 11)) z_41)) 18 (upd (F 18) (Int32.toNatClampNeg (n 11)) (-1))) 19 (upd (F 19) (Int32.toNatClampNeg (n 11)) 0)) 20 (upd (F 20) (Int32.toNatClampNeg (n 11)) 0)) 21 (upd (F 21) (Int32.toNatClampNeg (n 11)) z_47)) 22 (upd (F 22) (Int32.toNatClampNeg (n 11)) (-1))) 23 (upd (F 23) (Int32.toNatClampNeg (n 11)) 0)) 24 (upd (F 24) (Int32.toNatClampNeg (n 11)) (vp_nar .boolean 0))) 25 (upd (F 25) (Int32.toNatClampNeg (n 11)) (vp_nar .boolean 0))) 26 (upd (F 26) (Int32.toNatClampNeg (n 11)) (vp_nar .boolean 0))) 27 (upd (F 27) (Int32.toNatClampNeg (n 11)) (vp_nar .boolean 0))) 32 (upd (F 32) (Int32.toNatClampNeg (n 11)) (vp_nar .boolean 0))) 33 (upd f_59 (Int32.toNatClampNeg z_69) z_75)) 35 (upd f_60 (Int32.toNatClampNeg z_67) (vp_nar .boolean 0))) 36 (upd (F 36) (Int32.toNatClampNeg (n 11)) 0)) 39 (upd (F 39) (Int32.toNatClampNeg (n 11)) 0)) (upn n 11 z_30)) := hD
                obtain ⟨y_76, ey_76⟩ : ∃ q : Int32, q = x_58 + (1) := ⟨_, rfl⟩
                refine lv_iinc (v := y_76) (lv' := [(4, .int y_76), (3, .int (n 11)), (0, .ref h0), (1, .int v1), (2, .int v2)]) hx hb dX10_comes_239 hl (k := 0) rfl (by rw [ey_76]; rfl) (by decide) rfl (fun ls hl => ?_)
                have ty_76 : y_76.toInt = x_58.toInt + (1) := ar_add rfl ti_1 ey_76 (by omega)
                refine lv_goto (tgt := 185) hx hb dX10_comes_242 (by decide) ?_
                exact ih_61 y_76 (upd f_59 (Int32.toNatClampNeg z_69) z_75) (upd f_60 (Int32.toNatClampNeg z_67) (vp_nar .boolean 0))  H locs ls (by omega) (by omega) hP hD hS (lv_sub hl [0, 1, 2, 3, 4] rfl)
        exact L185 _ (0) (F 33) (F 35)  _ _ _ (Nat.lt_succ_self _) (by have t_0 := ti_0; omega) hP hD hS (lv_sub hl [0, 1, 2, 3, 4] rfl)
      · simp only [i_lt, i_le, i_eq, ti_m1] at c_46
        refine lv_iconst (v := -1) hx hb dX10_comes_108 (by decide) ?_
        refine lv_goto (tgt := 118) hx hb dX10_comes_109 (by decide) ?_
        refine va_iast hx hb hK hP hD hS 19 18 rfl rfl (vp_in_iff.mpr ⟨by omega, by omega⟩) dX10_comes_118 (fun H locs hP hD hS => ?_)
        have hP : va_P (dC, dI) vwCl (w10 h0 X C (upF (upF (upF (upF (upF (upF (upF (upF (upF F 13 (upd (F 13) (Int32.toNatClampNeg (n 11)) 0)) 14 (upd (F 14) (Int32.toNatClampNeg (n 11)) v1)) 15 (upd (F 15) (Int32.toNatClampNeg (n 11)) v2)) 16 (upd (F 16) (Int32.toNatClampNeg (n 11)) z_37)) 17 (upd (F 17) (Int32.toNatClampNeg (n 11)) z_41)) 18 (upd (F 18) (Int32.toNatClampNeg (n 11)) (-1))) 19 (upd (F 19) (Int32.toNatClampNeg (n 11)) 0)) 20 (upd (F 20) (Int32.toNatClampNeg (n 11)) 0)) 21 (upd (F 21) (Int32.toNatClampNeg (n 11)) (-1))) (upn n 11 z_30)) H := hP
        have hD : va_D A (w10 h0 X C (upF (upF (upF (upF (upF (upF (upF (upF (upF F 13 (upd (F 13) (Int32.toNatClampNeg (n 11)) 0)) 14 (upd (F 14) (Int32.toNatClampNeg (n 11)) v1)) 15 (upd (F 15) (Int32.toNatClampNeg (n 11)) v2)) 16 (upd (F 16) (Int32.toNatClampNeg (n 11)) z_37)) 17 (upd (F 17) (Int32.toNatClampNeg (n 11)) z_41)) 18 (upd (F 18) (Int32.toNatClampNeg (n 11)) (-1))) 19 (upd (F 19) (Int32.toNatClampNeg (n 11)) 0)) 20 (upd (F 20) (Int32.toNatClampNeg (n 11)) 0)) 21 (upd (F 21) (Int32.toNatClampNeg (n 11)) (-1))) (upn n 11 z_30)) := hD
        refine lv_aload_n hx hb dX10_comes_119 rfl (lv_at hl 1 rfl) ?_
        refine va_get (D := (dC, dI)) (ci := 10) (v := .ref (X 22)) (C := RX10) (T := TX10) (N := 60) hx hb hg gb_10 hown hK hP 0 rfl rfl 22 (by decide) (hg _ gm_fieldLink_RX10_72_ErrandGuildModel_endedAt_AI_) (fun _ h9 => h9) rfl dX10_comes_120 ?_
        refine lv_iload_n hx hb dX10_comes_123 rfl (lv_at hl 0 rfl) ?_
        refine lv_iconst (v := -1) hx hb dX10_comes_124 (by decide) ?_
        refine va_iast hx hb hK hP hD hS 20 19 rfl rfl (vp_in_iff.mpr ⟨by omega, by omega⟩) dX10_comes_125 (fun H locs hP hD hS => ?_)
        have hP : va_P (dC, dI) vwCl (w10 h0 X C (upF (upF (upF (upF (upF (upF (upF (upF (upF (upF F 13 (upd (F 13) (Int32.toNatClampNeg (n 11)) 0)) 14 (upd (F 14) (Int32.toNatClampNeg (n 11)) v1)) 15 (upd (F 15) (Int32.toNatClampNeg (n 11)) v2)) 16 (upd (F 16) (Int32.toNatClampNeg (n 11)) z_37)) 17 (upd (F 17) (Int32.toNatClampNeg (n 11)) z_41)) 18 (upd (F 18) (Int32.toNatClampNeg (n 11)) (-1))) 19 (upd (F 19) (Int32.toNatClampNeg (n 11)) 0)) 20 (upd (F 20) (Int32.toNatClampNeg (n 11)) 0)) 21 (upd (F 21) (Int32.toNatClampNeg (n 11)) (-1))) 22 (upd (F 22) (Int32.toNatClampNeg (n 11)) (-1))) (upn n 11 z_30)) H := hP
        have hD : va_D A (w10 h0 X C (upF (upF (upF (upF (upF (upF (upF (upF (upF (upF F 13 (upd (F 13) (Int32.toNatClampNeg (n 11)) 0)) 14 (upd (F 14) (Int32.toNatClampNeg (n 11)) v1)) 15 (upd (F 15) (Int32.toNatClampNeg (n 11)) v2)) 16 (upd (F 16) (Int32.toNatClampNeg (n 11)) z_37)) 17 (upd (F 17) (Int32.toNatClampNeg (n 11)) z_41)) 18 (upd (F 18) (Int32.toNatClampNeg (n 11)) (-1))) 19 (upd (F 19) (Int32.toNatClampNeg (n 11)) 0)) 20 (upd (F 20) (Int32.toNatClampNeg (n 11)) 0)) 21 (upd (F 21) (Int32.toNatClampNeg (n 11)) (-1))) 22 (upd (F 22) (Int32.toNatClampNeg (n 11)) (-1))) (upn n 11 z_30)) := hD
        refine lv_aload_n hx hb dX10_comes_126 rfl (lv_at hl 1 rfl) ?_
        refine va_get (D := (dC, dI)) (ci := 10) (v := .ref (X 23)) (C := RX10) (T := TX10) (N := 60) hx hb hg gb_10 hown hK hP 0 rfl rfl 23 (by decide) (hg _ gm_fieldLink_RX10_75_ErrandGuildModel_came_AI_) (fun _ h9 => h9) rfl dX10_comes_127 ?_
        refine lv_iload_n hx hb dX10_comes_130 rfl (lv_at hl 0 rfl) ?_
        refine lv_iconst (v := 0) hx hb dX10_comes_131 (by decide) ?_
        refine va_iast hx hb hK hP hD hS 21 20 rfl rfl (vp_in_iff.mpr ⟨by omega, by omega⟩) dX10_comes_132 (fun H locs hP hD hS => ?_)
        have hP : va_P (dC, dI) vwCl (w10 h0 X C (upF (upF (upF (upF (upF (upF (upF (upF (upF (upF (upF F 13 (upd (F 13) (Int32.toNatClampNeg (n 11)) 0)) 14 (upd (F 14) (Int32.toNatClampNeg (n 11)) v1)) 15 (upd (F 15) (Int32.toNatClampNeg (n 11)) v2)) 16 (upd (F 16) (Int32.toNatClampNeg (n 11)) z_37)) 17 (upd (F 17) (Int32.toNatClampNeg (n 11)) z_41)) 18 (upd (F 18) (Int32.toNatClampNeg (n 11)) (-1))) 19 (upd (F 19) (Int32.toNatClampNeg (n 11)) 0)) 20 (upd (F 20) (Int32.toNatClampNeg (n 11)) 0)) 21 (upd (F 21) (Int32.toNatClampNeg (n 11)) (-1))) 22 (upd (F 22) (Int32.toNatClampNeg (n 11)) (-1))) 23 (upd (F 23) (Int32.toNatClampNeg (n 11)) 0)) (upn n 11 z_30)) H := hP
        have hD : va_D A (w10 h0 X C (upF (upF (upF (upF (upF (upF (upF (upF (upF (upF (upF F 13 (upd (F 13) (Int32.toNatClampNeg (n 11)) 0)) 14 (upd (F 14) (Int32.toNatClampNeg (n 11)) v1)) 15 (upd (F 15) (Int32.toNatClampNeg (n 11)) v2)) 16 (upd (F 16) (Int32.toNatClampNeg (n 11)) z_37)) 17 (upd (F 17) (Int32.toNatClampNeg (n 11)) z_41)) 18 (upd (F 18) (Int32.toNatClampNeg (n 11)) (-1))) 19 (upd (F 19) (Int32.toNatClampNeg (n 11)) 0)) 20 (upd (F 20) (Int32.toNatClampNeg (n 11)) 0)) 21 (upd (F 21) (Int32.toNatClampNeg (n 11)) (-1))) 22 (upd (F 22) (Int32.toNatClampNeg (n 11)) (-1))) 23 (upd (F 23) (Int32.toNatClampNeg (n 11)) 0)) (upn n 11 z_30)) := hD
        refine lv_aload_n hx hb dX10_comes_133 rfl (lv_at hl 1 rfl) ?_
        refine va_get (D := (dC, dI)) (ci := 10) (v := .ref (X 24)) (C := RX10) (T := TX10) (N := 60) hx hb hg gb_10 hown hK hP 0 rfl rfl 24 (by decide) (hg _ gm_fieldLink_RX10_78_ErrandGuildModel_isBack_AZ_) (fun _ h9 => h9) rfl dX10_comes_134 ?_
        refine lv_iload_n hx hb dX10_comes_137 rfl (lv_at hl 0 rfl) ?_
        refine lv_iconst (v := 0) hx hb dX10_comes_138 (by decide) ?_
        refine va_zast hx hb hK hP hD hS 22 21 rfl rfl (vp_in_iff.mpr ⟨by omega, by omega⟩) dX10_comes_139 (fun H locs hP hD hS => ?_)
        have hP : va_P (dC, dI) vwCl (w10 h0 X C (upF (upF (upF (upF (upF (upF (upF (upF (upF (upF (upF (upF F 13 (upd (F 13) (Int32.toNatClampNeg (n 11)) 0)) 14 (upd (F 14) (Int32.toNatClampNeg (n 11)) v1)) 15 (upd (F 15) (Int32.toNatClampNeg (n 11)) v2)) 16 (upd (F 16) (Int32.toNatClampNeg (n 11)) z_37)) 17 (upd (F 17) (Int32.toNatClampNeg (n 11)) z_41)) 18 (upd (F 18) (Int32.toNatClampNeg (n 11)) (-1))) 19 (upd (F 19) (Int32.toNatClampNeg (n 11)) 0)) 20 (upd (F 20) (Int32.toNatClampNeg (n 11)) 0)) 21 (upd (F 21) (Int32.toNatClampNeg (n 11)) (-1))) 22 (upd (F 22) (Int32.toNatClampNeg (n 11)) (-1))) 23 (upd (F 23) (Int32.toNatClampNeg (n 11)) 0)) 24 (upd (F 24) (Int32.toNatClampNeg (n 11)) (vp_nar .boolean 0))) (upn n 11 z_30)) H := hP
        have hD : va_D A (w10 h0 X C (upF (upF (upF (upF (upF (upF (upF (upF (upF (upF (upF (upF F 13 (upd (F 13) (Int32.toNatClampNeg (n 11)) 0)) 14 (upd (F 14) (Int32.toNatClampNeg (n 11)) v1)) 15 (upd (F 15) (Int32.toNatClampNeg (n 11)) v2)) 16 (upd (F 16) (Int32.toNatClampNeg (n 11)) z_37)) 17 (upd (F 17) (Int32.toNatClampNeg (n 11)) z_41)) 18 (upd (F 18) (Int32.toNatClampNeg (n 11)) (-1))) 19 (upd (F 19) (Int32.toNatClampNeg (n 11)) 0)) 20 (upd (F 20) (Int32.toNatClampNeg (n 11)) 0)) 21 (upd (F 21) (Int32.toNatClampNeg (n 11)) (-1))) 22 (upd (F 22) (Int32.toNatClampNeg (n 11)) (-1))) 23 (upd (F 23) (Int32.toNatClampNeg (n 11)) 0)) 24 (upd (F 24) (Int32.toNatClampNeg (n 11)) (vp_nar .boolean 0))) (upn n 11 z_30)) := hD
        have j_77 : J7 (upd (F 24) (Int32.toNatClampNeg (n 11)) (vp_nar .boolean 0)) (upd (F 20) (Int32.toNatClampNeg (n 11)) 0) := J7_ib j_45 (Int32.toNatClampNeg (n 11)) (Or.inl (by rw [nb0]; decide))
        refine lv_aload_n hx hb dX10_comes_140 rfl (lv_at hl 1 rfl) ?_
        refine va_get (D := (dC, dI)) (ci := 10) (v := .ref (X 25)) (C := RX10) (T := TX10) (N := 60) hx hb hg gb_10 hown hK hP 0 rfl rfl 25 (by decide) (hg _ gm_fieldLink_RX10_81_ErrandGuildModel_isTold_AZ_) (fun _ h9 => h9) rfl dX10_comes_141 ?_
        refine lv_iload_n hx hb dX10_comes_144 rfl (lv_at hl 0 rfl) ?_
        refine lv_iconst (v := 0) hx hb dX10_comes_145 (by decide) ?_
        refine va_zast hx hb hK hP hD hS 23 22 rfl rfl (vp_in_iff.mpr ⟨by omega, by omega⟩) dX10_comes_146 (fun H locs hP hD hS => ?_)
        have hP : va_P (dC, dI) vwCl (w10 h0 X C (upF (upF (upF (upF (upF (upF (upF (upF (upF (upF (upF (upF (upF F 13 (upd (F 13) (Int32.toNatClampNeg (n 11)) 0)) 14 (upd (F 14) (Int32.toNatClampNeg (n 11)) v1)) 15 (upd (F 15) (Int32.toNatClampNeg (n 11)) v2)) 16 (upd (F 16) (Int32.toNatClampNeg (n 11)) z_37)) 17 (upd (F 17) (Int32.toNatClampNeg (n 11)) z_41)) 18 (upd (F 18) (Int32.toNatClampNeg (n 11)) (-1))) 19 (upd (F 19) (Int32.toNatClampNeg (n 11)) 0)) 20 (upd (F 20) (Int32.toNatClampNeg (n 11)) 0)) 21 (upd (F 21) (Int32.toNatClampNeg (n 11)) (-1))) 22 (upd (F 22) (Int32.toNatClampNeg (n 11)) (-1))) 23 (upd (F 23) (Int32.toNatClampNeg (n 11)) 0)) 24 (upd (F 24) (Int32.toNatClampNeg (n 11)) (vp_nar .boolean 0))) 25 (upd (F 25) (Int32.toNatClampNeg (n 11)) (vp_nar .boolean 0))) (upn n 11 z_30)) H := hP
        have hD : va_D A (w10 h0 X C (upF (upF (upF (upF (upF (upF (upF (upF (upF (upF (upF (upF (upF F 13 (upd (F 13) (Int32.toNatClampNeg (n 11)) 0)) 14 (upd (F 14) (Int32.toNatClampNeg (n 11)) v1)) 15 (upd (F 15) (Int32.toNatClampNeg (n 11)) v2)) 16 (upd (F 16) (Int32.toNatClampNeg (n 11)) z_37)) 17 (upd (F 17) (Int32.toNatClampNeg (n 11)) z_41)) 18 (upd (F 18) (Int32.toNatClampNeg (n 11)) (-1))) 19 (upd (F 19) (Int32.toNatClampNeg (n 11)) 0)) 20 (upd (F 20) (Int32.toNatClampNeg (n 11)) 0)) 21 (upd (F 21) (Int32.toNatClampNeg (n 11)) (-1))) 22 (upd (F 22) (Int32.toNatClampNeg (n 11)) (-1))) 23 (upd (F 23) (Int32.toNatClampNeg (n 11)) 0)) 24 (upd (F 24) (Int32.toNatClampNeg (n 11)) (vp_nar .boolean 0))) 25 (upd (F 25) (Int32.toNatClampNeg (n 11)) (vp_nar .boolean 0))) (upn n 11 z_30)) := hD
        refine lv_aload_n hx hb dX10_comes_147 rfl (lv_at hl 1 rfl) ?_
        refine va_get (D := (dC, dI)) (ci := 10) (v := .ref (X 26)) (C := RX10) (T := TX10) (N := 60) hx hb hg gb_10 hown hK hP 0 rfl rfl 26 (by decide) (hg _ gm_fieldLink_RX10_84_ErrandGuildModel_wasWaited_AZ_) (fun _ h9 => h9) rfl dX10_comes_148 ?_
        refine lv_iload_n hx hb dX10_comes_151 rfl (lv_at hl 0 rfl) ?_
        refine lv_iconst (v := 0) hx hb dX10_comes_152 (by decide) ?_
        refine va_zast hx hb hK hP hD hS 24 23 rfl rfl (vp_in_iff.mpr ⟨by omega, by omega⟩) dX10_comes_153 (fun H locs hP hD hS => ?_)
        have hP : va_P (dC, dI) vwCl (w10 h0 X C (upF (upF (upF (upF (upF (upF (upF (upF (upF (upF (upF (upF (upF (upF F 13 (upd (F 13) (Int32.toNatClampNeg (n 11)) 0)) 14 (upd (F 14) (Int32.toNatClampNeg (n 11)) v1)) 15 (upd (F 15) (Int32.toNatClampNeg (n 11)) v2)) 16 (upd (F 16) (Int32.toNatClampNeg (n 11)) z_37)) 17 (upd (F 17) (Int32.toNatClampNeg (n 11)) z_41)) 18 (upd (F 18) (Int32.toNatClampNeg (n 11)) (-1))) 19 (upd (F 19) (Int32.toNatClampNeg (n 11)) 0)) 20 (upd (F 20) (Int32.toNatClampNeg (n 11)) 0)) 21 (upd (F 21) (Int32.toNatClampNeg (n 11)) (-1))) 22 (upd (F 22) (Int32.toNatClampNeg (n 11)) (-1))) 23 (upd (F 23) (Int32.toNatClampNeg (n 11)) 0)) 24 (upd (F 24) (Int32.toNatClampNeg (n 11)) (vp_nar .boolean 0))) 25 (upd (F 25) (Int32.toNatClampNeg (n 11)) (vp_nar .boolean 0))) 26 (upd (F 26) (Int32.toNatClampNeg (n 11)) (vp_nar .boolean 0))) (upn n 11 z_30)) H := hP
        have hD : va_D A (w10 h0 X C (upF (upF (upF (upF (upF (upF (upF (upF (upF (upF (upF (upF (upF (upF F 13 (upd (F 13) (Int32.toNatClampNeg (n 11)) 0)) 14 (upd (F 14) (Int32.toNatClampNeg (n 11)) v1)) 15 (upd (F 15) (Int32.toNatClampNeg (n 11)) v2)) 16 (upd (F 16) (Int32.toNatClampNeg (n 11)) z_37)) 17 (upd (F 17) (Int32.toNatClampNeg (n 11)) z_41)) 18 (upd (F 18) (Int32.toNatClampNeg (n 11)) (-1))) 19 (upd (F 19) (Int32.toNatClampNeg (n 11)) 0)) 20 (upd (F 20) (Int32.toNatClampNeg (n 11)) 0)) 21 (upd (F 21) (Int32.toNatClampNeg (n 11)) (-1))) 22 (upd (F 22) (Int32.toNatClampNeg (n 11)) (-1))) 23 (upd (F 23) (Int32.toNatClampNeg (n 11)) 0)) 24 (upd (F 24) (Int32.toNatClampNeg (n 11)) (vp_nar .boolean 0))) 25 (upd (F 25) (Int32.toNatClampNeg (n 11)) (vp_nar .boolean 0))) 26 (upd (F 26) (Int32.toNatClampNeg (n 11)) (vp_nar .boolean 0))) (upn n 11 z_30)) := hD
        refine lv_aload_n hx hb dX10_comes_154 rfl (lv_at hl 1 rfl) ?_
        refine va_get (D := (dC, dI)) (ci := 10) (v := .ref (X 27)) (C := RX10) (T := TX10) (N := 60) hx hb hg gb_10 hown hK hP 0 rfl rfl 27 (by decide) (hg _ gm_fieldLink_RX10_87_ErrandGuildModel_isAwaited_AZ_) (fun _ h9 => h9) rfl dX10_comes_155 ?_
        refine lv_iload_n hx hb dX10_comes_158 rfl (lv_at hl 0 rfl) ?_
        refine lv_iconst (v := 0) hx hb dX10_comes_159 (by decide) ?_
        refine va_zast hx hb hK hP hD hS 25 24 rfl rfl (vp_in_iff.mpr ⟨by omega, by omega⟩) dX10_comes_160 (fun H locs hP hD hS => ?_)
        have hP : va_P (dC, dI) vwCl (w10 h0 X C (upF (upF (upF (upF (upF (upF (upF (upF (upF (upF (upF (upF (upF (upF (upF F 13 (upd (F 13) (Int32.toNatClampNeg (n 11)) 0)) 14 (upd (F 14) (Int32.toNatClampNeg (n 11)) v1)) 15 (upd (F 15) (Int32.toNatClampNeg (n 11)) v2)) 16 (upd (F 16) (Int32.toNatClampNeg (n 11)) z_37)) 17 (upd (F 17) (Int32.toNatClampNeg (n 11)) z_41)) 18 (upd (F 18) (Int32.toNatClampNeg (n 11)) (-1))) 19 (upd (F 19) (Int32.toNatClampNeg (n 11)) 0)) 20 (upd (F 20) (Int32.toNatClampNeg (n 11)) 0)) 21 (upd (F 21) (Int32.toNatClampNeg (n 11)) (-1))) 22 (upd (F 22) (Int32.toNatClampNeg (n 11)) (-1))) 23 (upd (F 23) (Int32.toNatClampNeg (n 11)) 0)) 24 (upd (F 24) (Int32.toNatClampNeg (n 11)) (vp_nar .boolean 0))) 25 (upd (F 25) (Int32.toNatClampNeg (n 11)) (vp_nar .boolean 0))) 26 (upd (F 26) (Int32.toNatClampNeg (n 11)) (vp_nar .boolean 0))) 27 (upd (F 27) (Int32.toNatClampNeg (n 11)) (vp_nar .boolean 0))) (upn n 11 z_30)) H := hP
        have hD : va_D A (w10 h0 X C (upF (upF (upF (upF (upF (upF (upF (upF (upF (upF (upF (upF (upF (upF (upF F 13 (upd (F 13) (Int32.toNatClampNeg (n 11)) 0)) 14 (upd (F 14) (Int32.toNatClampNeg (n 11)) v1)) 15 (upd (F 15) (Int32.toNatClampNeg (n 11)) v2)) 16 (upd (F 16) (Int32.toNatClampNeg (n 11)) z_37)) 17 (upd (F 17) (Int32.toNatClampNeg (n 11)) z_41)) 18 (upd (F 18) (Int32.toNatClampNeg (n 11)) (-1))) 19 (upd (F 19) (Int32.toNatClampNeg (n 11)) 0)) 20 (upd (F 20) (Int32.toNatClampNeg (n 11)) 0)) 21 (upd (F 21) (Int32.toNatClampNeg (n 11)) (-1))) 22 (upd (F 22) (Int32.toNatClampNeg (n 11)) (-1))) 23 (upd (F 23) (Int32.toNatClampNeg (n 11)) 0)) 24 (upd (F 24) (Int32.toNatClampNeg (n 11)) (vp_nar .boolean 0))) 25 (upd (F 25) (Int32.toNatClampNeg (n 11)) (vp_nar .boolean 0))) 26 (upd (F 26) (Int32.toNatClampNeg (n 11)) (vp_nar .boolean 0))) 27 (upd (F 27) (Int32.toNatClampNeg (n 11)) (vp_nar .boolean 0))) (upn n 11 z_30)) := hD
        refine lv_aload_n hx hb dX10_comes_161 rfl (lv_at hl 1 rfl) ?_
        refine va_get (D := (dC, dI)) (ci := 10) (v := .ref (X 32)) (C := RX10) (T := TX10) (N := 60) hx hb hg gb_10 hown hK hP 0 rfl rfl 32 (by decide) (hg _ gm_fieldLink_RX10_102_ErrandGuildModel_isUncaught_AZ_) (fun _ h9 => h9) rfl dX10_comes_162 ?_
        refine lv_iload_n hx hb dX10_comes_165 rfl (lv_at hl 0 rfl) ?_
        refine lv_iconst (v := 0) hx hb dX10_comes_166 (by decide) ?_
        refine va_zast hx hb hK hP hD hS 30 29 rfl rfl (vp_in_iff.mpr ⟨by omega, by omega⟩) dX10_comes_167 (fun H locs hP hD hS => ?_)
        have hP : va_P (dC, dI) vwCl (w10 h0 X C (upF (upF (upF (upF (upF (upF (upF (upF (upF (upF (upF (upF (upF (upF (upF (upF F 13 (upd (F 13) (Int32.toNatClampNeg (n 11)) 0)) 14 (upd (F 14) (Int32.toNatClampNeg (n 11)) v1)) 15 (upd (F 15) (Int32.toNatClampNeg (n 11)) v2)) 16 (upd (F 16) (Int32.toNatClampNeg (n 11)) z_37)) 17 (upd (F 17) (Int32.toNatClampNeg (n 11)) z_41)) 18 (upd (F 18) (Int32.toNatClampNeg (n 11)) (-1))) 19 (upd (F 19) (Int32.toNatClampNeg (n 11)) 0)) 20 (upd (F 20) (Int32.toNatClampNeg (n 11)) 0)) 21 (upd (F 21) (Int32.toNatClampNeg (n 11)) (-1))) 22 (upd (F 22) (Int32.toNatClampNeg (n 11)) (-1))) 23 (upd (F 23) (Int32.toNatClampNeg (n 11)) 0)) 24 (upd (F 24) (Int32.toNatClampNeg (n 11)) (vp_nar .boolean 0))) 25 (upd (F 25) (Int32.toNatClampNeg (n 11)) (vp_nar .boolean 0))) 26 (upd (F 26) (Int32.toNatClampNeg (n 11)) (vp_nar .boolean 0))) 27 (upd (F 27) (Int32.toNatClampNeg (n 11)) (vp_nar .boolean 0))) 32 (upd (F 32) (Int32.toNatClampNeg (n 11)) (vp_nar .boolean 0))) (upn n 11 z_30)) H := hP
        have hD : va_D A (w10 h0 X C (upF (upF (upF (upF (upF (upF (upF (upF (upF (upF (upF (upF (upF (upF (upF (upF F 13 (upd (F 13) (Int32.toNatClampNeg (n 11)) 0)) 14 (upd (F 14) (Int32.toNatClampNeg (n 11)) v1)) 15 (upd (F 15) (Int32.toNatClampNeg (n 11)) v2)) 16 (upd (F 16) (Int32.toNatClampNeg (n 11)) z_37)) 17 (upd (F 17) (Int32.toNatClampNeg (n 11)) z_41)) 18 (upd (F 18) (Int32.toNatClampNeg (n 11)) (-1))) 19 (upd (F 19) (Int32.toNatClampNeg (n 11)) 0)) 20 (upd (F 20) (Int32.toNatClampNeg (n 11)) 0)) 21 (upd (F 21) (Int32.toNatClampNeg (n 11)) (-1))) 22 (upd (F 22) (Int32.toNatClampNeg (n 11)) (-1))) 23 (upd (F 23) (Int32.toNatClampNeg (n 11)) 0)) 24 (upd (F 24) (Int32.toNatClampNeg (n 11)) (vp_nar .boolean 0))) 25 (upd (F 25) (Int32.toNatClampNeg (n 11)) (vp_nar .boolean 0))) 26 (upd (F 26) (Int32.toNatClampNeg (n 11)) (vp_nar .boolean 0))) 27 (upd (F 27) (Int32.toNatClampNeg (n 11)) (vp_nar .boolean 0))) 32 (upd (F 32) (Int32.toNatClampNeg (n 11)) (vp_nar .boolean 0))) (upn n 11 z_30)) := hD
        have j_78 : J8 (upd (F 32) (Int32.toNatClampNeg (n 11)) (vp_nar .boolean 0)) (upd (F 13) (Int32.toNatClampNeg (n 11)) 0) := J8_both j_28 (Int32.toNatClampNeg (n 11)) (Or.inl (by rw [nb0]; decide))
        have j_79 : J6 (upd (F 32) (Int32.toNatClampNeg (n 11)) (vp_nar .boolean 0)) (n 47) z_30 := J6_new j_26 (by omega) (by omega) rfl nb0
        refine lv_aload_n hx hb dX10_comes_168 rfl (lv_at hl 1 rfl) ?_
        refine va_get (D := (dC, dI)) (ci := 10) (v := .ref (X 36)) (C := RX10) (T := TX10) (N := 60) hx hb hg gb_10 hown hK hP 0 rfl rfl 36 (by decide) (hg _ gm_fieldLink_RX10_114_ErrandGuildModel_bindMany_AI_) (fun _ h9 => h9) rfl dX10_comes_169 ?_
        refine lv_iload_n hx hb dX10_comes_172 rfl (lv_at hl 0 rfl) ?_
        refine lv_iconst (v := 0) hx hb dX10_comes_173 (by decide) ?_
        refine va_iast hx hb hK hP hD hS 34 33 rfl rfl (vp_in_iff.mpr ⟨by omega, by omega⟩) dX10_comes_174 (fun H locs hP hD hS => ?_)
        have hP : va_P (dC, dI) vwCl (w10 h0 X C (upF (upF (upF (upF (upF (upF (upF (upF (upF (upF (upF (upF (upF (upF (upF (upF (upF F 13 (upd (F 13) (Int32.toNatClampNeg (n 11)) 0)) 14 (upd (F 14) (Int32.toNatClampNeg (n 11)) v1)) 15 (upd (F 15) (Int32.toNatClampNeg (n 11)) v2)) 16 (upd (F 16) (Int32.toNatClampNeg (n 11)) z_37)) 17 (upd (F 17) (Int32.toNatClampNeg (n 11)) z_41)) 18 (upd (F 18) (Int32.toNatClampNeg (n 11)) (-1))) 19 (upd (F 19) (Int32.toNatClampNeg (n 11)) 0)) 20 (upd (F 20) (Int32.toNatClampNeg (n 11)) 0)) 21 (upd (F 21) (Int32.toNatClampNeg (n 11)) (-1))) 22 (upd (F 22) (Int32.toNatClampNeg (n 11)) (-1))) 23 (upd (F 23) (Int32.toNatClampNeg (n 11)) 0)) 24 (upd (F 24) (Int32.toNatClampNeg (n 11)) (vp_nar .boolean 0))) 25 (upd (F 25) (Int32.toNatClampNeg (n 11)) (vp_nar .boolean 0))) 26 (upd (F 26) (Int32.toNatClampNeg (n 11)) (vp_nar .boolean 0))) 27 (upd (F 27) (Int32.toNatClampNeg (n 11)) (vp_nar .boolean 0))) 32 (upd (F 32) (Int32.toNatClampNeg (n 11)) (vp_nar .boolean 0))) 36 (upd (F 36) (Int32.toNatClampNeg (n 11)) 0)) (upn n 11 z_30)) H := hP
        have hD : va_D A (w10 h0 X C (upF (upF (upF (upF (upF (upF (upF (upF (upF (upF (upF (upF (upF (upF (upF (upF (upF F 13 (upd (F 13) (Int32.toNatClampNeg (n 11)) 0)) 14 (upd (F 14) (Int32.toNatClampNeg (n 11)) v1)) 15 (upd (F 15) (Int32.toNatClampNeg (n 11)) v2)) 16 (upd (F 16) (Int32.toNatClampNeg (n 11)) z_37)) 17 (upd (F 17) (Int32.toNatClampNeg (n 11)) z_41)) 18 (upd (F 18) (Int32.toNatClampNeg (n 11)) (-1))) 19 (upd (F 19) (Int32.toNatClampNeg (n 11)) 0)) 20 (upd (F 20) (Int32.toNatClampNeg (n 11)) 0)) 21 (upd (F 21) (Int32.toNatClampNeg (n 11)) (-1))) 22 (upd (F 22) (Int32.toNatClampNeg (n 11)) (-1))) 23 (upd (F 23) (Int32.toNatClampNeg (n 11)) 0)) 24 (upd (F 24) (Int32.toNatClampNeg (n 11)) (vp_nar .boolean 0))) 25 (upd (F 25) (Int32.toNatClampNeg (n 11)) (vp_nar .boolean 0))) 26 (upd (F 26) (Int32.toNatClampNeg (n 11)) (vp_nar .boolean 0))) 27 (upd (F 27) (Int32.toNatClampNeg (n 11)) (vp_nar .boolean 0))) 32 (upd (F 32) (Int32.toNatClampNeg (n 11)) (vp_nar .boolean 0))) 36 (upd (F 36) (Int32.toNatClampNeg (n 11)) 0)) (upn n 11 z_30)) := hD
        have b_80 := bd_upd b_10 (Int32.toNatClampNeg (n 11)) (x := 0) (by have t_ := ti_0; omega) (by have t_ := ti_0; omega)
        have j_81 : J2 (upd (F 36) (Int32.toNatClampNeg (n 11)) 0) (upd (F 20) (Int32.toNatClampNeg (n 11)) 0) := J2_both j_23 (Int32.toNatClampNeg (n 11)) (Int.le_refl _)
        have j_82 : J5 (F 39) (upd (F 36) (Int32.toNatClampNeg (n 11)) 0) (F 41) (F 43) (F 42) := J5_bm j_25 (Int32.toNatClampNeg (n 11)) (Or.inr (by have t_0 := ti_0; omega))
        refine lv_aload_n hx hb dX10_comes_175 rfl (lv_at hl 1 rfl) ?_
        refine va_get (D := (dC, dI)) (ci := 10) (v := .ref (X 39)) (C := RX10) (T := TX10) (N := 60) hx hb hg gb_10 hown hK hP 0 rfl rfl 39 (by decide) (hg _ gm_fieldLink_RX10_123_ErrandGuildModel_tryMany_AI_) (fun _ h9 => h9) rfl dX10_comes_176 ?_
        refine lv_iload_n hx hb dX10_comes_179 rfl (lv_at hl 0 rfl) ?_
        refine lv_iconst (v := 0) hx hb dX10_comes_180 (by decide) ?_
        refine va_iast hx hb hK hP hD hS 37 36 rfl rfl (vp_in_iff.mpr ⟨by omega, by omega⟩) dX10_comes_181 (fun H locs hP hD hS => ?_)
        have hP : va_P (dC, dI) vwCl (w10 h0 X C (upF (upF (upF (upF (upF (upF (upF (upF (upF (upF (upF (upF (upF (upF (upF (upF (upF (upF F 13 (upd (F 13) (Int32.toNatClampNeg (n 11)) 0)) 14 (upd (F 14) (Int32.toNatClampNeg (n 11)) v1)) 15 (upd (F 15) (Int32.toNatClampNeg (n 11)) v2)) 16 (upd (F 16) (Int32.toNatClampNeg (n 11)) z_37)) 17 (upd (F 17) (Int32.toNatClampNeg (n 11)) z_41)) 18 (upd (F 18) (Int32.toNatClampNeg (n 11)) (-1))) 19 (upd (F 19) (Int32.toNatClampNeg (n 11)) 0)) 20 (upd (F 20) (Int32.toNatClampNeg (n 11)) 0)) 21 (upd (F 21) (Int32.toNatClampNeg (n 11)) (-1))) 22 (upd (F 22) (Int32.toNatClampNeg (n 11)) (-1))) 23 (upd (F 23) (Int32.toNatClampNeg (n 11)) 0)) 24 (upd (F 24) (Int32.toNatClampNeg (n 11)) (vp_nar .boolean 0))) 25 (upd (F 25) (Int32.toNatClampNeg (n 11)) (vp_nar .boolean 0))) 26 (upd (F 26) (Int32.toNatClampNeg (n 11)) (vp_nar .boolean 0))) 27 (upd (F 27) (Int32.toNatClampNeg (n 11)) (vp_nar .boolean 0))) 32 (upd (F 32) (Int32.toNatClampNeg (n 11)) (vp_nar .boolean 0))) 36 (upd (F 36) (Int32.toNatClampNeg (n 11)) 0)) 39 (upd (F 39) (Int32.toNatClampNeg (n 11)) 0)) (upn n 11 z_30)) H := hP
        have hD : va_D A (w10 h0 X C (upF (upF (upF (upF (upF (upF (upF (upF (upF (upF (upF (upF (upF (upF (upF (upF (upF (upF F 13 (upd (F 13) (Int32.toNatClampNeg (n 11)) 0)) 14 (upd (F 14) (Int32.toNatClampNeg (n 11)) v1)) 15 (upd (F 15) (Int32.toNatClampNeg (n 11)) v2)) 16 (upd (F 16) (Int32.toNatClampNeg (n 11)) z_37)) 17 (upd (F 17) (Int32.toNatClampNeg (n 11)) z_41)) 18 (upd (F 18) (Int32.toNatClampNeg (n 11)) (-1))) 19 (upd (F 19) (Int32.toNatClampNeg (n 11)) 0)) 20 (upd (F 20) (Int32.toNatClampNeg (n 11)) 0)) 21 (upd (F 21) (Int32.toNatClampNeg (n 11)) (-1))) 22 (upd (F 22) (Int32.toNatClampNeg (n 11)) (-1))) 23 (upd (F 23) (Int32.toNatClampNeg (n 11)) 0)) 24 (upd (F 24) (Int32.toNatClampNeg (n 11)) (vp_nar .boolean 0))) 25 (upd (F 25) (Int32.toNatClampNeg (n 11)) (vp_nar .boolean 0))) 26 (upd (F 26) (Int32.toNatClampNeg (n 11)) (vp_nar .boolean 0))) 27 (upd (F 27) (Int32.toNatClampNeg (n 11)) (vp_nar .boolean 0))) 32 (upd (F 32) (Int32.toNatClampNeg (n 11)) (vp_nar .boolean 0))) 36 (upd (F 36) (Int32.toNatClampNeg (n 11)) 0)) 39 (upd (F 39) (Int32.toNatClampNeg (n 11)) 0)) (upn n 11 z_30)) := hD
        have b_83 := bd_upd b_11 (Int32.toNatClampNeg (n 11)) (x := 0) (by have t_ := ti_0; omega) (by have t_ := ti_0; omega)
        have j_84 : J2 (upd (F 39) (Int32.toNatClampNeg (n 11)) 0) (upd (F 20) (Int32.toNatClampNeg (n 11)) 0) := J2_both j_22 (Int32.toNatClampNeg (n 11)) (Int.le_refl _)
        have j_85 : J4 (upd (F 39) (Int32.toNatClampNeg (n 11)) 0) (F 41) := J4_tm j_24 (Int32.toNatClampNeg (n 11)) (Or.inr (by have t_0 := ti_0; omega))
        have j_86 : J5 (upd (F 39) (Int32.toNatClampNeg (n 11)) 0) (upd (F 36) (Int32.toNatClampNeg (n 11)) 0) (F 41) (F 43) (F 42) := J5_tm j_82 (Int32.toNatClampNeg (n 11)) (Or.inr (by have t_0 := ti_0; omega))
        refine lv_iconst (v := 0) hx hb dX10_comes_182 (by decide) ?_
        refine lv_istore (lv' := [(4, .int 0), (3, .int (n 11)), (0, .ref h0), (1, .int v1), (2, .int v2)]) hx hb dX10_comes_183 hl (by decide) rfl (fun ls hl => ?_)
        have L185 : ∀ (fuel : Nat) (x_87 : Int32) (f_88 : Nat → Int32) (f_89 : Nat → Int32) (H : Heap) (locs : List Loc) (ls : Array Slot), (9 - x_87.toInt).toNat < fuel → 0 ≤ x_87.toInt ∧ x_87.toInt ≤ 8 → va_P (dC, dI) vwCl (w10 h0 X C (upF (upF (upF (upF (upF (upF (upF (upF (upF (upF (upF (upF (upF (upF (upF (upF (upF (upF (upF (upF F 13 (upd (F 13) (Int32.toNatClampNeg (n 11)) 0)) 14 (upd (F 14) (Int32.toNatClampNeg (n 11)) v1)) 15 (upd (F 15) (Int32.toNatClampNeg (n 11)) v2)) 16 (upd (F 16) (Int32.toNatClampNeg (n 11)) z_37)) 17 (upd (F 17) (Int32.toNatClampNeg (n 11)) z_41)) 18 (upd (F 18) (Int32.toNatClampNeg (n 11)) (-1))) 19 (upd (F 19) (Int32.toNatClampNeg (n 11)) 0)) 20 (upd (F 20) (Int32.toNatClampNeg (n 11)) 0)) 21 (upd (F 21) (Int32.toNatClampNeg (n 11)) (-1))) 22 (upd (F 22) (Int32.toNatClampNeg (n 11)) (-1))) 23 (upd (F 23) (Int32.toNatClampNeg (n 11)) 0)) 24 (upd (F 24) (Int32.toNatClampNeg (n 11)) (vp_nar .boolean 0))) 25 (upd (F 25) (Int32.toNatClampNeg (n 11)) (vp_nar .boolean 0))) 26 (upd (F 26) (Int32.toNatClampNeg (n 11)) (vp_nar .boolean 0))) 27 (upd (F 27) (Int32.toNatClampNeg (n 11)) (vp_nar .boolean 0))) 32 (upd (F 32) (Int32.toNatClampNeg (n 11)) (vp_nar .boolean 0))) 33 f_88) 35 f_89) 36 (upd (F 36) (Int32.toNatClampNeg (n 11)) 0)) 39 (upd (F 39) (Int32.toNatClampNeg (n 11)) 0)) (upn n 11 z_30)) H → va_D A (w10 h0 X C (upF (upF (upF (upF (upF (upF (upF (upF (upF (upF (upF (upF (upF (upF (upF (upF (upF (upF (upF (upF F 13 (upd (F 13) (Int32.toNatClampNeg (n 11)) 0)) 14 (upd (F 14) (Int32.toNatClampNeg (n 11)) v1)) 15 (upd (F 15) (Int32.toNatClampNeg (n 11)) v2)) 16 (upd (F 16) (Int32.toNatClampNeg (n 11)) z_37)) 17 (upd (F 17) (Int32.toNatClampNeg (n 11)) z_41)) 18 (upd (F 18) (Int32.toNatClampNeg (n 11)) (-1))) 19 (upd (F 19) (Int32.toNatClampNeg (n 11)) 0)) 20 (upd (F 20) (Int32.toNatClampNeg (n 11)) 0)) 21 (upd (F 21) (Int32.toNatClampNeg (n 11)) (-1))) 22 (upd (F 22) (Int32.toNatClampNeg (n 11)) (-1))) 23 (upd (F 23) (Int32.toNatClampNeg (n 11)) 0)) 24 (upd (F 24) (Int32.toNatClampNeg (n 11)) (vp_nar .boolean 0))) 25 (upd (F 25) (Int32.toNatClampNeg (n 11)) (vp_nar .boolean 0))) 26 (upd (F 26) (Int32.toNatClampNeg (n 11)) (vp_nar .boolean 0))) 27 (upd (F 27) (Int32.toNatClampNeg (n 11)) (vp_nar .boolean 0))) 32 (upd (F 32) (Int32.toNatClampNeg (n 11)) (vp_nar .boolean 0))) 33 f_88) 35 f_89) 36 (upd (F 36) (Int32.toNatClampNeg (n 11)) 0)) 39 (upd (F 39) (Int32.toNatClampNeg (n 11)) 0)) (upn n 11 z_30)) → va_S A s.heap H locs → lv_has ls 5 [(4, .int x_87), (3, .int (n 11)), (0, .ref h0), (1, .int v1), (2, .int v2)] → W p l e (headSpec (.code yX10_comes cX10_comes 5 (some .int) :: gw) ({ frames := 2, cells := 0, slots := 0, locals := 47 })).room s m ([.ref h0, .int v1, .int v2] : List Value).toArray below meth c H locs 0 0 (MQ below (va_Qi (fun (r : Int32) (u : (Nat → Nat → Int32) × (Nat → Int32)) => 0 ≤ r.toInt ∧ r.toInt < 200 ∧ (∀ j : Nat, (j : Int) < (n 11).toInt → (u.1 13 j).toInt = (F 13 j).toInt ∧ (u.1 20 j).toInt = (F 20 j).toInt ∧ (u.1 24 j).toInt = (F 24 j).toInt) ∧ (u.2 11).toInt = (n 11).toInt + 1) (fun u t => va_P (dC, dI) vwCl (w10 h0 X C u.1 u.2) t.heap ∧ va_D A (w10 h0 X C u.1 u.2) ∧ I10 kp u.1 u.2) A) ([.ref h0, .int v1, .int v2] : List Value).toArray s 0 0 A) (F0 m 185 ls []) := by
          intro fuel
          induction fuel with
          | zero => intro x_87 f_88 f_89 H locs ls hm; exact absurd hm (Nat.not_lt_zero _)
          | succ fuel_91 ih_90 =>
            intro x_87 f_88 f_89 H locs ls hm_93 v_92 hP hD hS hl
            refine lv_iload hx hb dX10_comes_185 (lv_at hl 0 rfl) ?_
            refine lv_bipush (v := 8) hx hb dX10_comes_187 (by decide) ?_
            refine lv_icmp_ge (tgt := 245) hx hb dX10_comes_189 (by decide) (fun c_94 => ?_) (fun c_94 => ?_)
            · simp only [i_lt, i_le, i_eq, ti_8] at c_94
              refine lv_iload_n hx hb dX10_comes_245 rfl (lv_at hl 1 rfl) ?_
              exact W.iret (v := n 11) hx hb hr (fun t ht hW => ⟨⟨n 11, ((upF (upF (upF (upF (upF (upF (upF (upF (upF (upF (upF (upF (upF (upF (upF (upF (upF (upF (upF (upF F 13 (upd (F 13) (Int32.toNatClampNeg (n 11)) 0)) 14 (upd (F 14) (Int32.toNatClampNeg (n 11)) v1)) 15 (upd (F 15) (Int32.toNatClampNeg (n 11)) v2)) 16 (upd (F 16) (Int32.toNatClampNeg (n 11)) z_37)) 17 (upd (F 17) (Int32.toNatClampNeg (n 11)) z_41)) 18 (upd (F 18) (Int32.toNatClampNeg (n 11)) (-1))) 19 (upd (F 19) (Int32.toNatClampNeg (n 11)) 0)) 20 (upd (F 20) (Int32.toNatClampNeg (n 11)) 0)) 21 (upd (F 21) (Int32.toNatClampNeg (n 11)) (-1))) 22 (upd (F 22) (Int32.toNatClampNeg (n 11)) (-1))) 23 (upd (F 23) (Int32.toNatClampNeg (n 11)) 0)) 24 (upd (F 24) (Int32.toNatClampNeg (n 11)) (vp_nar .boolean 0))) 25 (upd (F 25) (Int32.toNatClampNeg (n 11)) (vp_nar .boolean 0))) 26 (upd (F 26) (Int32.toNatClampNeg (n 11)) (vp_nar .boolean 0))) 27 (upd (F 27) (Int32.toNatClampNeg (n 11)) (vp_nar .boolean 0))) 32 (upd (F 32) (Int32.toNatClampNeg (n 11)) (vp_nar .boolean 0))) 33 f_88) 35 f_89) 36 (upd (F 36) (Int32.toNatClampNeg (n 11)) 0)) 39 (upd (F 39) (Int32.toNatClampNeg (n 11)) 0)), (upn n 11 z_30)), rfl, ⟨by omega, by omega, fun j hj => ⟨by show ((upd (F 13) (Int32.toNatClampNeg (n 11)) 0) j).toInt = (F 13 j).toInt; rw [upd_ne _ _ _ _ (by have ce := cl_eq (n 11); omega)], by show ((upd (F 20) (Int32.toNatClampNeg (n 11)) 0) j).toInt = (F 20 j).toInt; rw [upd_ne _ _ _ _ (by have ce := cl_eq (n 11); omega)], by show ((upd (F 24) (Int32.toNatClampNeg (n 11)) (vp_nar .boolean 0)) j).toInt = (F 24 j).toInt; rw [upd_ne _ _ _ _ (by have ce := cl_eq (n 11); omega)]⟩, by show z_30.toInt = (n 11).toInt + 1; omega⟩, by rw [ht]; exact hP, hD, ⟨b_1, b_2, b_32, b_34, b_35, b_38, b_42, b_44, b_9, b_80, b_83, b_12, i_13, i_31, i_15, i_16, i_17, i_18, i_19, j_20, j_43, j_84, j_81, j_85, j_86, j_79, j_77, j_78, j_29⟩⟩, hS.F ht⟩) hS.2.2 dX10_comes_246
            · simp only [i_lt, i_le, i_eq, ti_8] at c_94
              refine lv_aload_n hx hb dX10_comes_192 rfl (lv_at hl 2 rfl) ?_
              refine va_get (D := (dC, dI)) (ci := 10) (v := .ref (X 35)) (C := RX10) (T := TX10) (N := 60) hx hb hg gb_10 hown hK hP 0 rfl rfl 35 (by decide) (hg _ gm_fieldLink_RX10_111_ErrandGuildModel_hasWritten_AZ_) (fun _ h9 => h9) rfl dX10_comes_193 ?_
              refine lv_bipush (v := 8) hx hb dX10_comes_196 (by decide) ?_
              refine lv_iload_n hx hb dX10_comes_198 rfl (lv_at hl 1 rfl) ?_
              refine lv_imul hx hb dX10_comes_199 ?_
              refine lv_topi (fun z_95 ez_95 => ?_)
              have tz_95 : z_95.toInt = 8 * (n 11).toInt := ar_mul ti_8 rfl ez_95 (by omega)
              refine lv_iload hx hb dX10_comes_200 (lv_at hl 0 rfl) ?_
              refine lv_iadd hx hb dX10_comes_202 ?_
              refine lv_topi (fun z_96 ez_96 => ?_)
              have tz_96 : z_96.toInt = z_95.toInt + x_87.toInt := ar_add rfl rfl ez_96 (by omega)
              refine lv_iconst (v := 0) hx hb dX10_comes_203 (by decide) ?_
              refine va_zast hx hb hK hP hD hS 33 32 rfl rfl (vp_in_iff.mpr ⟨by omega, by omega⟩) dX10_comes_204 (fun H locs hP hD hS => ?_)
              have hP : va_P (dC, dI) vwCl (w10 h0 X C (upF (upF (upF (upF (upF (upF (upF (upF (upF (upF (upF (upF (upF (upF (upF (upF (upF (upF (upF (upF F 13 (upd (F 13) (Int32.toNatClampNeg (n 11)) 0)) 14 (upd (F 14) (Int32.toNatClampNeg (n 11)) v1)) 15 (upd (F 15) (Int32.toNatClampNeg (n 11)) v2)) 16 (upd (F 16) (Int32.toNatClampNeg (n 11)) z_37)) 17 (upd (F 17) (Int32.toNatClampNeg (n 11)) z_41)) 18 (upd (F 18) (Int32.toNatClampNeg (n 11)) (-1))) 19 (upd (F 19) (Int32.toNatClampNeg (n 11)) 0)) 20 (upd (F 20) (Int32.toNatClampNeg (n 11)) 0)) 21 (upd (F 21) (Int32.toNatClampNeg (n 11)) (-1))) 22 (upd (F 22) (Int32.toNatClampNeg (n 11)) (-1))) 23 (upd (F 23) (Int32.toNatClampNeg (n 11)) 0)) 24 (upd (F 24) (Int32.toNatClampNeg (n 11)) (vp_nar .boolean 0))) 25 (upd (F 25) (Int32.toNatClampNeg (n 11)) (vp_nar .boolean 0))) 26 (upd (F 26) (Int32.toNatClampNeg (n 11)) (vp_nar .boolean 0))) 27 (upd (F 27) (Int32.toNatClampNeg (n 11)) (vp_nar .boolean 0))) 32 (upd (F 32) (Int32.toNatClampNeg (n 11)) (vp_nar .boolean 0))) 33 f_88) 35 (upd f_89 (Int32.toNatClampNeg z_96) (vp_nar .boolean 0))) 36 (upd (F 36) (Int32.toNatClampNeg (n 11)) 0)) 39 (upd (F 39) (Int32.toNatClampNeg (n 11)) 0)) (upn n 11 z_30)) H := hP
              have hD : va_D A (w10 h0 X C (upF (upF (upF (upF (upF (upF (upF (upF (upF (upF (upF (upF (upF (upF (upF (upF (upF (upF (upF (upF F 13 (upd (F 13) (Int32.toNatClampNeg (n 11)) 0)) 14 (upd (F 14) (Int32.toNatClampNeg (n 11)) v1)) 15 (upd (F 15) (Int32.toNatClampNeg (n 11)) v2)) 16 (upd (F 16) (Int32.toNatClampNeg (n 11)) z_37)) 17 (upd (F 17) (Int32.toNatClampNeg (n 11)) z_41)) 18 (upd (F 18) (Int32.toNatClampNeg (n 11)) (-1))) 19 (upd (F 19) (Int32.toNatClampNeg (n 11)) 0)) 20 (upd (F 20) (Int32.toNatClampNeg (n 11)) 0)) 21 (upd (F 21) (Int32.toNatClampNeg (n 11)) (-1))) 22 (upd (F 22) (Int32.toNatClampNeg (n 11)) (-1))) 23 (upd (F 23) (Int32.toNatClampNeg (n 11)) 0)) 24 (upd (F 24) (Int32.toNatClampNeg (n 11)) (vp_nar .boolean 0))) 25 (upd (F 25) (Int32.toNatClampNeg (n 11)) (vp_nar .boolean 0))) 26 (upd (F 26) (Int32.toNatClampNeg (n 11)) (vp_nar .boolean 0))) 27 (upd (F 27) (Int32.toNatClampNeg (n 11)) (vp_nar .boolean 0))) 32 (upd (F 32) (Int32.toNatClampNeg (n 11)) (vp_nar .boolean 0))) 33 f_88) 35 (upd f_89 (Int32.toNatClampNeg z_96) (vp_nar .boolean 0))) 36 (upd (F 36) (Int32.toNatClampNeg (n 11)) 0)) 39 (upd (F 39) (Int32.toNatClampNeg (n 11)) 0)) (upn n 11 z_30)) := hD
              refine lv_aload_n hx hb dX10_comes_205 rfl (lv_at hl 2 rfl) ?_
              refine va_get (D := (dC, dI)) (ci := 10) (v := .ref (X 33)) (C := RX10) (T := TX10) (N := 60) hx hb hg gb_10 hown hK hP 0 rfl rfl 33 (by decide) (hg _ gm_fieldLink_RX10_105_ErrandGuildModel_kept_AI_) (fun _ h9 => h9) rfl dX10_comes_206 ?_
              refine lv_bipush (v := 8) hx hb dX10_comes_209 (by decide) ?_
              refine lv_iload_n hx hb dX10_comes_211 rfl (lv_at hl 1 rfl) ?_
              refine lv_imul hx hb dX10_comes_212 ?_
              refine lv_topi (fun z_97 ez_97 => ?_)
              have tz_97 : z_97.toInt = 8 * (n 11).toInt := ar_mul ti_8 rfl ez_97 (by omega)
              refine lv_iload hx hb dX10_comes_213 (lv_at hl 0 rfl) ?_
              refine lv_iadd hx hb dX10_comes_215 ?_
              refine lv_topi (fun z_98 ez_98 => ?_)
              have tz_98 : z_98.toInt = z_97.toInt + x_87.toInt := ar_add rfl rfl ez_98 (by omega)
              refine lv_iload_n hx hb dX10_comes_216 rfl (lv_at hl 4 rfl) ?_
              refine lv_iconst (v := -1) hx hb dX10_comes_217 (by decide) ?_
              refine lv_icmp_ne (tgt := 231) hx hb dX10_comes_218 (by decide) (fun c_99 => ?_) (fun c_99 => ?_)
              · simp only [i_lt, i_le, i_eq, ti_m1] at c_99
                exfalso
                omega
              · simp only [i_lt, i_le, i_eq, ti_m1] at c_99
                refine lv_aload_n hx hb dX10_comes_221 rfl (lv_at hl 2 rfl) ?_
                refine va_get (D := (dC, dI)) (ci := 10) (v := .ref (X 1)) (C := RX10) (T := TX10) (N := 60) hx hb hg gb_10 hown hK hP 0 rfl rfl 1 (by decide) (hg _ gm_fieldLink_RX10_13_ErrandGuildModel_first_AI_) (fun _ h9 => h9) rfl dX10_comes_222 ?_
                refine lv_iload hx hb dX10_comes_225 (lv_at hl 0 rfl) ?_
                refine va_iald hx hb hK hP 2 1 rfl rfl (vp_in_iff.mpr ⟨by omega, by omega⟩) dX10_comes_227 ?_
                refine lv_topi (fun z_100 ez_100 => ?_)
                have qz_100 := congrArg Int32.toInt ez_100
                refine lv_goto (tgt := 238) hx hb dX10_comes_228 (by decide) ?_
                refine va_iast hx hb hK hP hD hS 31 30 rfl rfl (vp_in_iff.mpr ⟨by omega, by omega⟩) dX10_comes_238 (fun H locs hP hD hS => ?_)
                have hP : va_P (dC, dI) vwCl (w10 h0 X C (upF (upF (upF (upF (upF (upF (upF (upF (upF (upF (upF (upF (upF (upF (upF (upF (upF (upF (upF (upF F 13 (upd (F 13) (Int32.toNatClampNeg (n 11)) 0)) 14 (upd (F 14) (Int32.toNatClampNeg (n 11)) v1)) 15 (upd (F 15) (Int32.toNatClampNeg (n 11)) v2)) 16 (upd (F 16) (Int32.toNatClampNeg (n 11)) z_37)) 17 (upd (F 17) (Int32.toNatClampNeg (n 11)) z_41)) 18 (upd (F 18) (Int32.toNatClampNeg (n 11)) (-1))) 19 (upd (F 19) (Int32.toNatClampNeg (n 11)) 0)) 20 (upd (F 20) (Int32.toNatClampNeg (n 11)) 0)) 21 (upd (F 21) (Int32.toNatClampNeg (n 11)) (-1))) 22 (upd (F 22) (Int32.toNatClampNeg (n 11)) (-1))) 23 (upd (F 23) (Int32.toNatClampNeg (n 11)) 0)) 24 (upd (F 24) (Int32.toNatClampNeg (n 11)) (vp_nar .boolean 0))) 25 (upd (F 25) (Int32.toNatClampNeg (n 11)) (vp_nar .boolean 0))) 26 (upd (F 26) (Int32.toNatClampNeg (n 11)) (vp_nar .boolean 0))) 27 (upd (F 27) (Int32.toNatClampNeg (n 11)) (vp_nar .boolean 0))) 32 (upd (F 32) (Int32.toNatClampNeg (n 11)) (vp_nar .boolean 0))) 33 (upd f_88 (Int32.toNatClampNeg z_98) z_100)) 35 (upd f_89 (Int32.toNatClampNeg z_96) (vp_nar .boolean 0))) 36 (upd (F 36) (Int32.toNatClampNeg (n 11)) 0)) 39 (upd (F 39) (Int32.toNatClampNeg (n 11)) 0)) (upn n 11 z_30)) H := hP
                have hD : va_D A (w10 h0 X C (upF (upF (upF (upF (upF (upF (upF (upF (upF (upF (upF (upF (upF (upF (upF (upF (upF (upF (upF (upF F 13 (upd (F 13) (Int32.toNatClampNeg (n 11)) 0)) 14 (upd (F 14) (Int32.toNatClampNeg (n 11)) v1)) 15 (upd (F 15) (Int32.toNatClampNeg (n 11)) v2)) 16 (upd (F 16) (Int32.toNatClampNeg (n 11)) z_37)) 17 (upd (F 17) (Int32.toNatClampNeg (n 11)) z_41)) 18 (upd (F 18) (Int32.toNatClampNeg (n 11)) (-1))) 19 (upd (F 19) (Int32.toNatClampNeg (n 11)) 0)) 20 (upd (F 20) (Int32.toNatClampNeg (n 11)) 0)) 21 (upd (F 21) (Int32.toNatClampNeg (n 11)) (-1))) 22 (upd (F 22) (Int32.toNatClampNeg (n 11)) (-1))) 23 (upd (F 23) (Int32.toNatClampNeg (n 11)) 0)) 24 (upd (F 24) (Int32.toNatClampNeg (n 11)) (vp_nar .boolean 0))) 25 (upd (F 25) (Int32.toNatClampNeg (n 11)) (vp_nar .boolean 0))) 26 (upd (F 26) (Int32.toNatClampNeg (n 11)) (vp_nar .boolean 0))) 27 (upd (F 27) (Int32.toNatClampNeg (n 11)) (vp_nar .boolean 0))) 32 (upd (F 32) (Int32.toNatClampNeg (n 11)) (vp_nar .boolean 0))) 33 (upd f_88 (Int32.toNatClampNeg z_98) z_100)) 35 (upd f_89 (Int32.toNatClampNeg z_96) (vp_nar .boolean 0))) 36 (upd (F 36) (Int32.toNatClampNeg (n 11)) 0)) 39 (upd (F 39) (Int32.toNatClampNeg (n 11)) 0)) (upn n 11 z_30)) := hD
                obtain ⟨y_101, ey_101⟩ : ∃ q : Int32, q = x_87 + (1) := ⟨_, rfl⟩
                refine lv_iinc (v := y_101) (lv' := [(4, .int y_101), (3, .int (n 11)), (0, .ref h0), (1, .int v1), (2, .int v2)]) hx hb dX10_comes_239 hl (k := 0) rfl (by rw [ey_101]; rfl) (by decide) rfl (fun ls hl => ?_)
                have ty_101 : y_101.toInt = x_87.toInt + (1) := ar_add rfl ti_1 ey_101 (by omega)
                refine lv_goto (tgt := 185) hx hb dX10_comes_242 (by decide) ?_
                exact ih_90 y_101 (upd f_88 (Int32.toNatClampNeg z_98) z_100) (upd f_89 (Int32.toNatClampNeg z_96) (vp_nar .boolean 0))  H locs ls (by omega) (by omega) hP hD hS (lv_sub hl [0, 1, 2, 3, 4] rfl)
        exact L185 _ (0) (F 33) (F 35)  _ _ _ (Nat.lt_succ_self _) (by have t_0 := ti_0; omega) hP hD hS (lv_sub hl [0, 1, 2, 3, 4] rfl)
    · simp only [i_lt, i_le, i_eq, ti_m1] at c_39
      refine lv_iconst (v := 0) hx hb dX10_comes_64 (by decide) ?_
      refine lv_goto (tgt := 76) hx hb dX10_comes_65 (by decide) ?_
      refine va_iast hx hb hK hP hD hS 15 14 rfl rfl (vp_in_iff.mpr ⟨by omega, by omega⟩) dX10_comes_76 (fun H locs hP hD hS => ?_)
      have hP : va_P (dC, dI) vwCl (w10 h0 X C (upF (upF (upF (upF (upF F 13 (upd (F 13) (Int32.toNatClampNeg (n 11)) 0)) 14 (upd (F 14) (Int32.toNatClampNeg (n 11)) v1)) 15 (upd (F 15) (Int32.toNatClampNeg (n 11)) v2)) 16 (upd (F 16) (Int32.toNatClampNeg (n 11)) z_37)) 17 (upd (F 17) (Int32.toNatClampNeg (n 11)) 0)) (upn n 11 z_30)) H := hP
      have hD : va_D A (w10 h0 X C (upF (upF (upF (upF (upF F 13 (upd (F 13) (Int32.toNatClampNeg (n 11)) 0)) 14 (upd (F 14) (Int32.toNatClampNeg (n 11)) v1)) 15 (upd (F 15) (Int32.toNatClampNeg (n 11)) v2)) 16 (upd (F 16) (Int32.toNatClampNeg (n 11)) z_37)) 17 (upd (F 17) (Int32.toNatClampNeg (n 11)) 0)) (upn n 11 z_30)) := hD
      refine lv_aload_n hx hb dX10_comes_77 rfl (lv_at hl 1 rfl) ?_
      refine va_get (D := (dC, dI)) (ci := 10) (v := .ref (X 18)) (C := RX10) (T := TX10) (N := 60) hx hb hg gb_10 hown hK hP 0 rfl rfl 18 (by decide) (hg _ gm_fieldLink_RX10_60_ErrandGuildModel_thread_AI_) (fun _ h9 => h9) rfl dX10_comes_78 ?_
      refine lv_iload_n hx hb dX10_comes_81 rfl (lv_at hl 0 rfl) ?_
      refine lv_iconst (v := -1) hx hb dX10_comes_82 (by decide) ?_
      refine va_iast hx hb hK hP hD hS 16 15 rfl rfl (vp_in_iff.mpr ⟨by omega, by omega⟩) dX10_comes_83 (fun H locs hP hD hS => ?_)
      have hP : va_P (dC, dI) vwCl (w10 h0 X C (upF (upF (upF (upF (upF (upF F 13 (upd (F 13) (Int32.toNatClampNeg (n 11)) 0)) 14 (upd (F 14) (Int32.toNatClampNeg (n 11)) v1)) 15 (upd (F 15) (Int32.toNatClampNeg (n 11)) v2)) 16 (upd (F 16) (Int32.toNatClampNeg (n 11)) z_37)) 17 (upd (F 17) (Int32.toNatClampNeg (n 11)) 0)) 18 (upd (F 18) (Int32.toNatClampNeg (n 11)) (-1))) (upn n 11 z_30)) H := hP
      have hD : va_D A (w10 h0 X C (upF (upF (upF (upF (upF (upF F 13 (upd (F 13) (Int32.toNatClampNeg (n 11)) 0)) 14 (upd (F 14) (Int32.toNatClampNeg (n 11)) v1)) 15 (upd (F 15) (Int32.toNatClampNeg (n 11)) v2)) 16 (upd (F 16) (Int32.toNatClampNeg (n 11)) z_37)) 17 (upd (F 17) (Int32.toNatClampNeg (n 11)) 0)) 18 (upd (F 18) (Int32.toNatClampNeg (n 11)) (-1))) (upn n 11 z_30)) := hD
      have b_102 := bd_upd b_7 (Int32.toNatClampNeg (n 11)) (x := (-1)) (by have t_ := ti_m1; omega) (by have t_ := ti_m1; omega)
      have j_103 : J1 (upd (F 13) (Int32.toNatClampNeg (n 11)) 0) (upd (F 18) (Int32.toNatClampNeg (n 11)) (-1)) := J1_th j_33 (Int32.toNatClampNeg (n 11)) (fun h => by rw [upd_eq] at h; have t_0 := ti_0; omega)
      refine lv_aload_n hx hb dX10_comes_84 rfl (lv_at hl 1 rfl) ?_
      refine va_get (D := (dC, dI)) (ci := 10) (v := .ref (X 19)) (C := RX10) (T := TX10) (N := 60) hx hb hg gb_10 hown hK hP 0 rfl rfl 19 (by decide) (hg _ gm_fieldLink_RX10_63_ErrandGuildModel_sum_AI_) (fun _ h9 => h9) rfl dX10_comes_85 ?_
      refine lv_iload_n hx hb dX10_comes_88 rfl (lv_at hl 0 rfl) ?_
      refine lv_iconst (v := 0) hx hb dX10_comes_89 (by decide) ?_
      refine va_iast hx hb hK hP hD hS 17 16 rfl rfl (vp_in_iff.mpr ⟨by omega, by omega⟩) dX10_comes_90 (fun H locs hP hD hS => ?_)
      have hP : va_P (dC, dI) vwCl (w10 h0 X C (upF (upF (upF (upF (upF (upF (upF F 13 (upd (F 13) (Int32.toNatClampNeg (n 11)) 0)) 14 (upd (F 14) (Int32.toNatClampNeg (n 11)) v1)) 15 (upd (F 15) (Int32.toNatClampNeg (n 11)) v2)) 16 (upd (F 16) (Int32.toNatClampNeg (n 11)) z_37)) 17 (upd (F 17) (Int32.toNatClampNeg (n 11)) 0)) 18 (upd (F 18) (Int32.toNatClampNeg (n 11)) (-1))) 19 (upd (F 19) (Int32.toNatClampNeg (n 11)) 0)) (upn n 11 z_30)) H := hP
      have hD : va_D A (w10 h0 X C (upF (upF (upF (upF (upF (upF (upF F 13 (upd (F 13) (Int32.toNatClampNeg (n 11)) 0)) 14 (upd (F 14) (Int32.toNatClampNeg (n 11)) v1)) 15 (upd (F 15) (Int32.toNatClampNeg (n 11)) v2)) 16 (upd (F 16) (Int32.toNatClampNeg (n 11)) z_37)) 17 (upd (F 17) (Int32.toNatClampNeg (n 11)) 0)) 18 (upd (F 18) (Int32.toNatClampNeg (n 11)) (-1))) 19 (upd (F 19) (Int32.toNatClampNeg (n 11)) 0)) (upn n 11 z_30)) := hD
      refine lv_aload_n hx hb dX10_comes_91 rfl (lv_at hl 1 rfl) ?_
      refine va_get (D := (dC, dI)) (ci := 10) (v := .ref (X 20)) (C := RX10) (T := TX10) (N := 60) hx hb hg gb_10 hown hK hP 0 rfl rfl 20 (by decide) (hg _ gm_fieldLink_RX10_66_ErrandGuildModel_place_AI_) (fun _ h9 => h9) rfl dX10_comes_92 ?_
      refine lv_iload_n hx hb dX10_comes_95 rfl (lv_at hl 0 rfl) ?_
      refine lv_iconst (v := 0) hx hb dX10_comes_96 (by decide) ?_
      refine va_iast hx hb hK hP hD hS 18 17 rfl rfl (vp_in_iff.mpr ⟨by omega, by omega⟩) dX10_comes_97 (fun H locs hP hD hS => ?_)
      have hP : va_P (dC, dI) vwCl (w10 h0 X C (upF (upF (upF (upF (upF (upF (upF (upF F 13 (upd (F 13) (Int32.toNatClampNeg (n 11)) 0)) 14 (upd (F 14) (Int32.toNatClampNeg (n 11)) v1)) 15 (upd (F 15) (Int32.toNatClampNeg (n 11)) v2)) 16 (upd (F 16) (Int32.toNatClampNeg (n 11)) z_37)) 17 (upd (F 17) (Int32.toNatClampNeg (n 11)) 0)) 18 (upd (F 18) (Int32.toNatClampNeg (n 11)) (-1))) 19 (upd (F 19) (Int32.toNatClampNeg (n 11)) 0)) 20 (upd (F 20) (Int32.toNatClampNeg (n 11)) 0)) (upn n 11 z_30)) H := hP
      have hD : va_D A (w10 h0 X C (upF (upF (upF (upF (upF (upF (upF (upF F 13 (upd (F 13) (Int32.toNatClampNeg (n 11)) 0)) 14 (upd (F 14) (Int32.toNatClampNeg (n 11)) v1)) 15 (upd (F 15) (Int32.toNatClampNeg (n 11)) v2)) 16 (upd (F 16) (Int32.toNatClampNeg (n 11)) z_37)) 17 (upd (F 17) (Int32.toNatClampNeg (n 11)) 0)) 18 (upd (F 18) (Int32.toNatClampNeg (n 11)) (-1))) 19 (upd (F 19) (Int32.toNatClampNeg (n 11)) 0)) 20 (upd (F 20) (Int32.toNatClampNeg (n 11)) 0)) (upn n 11 z_30)) := hD
      have b_104 := bd_upd b_8 (Int32.toNatClampNeg (n 11)) (x := 0) (by have t_ := ti_0; omega) (by have t_ := ti_0; omega)
      have j_105 : J7 (F 24) (upd (F 20) (Int32.toNatClampNeg (n 11)) 0) := J7_pl j_27 (Int32.toNatClampNeg (n 11)) (Or.inr (by have t_0 := ti_0; omega))
      refine lv_aload_n hx hb dX10_comes_98 rfl (lv_at hl 1 rfl) ?_
      refine va_get (D := (dC, dI)) (ci := 10) (v := .ref (X 21)) (C := RX10) (T := TX10) (N := 60) hx hb hg gb_10 hown hK hP 0 rfl rfl 21 (by decide) (hg _ gm_fieldLink_RX10_69_ErrandGuildModel_gaveAt_AI_) (fun _ h9 => h9) rfl dX10_comes_99 ?_
      refine lv_iload_n hx hb dX10_comes_102 rfl (lv_at hl 0 rfl) ?_
      refine lv_iload_n hx hb dX10_comes_103 rfl (lv_at hl 3 rfl) ?_
      refine lv_iconst (v := -1) hx hb dX10_comes_104 (by decide) ?_
      refine lv_icmp_ne (tgt := 112) hx hb dX10_comes_105 (by decide) (fun c_106 => ?_) (fun c_106 => ?_)
      · simp only [i_lt, i_le, i_eq, ti_m1] at c_106
        exfalso
        omega
      · simp only [i_lt, i_le, i_eq, ti_m1] at c_106
        refine lv_iconst (v := -1) hx hb dX10_comes_108 (by decide) ?_
        refine lv_goto (tgt := 118) hx hb dX10_comes_109 (by decide) ?_
        refine va_iast hx hb hK hP hD hS 19 18 rfl rfl (vp_in_iff.mpr ⟨by omega, by omega⟩) dX10_comes_118 (fun H locs hP hD hS => ?_)
        have hP : va_P (dC, dI) vwCl (w10 h0 X C (upF (upF (upF (upF (upF (upF (upF (upF (upF F 13 (upd (F 13) (Int32.toNatClampNeg (n 11)) 0)) 14 (upd (F 14) (Int32.toNatClampNeg (n 11)) v1)) 15 (upd (F 15) (Int32.toNatClampNeg (n 11)) v2)) 16 (upd (F 16) (Int32.toNatClampNeg (n 11)) z_37)) 17 (upd (F 17) (Int32.toNatClampNeg (n 11)) 0)) 18 (upd (F 18) (Int32.toNatClampNeg (n 11)) (-1))) 19 (upd (F 19) (Int32.toNatClampNeg (n 11)) 0)) 20 (upd (F 20) (Int32.toNatClampNeg (n 11)) 0)) 21 (upd (F 21) (Int32.toNatClampNeg (n 11)) (-1))) (upn n 11 z_30)) H := hP
        have hD : va_D A (w10 h0 X C (upF (upF (upF (upF (upF (upF (upF (upF (upF F 13 (upd (F 13) (Int32.toNatClampNeg (n 11)) 0)) 14 (upd (F 14) (Int32.toNatClampNeg (n 11)) v1)) 15 (upd (F 15) (Int32.toNatClampNeg (n 11)) v2)) 16 (upd (F 16) (Int32.toNatClampNeg (n 11)) z_37)) 17 (upd (F 17) (Int32.toNatClampNeg (n 11)) 0)) 18 (upd (F 18) (Int32.toNatClampNeg (n 11)) (-1))) 19 (upd (F 19) (Int32.toNatClampNeg (n 11)) 0)) 20 (upd (F 20) (Int32.toNatClampNeg (n 11)) 0)) 21 (upd (F 21) (Int32.toNatClampNeg (n 11)) (-1))) (upn n 11 z_30)) := hD
        refine lv_aload_n hx hb dX10_comes_119 rfl (lv_at hl 1 rfl) ?_
        refine va_get (D := (dC, dI)) (ci := 10) (v := .ref (X 22)) (C := RX10) (T := TX10) (N := 60) hx hb hg gb_10 hown hK hP 0 rfl rfl 22 (by decide) (hg _ gm_fieldLink_RX10_72_ErrandGuildModel_endedAt_AI_) (fun _ h9 => h9) rfl dX10_comes_120 ?_
        refine lv_iload_n hx hb dX10_comes_123 rfl (lv_at hl 0 rfl) ?_
        refine lv_iconst (v := -1) hx hb dX10_comes_124 (by decide) ?_
        refine va_iast hx hb hK hP hD hS 20 19 rfl rfl (vp_in_iff.mpr ⟨by omega, by omega⟩) dX10_comes_125 (fun H locs hP hD hS => ?_)
        have hP : va_P (dC, dI) vwCl (w10 h0 X C (upF (upF (upF (upF (upF (upF (upF (upF (upF (upF F 13 (upd (F 13) (Int32.toNatClampNeg (n 11)) 0)) 14 (upd (F 14) (Int32.toNatClampNeg (n 11)) v1)) 15 (upd (F 15) (Int32.toNatClampNeg (n 11)) v2)) 16 (upd (F 16) (Int32.toNatClampNeg (n 11)) z_37)) 17 (upd (F 17) (Int32.toNatClampNeg (n 11)) 0)) 18 (upd (F 18) (Int32.toNatClampNeg (n 11)) (-1))) 19 (upd (F 19) (Int32.toNatClampNeg (n 11)) 0)) 20 (upd (F 20) (Int32.toNatClampNeg (n 11)) 0)) 21 (upd (F 21) (Int32.toNatClampNeg (n 11)) (-1))) 22 (upd (F 22) (Int32.toNatClampNeg (n 11)) (-1))) (upn n 11 z_30)) H := hP
        have hD : va_D A (w10 h0 X C (upF (upF (upF (upF (upF (upF (upF (upF (upF (upF F 13 (upd (F 13) (Int32.toNatClampNeg (n 11)) 0)) 14 (upd (F 14) (Int32.toNatClampNeg (n 11)) v1)) 15 (upd (F 15) (Int32.toNatClampNeg (n 11)) v2)) 16 (upd (F 16) (Int32.toNatClampNeg (n 11)) z_37)) 17 (upd (F 17) (Int32.toNatClampNeg (n 11)) 0)) 18 (upd (F 18) (Int32.toNatClampNeg (n 11)) (-1))) 19 (upd (F 19) (Int32.toNatClampNeg (n 11)) 0)) 20 (upd (F 20) (Int32.toNatClampNeg (n 11)) 0)) 21 (upd (F 21) (Int32.toNatClampNeg (n 11)) (-1))) 22 (upd (F 22) (Int32.toNatClampNeg (n 11)) (-1))) (upn n 11 z_30)) := hD
        refine lv_aload_n hx hb dX10_comes_126 rfl (lv_at hl 1 rfl) ?_
        refine va_get (D := (dC, dI)) (ci := 10) (v := .ref (X 23)) (C := RX10) (T := TX10) (N := 60) hx hb hg gb_10 hown hK hP 0 rfl rfl 23 (by decide) (hg _ gm_fieldLink_RX10_75_ErrandGuildModel_came_AI_) (fun _ h9 => h9) rfl dX10_comes_127 ?_
        refine lv_iload_n hx hb dX10_comes_130 rfl (lv_at hl 0 rfl) ?_
        refine lv_iconst (v := 0) hx hb dX10_comes_131 (by decide) ?_
        refine va_iast hx hb hK hP hD hS 21 20 rfl rfl (vp_in_iff.mpr ⟨by omega, by omega⟩) dX10_comes_132 (fun H locs hP hD hS => ?_)
        have hP : va_P (dC, dI) vwCl (w10 h0 X C (upF (upF (upF (upF (upF (upF (upF (upF (upF (upF (upF F 13 (upd (F 13) (Int32.toNatClampNeg (n 11)) 0)) 14 (upd (F 14) (Int32.toNatClampNeg (n 11)) v1)) 15 (upd (F 15) (Int32.toNatClampNeg (n 11)) v2)) 16 (upd (F 16) (Int32.toNatClampNeg (n 11)) z_37)) 17 (upd (F 17) (Int32.toNatClampNeg (n 11)) 0)) 18 (upd (F 18) (Int32.toNatClampNeg (n 11)) (-1))) 19 (upd (F 19) (Int32.toNatClampNeg (n 11)) 0)) 20 (upd (F 20) (Int32.toNatClampNeg (n 11)) 0)) 21 (upd (F 21) (Int32.toNatClampNeg (n 11)) (-1))) 22 (upd (F 22) (Int32.toNatClampNeg (n 11)) (-1))) 23 (upd (F 23) (Int32.toNatClampNeg (n 11)) 0)) (upn n 11 z_30)) H := hP
        have hD : va_D A (w10 h0 X C (upF (upF (upF (upF (upF (upF (upF (upF (upF (upF (upF F 13 (upd (F 13) (Int32.toNatClampNeg (n 11)) 0)) 14 (upd (F 14) (Int32.toNatClampNeg (n 11)) v1)) 15 (upd (F 15) (Int32.toNatClampNeg (n 11)) v2)) 16 (upd (F 16) (Int32.toNatClampNeg (n 11)) z_37)) 17 (upd (F 17) (Int32.toNatClampNeg (n 11)) 0)) 18 (upd (F 18) (Int32.toNatClampNeg (n 11)) (-1))) 19 (upd (F 19) (Int32.toNatClampNeg (n 11)) 0)) 20 (upd (F 20) (Int32.toNatClampNeg (n 11)) 0)) 21 (upd (F 21) (Int32.toNatClampNeg (n 11)) (-1))) 22 (upd (F 22) (Int32.toNatClampNeg (n 11)) (-1))) 23 (upd (F 23) (Int32.toNatClampNeg (n 11)) 0)) (upn n 11 z_30)) := hD
        refine lv_aload_n hx hb dX10_comes_133 rfl (lv_at hl 1 rfl) ?_
        refine va_get (D := (dC, dI)) (ci := 10) (v := .ref (X 24)) (C := RX10) (T := TX10) (N := 60) hx hb hg gb_10 hown hK hP 0 rfl rfl 24 (by decide) (hg _ gm_fieldLink_RX10_78_ErrandGuildModel_isBack_AZ_) (fun _ h9 => h9) rfl dX10_comes_134 ?_
        refine lv_iload_n hx hb dX10_comes_137 rfl (lv_at hl 0 rfl) ?_
        refine lv_iconst (v := 0) hx hb dX10_comes_138 (by decide) ?_
        refine va_zast hx hb hK hP hD hS 22 21 rfl rfl (vp_in_iff.mpr ⟨by omega, by omega⟩) dX10_comes_139 (fun H locs hP hD hS => ?_)
        have hP : va_P (dC, dI) vwCl (w10 h0 X C (upF (upF (upF (upF (upF (upF (upF (upF (upF (upF (upF (upF F 13 (upd (F 13) (Int32.toNatClampNeg (n 11)) 0)) 14 (upd (F 14) (Int32.toNatClampNeg (n 11)) v1)) 15 (upd (F 15) (Int32.toNatClampNeg (n 11)) v2)) 16 (upd (F 16) (Int32.toNatClampNeg (n 11)) z_37)) 17 (upd (F 17) (Int32.toNatClampNeg (n 11)) 0)) 18 (upd (F 18) (Int32.toNatClampNeg (n 11)) (-1))) 19 (upd (F 19) (Int32.toNatClampNeg (n 11)) 0)) 20 (upd (F 20) (Int32.toNatClampNeg (n 11)) 0)) 21 (upd (F 21) (Int32.toNatClampNeg (n 11)) (-1))) 22 (upd (F 22) (Int32.toNatClampNeg (n 11)) (-1))) 23 (upd (F 23) (Int32.toNatClampNeg (n 11)) 0)) 24 (upd (F 24) (Int32.toNatClampNeg (n 11)) (vp_nar .boolean 0))) (upn n 11 z_30)) H := hP
        have hD : va_D A (w10 h0 X C (upF (upF (upF (upF (upF (upF (upF (upF (upF (upF (upF (upF F 13 (upd (F 13) (Int32.toNatClampNeg (n 11)) 0)) 14 (upd (F 14) (Int32.toNatClampNeg (n 11)) v1)) 15 (upd (F 15) (Int32.toNatClampNeg (n 11)) v2)) 16 (upd (F 16) (Int32.toNatClampNeg (n 11)) z_37)) 17 (upd (F 17) (Int32.toNatClampNeg (n 11)) 0)) 18 (upd (F 18) (Int32.toNatClampNeg (n 11)) (-1))) 19 (upd (F 19) (Int32.toNatClampNeg (n 11)) 0)) 20 (upd (F 20) (Int32.toNatClampNeg (n 11)) 0)) 21 (upd (F 21) (Int32.toNatClampNeg (n 11)) (-1))) 22 (upd (F 22) (Int32.toNatClampNeg (n 11)) (-1))) 23 (upd (F 23) (Int32.toNatClampNeg (n 11)) 0)) 24 (upd (F 24) (Int32.toNatClampNeg (n 11)) (vp_nar .boolean 0))) (upn n 11 z_30)) := hD
        have j_107 : J7 (upd (F 24) (Int32.toNatClampNeg (n 11)) (vp_nar .boolean 0)) (upd (F 20) (Int32.toNatClampNeg (n 11)) 0) := J7_ib j_105 (Int32.toNatClampNeg (n 11)) (Or.inl (by rw [nb0]; decide))
        refine lv_aload_n hx hb dX10_comes_140 rfl (lv_at hl 1 rfl) ?_
        refine va_get (D := (dC, dI)) (ci := 10) (v := .ref (X 25)) (C := RX10) (T := TX10) (N := 60) hx hb hg gb_10 hown hK hP 0 rfl rfl 25 (by decide) (hg _ gm_fieldLink_RX10_81_ErrandGuildModel_isTold_AZ_) (fun _ h9 => h9) rfl dX10_comes_141 ?_
        refine lv_iload_n hx hb dX10_comes_144 rfl (lv_at hl 0 rfl) ?_
        refine lv_iconst (v := 0) hx hb dX10_comes_145 (by decide) ?_
        refine va_zast hx hb hK hP hD hS 23 22 rfl rfl (vp_in_iff.mpr ⟨by omega, by omega⟩) dX10_comes_146 (fun H locs hP hD hS => ?_)
        have hP : va_P (dC, dI) vwCl (w10 h0 X C (upF (upF (upF (upF (upF (upF (upF (upF (upF (upF (upF (upF (upF F 13 (upd (F 13) (Int32.toNatClampNeg (n 11)) 0)) 14 (upd (F 14) (Int32.toNatClampNeg (n 11)) v1)) 15 (upd (F 15) (Int32.toNatClampNeg (n 11)) v2)) 16 (upd (F 16) (Int32.toNatClampNeg (n 11)) z_37)) 17 (upd (F 17) (Int32.toNatClampNeg (n 11)) 0)) 18 (upd (F 18) (Int32.toNatClampNeg (n 11)) (-1))) 19 (upd (F 19) (Int32.toNatClampNeg (n 11)) 0)) 20 (upd (F 20) (Int32.toNatClampNeg (n 11)) 0)) 21 (upd (F 21) (Int32.toNatClampNeg (n 11)) (-1))) 22 (upd (F 22) (Int32.toNatClampNeg (n 11)) (-1))) 23 (upd (F 23) (Int32.toNatClampNeg (n 11)) 0)) 24 (upd (F 24) (Int32.toNatClampNeg (n 11)) (vp_nar .boolean 0))) 25 (upd (F 25) (Int32.toNatClampNeg (n 11)) (vp_nar .boolean 0))) (upn n 11 z_30)) H := hP
        have hD : va_D A (w10 h0 X C (upF (upF (upF (upF (upF (upF (upF (upF (upF (upF (upF (upF (upF F 13 (upd (F 13) (Int32.toNatClampNeg (n 11)) 0)) 14 (upd (F 14) (Int32.toNatClampNeg (n 11)) v1)) 15 (upd (F 15) (Int32.toNatClampNeg (n 11)) v2)) 16 (upd (F 16) (Int32.toNatClampNeg (n 11)) z_37)) 17 (upd (F 17) (Int32.toNatClampNeg (n 11)) 0)) 18 (upd (F 18) (Int32.toNatClampNeg (n 11)) (-1))) 19 (upd (F 19) (Int32.toNatClampNeg (n 11)) 0)) 20 (upd (F 20) (Int32.toNatClampNeg (n 11)) 0)) 21 (upd (F 21) (Int32.toNatClampNeg (n 11)) (-1))) 22 (upd (F 22) (Int32.toNatClampNeg (n 11)) (-1))) 23 (upd (F 23) (Int32.toNatClampNeg (n 11)) 0)) 24 (upd (F 24) (Int32.toNatClampNeg (n 11)) (vp_nar .boolean 0))) 25 (upd (F 25) (Int32.toNatClampNeg (n 11)) (vp_nar .boolean 0))) (upn n 11 z_30)) := hD
        refine lv_aload_n hx hb dX10_comes_147 rfl (lv_at hl 1 rfl) ?_
        refine va_get (D := (dC, dI)) (ci := 10) (v := .ref (X 26)) (C := RX10) (T := TX10) (N := 60) hx hb hg gb_10 hown hK hP 0 rfl rfl 26 (by decide) (hg _ gm_fieldLink_RX10_84_ErrandGuildModel_wasWaited_AZ_) (fun _ h9 => h9) rfl dX10_comes_148 ?_
        refine lv_iload_n hx hb dX10_comes_151 rfl (lv_at hl 0 rfl) ?_
        refine lv_iconst (v := 0) hx hb dX10_comes_152 (by decide) ?_
        refine va_zast hx hb hK hP hD hS 24 23 rfl rfl (vp_in_iff.mpr ⟨by omega, by omega⟩) dX10_comes_153 (fun H locs hP hD hS => ?_)
        have hP : va_P (dC, dI) vwCl (w10 h0 X C (upF (upF (upF (upF (upF (upF (upF (upF (upF (upF (upF (upF (upF (upF F 13 (upd (F 13) (Int32.toNatClampNeg (n 11)) 0)) 14 (upd (F 14) (Int32.toNatClampNeg (n 11)) v1)) 15 (upd (F 15) (Int32.toNatClampNeg (n 11)) v2)) 16 (upd (F 16) (Int32.toNatClampNeg (n 11)) z_37)) 17 (upd (F 17) (Int32.toNatClampNeg (n 11)) 0)) 18 (upd (F 18) (Int32.toNatClampNeg (n 11)) (-1))) 19 (upd (F 19) (Int32.toNatClampNeg (n 11)) 0)) 20 (upd (F 20) (Int32.toNatClampNeg (n 11)) 0)) 21 (upd (F 21) (Int32.toNatClampNeg (n 11)) (-1))) 22 (upd (F 22) (Int32.toNatClampNeg (n 11)) (-1))) 23 (upd (F 23) (Int32.toNatClampNeg (n 11)) 0)) 24 (upd (F 24) (Int32.toNatClampNeg (n 11)) (vp_nar .boolean 0))) 25 (upd (F 25) (Int32.toNatClampNeg (n 11)) (vp_nar .boolean 0))) 26 (upd (F 26) (Int32.toNatClampNeg (n 11)) (vp_nar .boolean 0))) (upn n 11 z_30)) H := hP
        have hD : va_D A (w10 h0 X C (upF (upF (upF (upF (upF (upF (upF (upF (upF (upF (upF (upF (upF (upF F 13 (upd (F 13) (Int32.toNatClampNeg (n 11)) 0)) 14 (upd (F 14) (Int32.toNatClampNeg (n 11)) v1)) 15 (upd (F 15) (Int32.toNatClampNeg (n 11)) v2)) 16 (upd (F 16) (Int32.toNatClampNeg (n 11)) z_37)) 17 (upd (F 17) (Int32.toNatClampNeg (n 11)) 0)) 18 (upd (F 18) (Int32.toNatClampNeg (n 11)) (-1))) 19 (upd (F 19) (Int32.toNatClampNeg (n 11)) 0)) 20 (upd (F 20) (Int32.toNatClampNeg (n 11)) 0)) 21 (upd (F 21) (Int32.toNatClampNeg (n 11)) (-1))) 22 (upd (F 22) (Int32.toNatClampNeg (n 11)) (-1))) 23 (upd (F 23) (Int32.toNatClampNeg (n 11)) 0)) 24 (upd (F 24) (Int32.toNatClampNeg (n 11)) (vp_nar .boolean 0))) 25 (upd (F 25) (Int32.toNatClampNeg (n 11)) (vp_nar .boolean 0))) 26 (upd (F 26) (Int32.toNatClampNeg (n 11)) (vp_nar .boolean 0))) (upn n 11 z_30)) := hD
        refine lv_aload_n hx hb dX10_comes_154 rfl (lv_at hl 1 rfl) ?_
        refine va_get (D := (dC, dI)) (ci := 10) (v := .ref (X 27)) (C := RX10) (T := TX10) (N := 60) hx hb hg gb_10 hown hK hP 0 rfl rfl 27 (by decide) (hg _ gm_fieldLink_RX10_87_ErrandGuildModel_isAwaited_AZ_) (fun _ h9 => h9) rfl dX10_comes_155 ?_
        refine lv_iload_n hx hb dX10_comes_158 rfl (lv_at hl 0 rfl) ?_
        refine lv_iconst (v := 0) hx hb dX10_comes_159 (by decide) ?_
        refine va_zast hx hb hK hP hD hS 25 24 rfl rfl (vp_in_iff.mpr ⟨by omega, by omega⟩) dX10_comes_160 (fun H locs hP hD hS => ?_)
        have hP : va_P (dC, dI) vwCl (w10 h0 X C (upF (upF (upF (upF (upF (upF (upF (upF (upF (upF (upF (upF (upF (upF (upF F 13 (upd (F 13) (Int32.toNatClampNeg (n 11)) 0)) 14 (upd (F 14) (Int32.toNatClampNeg (n 11)) v1)) 15 (upd (F 15) (Int32.toNatClampNeg (n 11)) v2)) 16 (upd (F 16) (Int32.toNatClampNeg (n 11)) z_37)) 17 (upd (F 17) (Int32.toNatClampNeg (n 11)) 0)) 18 (upd (F 18) (Int32.toNatClampNeg (n 11)) (-1))) 19 (upd (F 19) (Int32.toNatClampNeg (n 11)) 0)) 20 (upd (F 20) (Int32.toNatClampNeg (n 11)) 0)) 21 (upd (F 21) (Int32.toNatClampNeg (n 11)) (-1))) 22 (upd (F 22) (Int32.toNatClampNeg (n 11)) (-1))) 23 (upd (F 23) (Int32.toNatClampNeg (n 11)) 0)) 24 (upd (F 24) (Int32.toNatClampNeg (n 11)) (vp_nar .boolean 0))) 25 (upd (F 25) (Int32.toNatClampNeg (n 11)) (vp_nar .boolean 0))) 26 (upd (F 26) (Int32.toNatClampNeg (n 11)) (vp_nar .boolean 0))) 27 (upd (F 27) (Int32.toNatClampNeg (n 11)) (vp_nar .boolean 0))) (upn n 11 z_30)) H := hP
        have hD : va_D A (w10 h0 X C (upF (upF (upF (upF (upF (upF (upF (upF (upF (upF (upF (upF (upF (upF (upF F 13 (upd (F 13) (Int32.toNatClampNeg (n 11)) 0)) 14 (upd (F 14) (Int32.toNatClampNeg (n 11)) v1)) 15 (upd (F 15) (Int32.toNatClampNeg (n 11)) v2)) 16 (upd (F 16) (Int32.toNatClampNeg (n 11)) z_37)) 17 (upd (F 17) (Int32.toNatClampNeg (n 11)) 0)) 18 (upd (F 18) (Int32.toNatClampNeg (n 11)) (-1))) 19 (upd (F 19) (Int32.toNatClampNeg (n 11)) 0)) 20 (upd (F 20) (Int32.toNatClampNeg (n 11)) 0)) 21 (upd (F 21) (Int32.toNatClampNeg (n 11)) (-1))) 22 (upd (F 22) (Int32.toNatClampNeg (n 11)) (-1))) 23 (upd (F 23) (Int32.toNatClampNeg (n 11)) 0)) 24 (upd (F 24) (Int32.toNatClampNeg (n 11)) (vp_nar .boolean 0))) 25 (upd (F 25) (Int32.toNatClampNeg (n 11)) (vp_nar .boolean 0))) 26 (upd (F 26) (Int32.toNatClampNeg (n 11)) (vp_nar .boolean 0))) 27 (upd (F 27) (Int32.toNatClampNeg (n 11)) (vp_nar .boolean 0))) (upn n 11 z_30)) := hD
        refine lv_aload_n hx hb dX10_comes_161 rfl (lv_at hl 1 rfl) ?_
        refine va_get (D := (dC, dI)) (ci := 10) (v := .ref (X 32)) (C := RX10) (T := TX10) (N := 60) hx hb hg gb_10 hown hK hP 0 rfl rfl 32 (by decide) (hg _ gm_fieldLink_RX10_102_ErrandGuildModel_isUncaught_AZ_) (fun _ h9 => h9) rfl dX10_comes_162 ?_
        refine lv_iload_n hx hb dX10_comes_165 rfl (lv_at hl 0 rfl) ?_
        refine lv_iconst (v := 0) hx hb dX10_comes_166 (by decide) ?_
        refine va_zast hx hb hK hP hD hS 30 29 rfl rfl (vp_in_iff.mpr ⟨by omega, by omega⟩) dX10_comes_167 (fun H locs hP hD hS => ?_)
        have hP : va_P (dC, dI) vwCl (w10 h0 X C (upF (upF (upF (upF (upF (upF (upF (upF (upF (upF (upF (upF (upF (upF (upF (upF F 13 (upd (F 13) (Int32.toNatClampNeg (n 11)) 0)) 14 (upd (F 14) (Int32.toNatClampNeg (n 11)) v1)) 15 (upd (F 15) (Int32.toNatClampNeg (n 11)) v2)) 16 (upd (F 16) (Int32.toNatClampNeg (n 11)) z_37)) 17 (upd (F 17) (Int32.toNatClampNeg (n 11)) 0)) 18 (upd (F 18) (Int32.toNatClampNeg (n 11)) (-1))) 19 (upd (F 19) (Int32.toNatClampNeg (n 11)) 0)) 20 (upd (F 20) (Int32.toNatClampNeg (n 11)) 0)) 21 (upd (F 21) (Int32.toNatClampNeg (n 11)) (-1))) 22 (upd (F 22) (Int32.toNatClampNeg (n 11)) (-1))) 23 (upd (F 23) (Int32.toNatClampNeg (n 11)) 0)) 24 (upd (F 24) (Int32.toNatClampNeg (n 11)) (vp_nar .boolean 0))) 25 (upd (F 25) (Int32.toNatClampNeg (n 11)) (vp_nar .boolean 0))) 26 (upd (F 26) (Int32.toNatClampNeg (n 11)) (vp_nar .boolean 0))) 27 (upd (F 27) (Int32.toNatClampNeg (n 11)) (vp_nar .boolean 0))) 32 (upd (F 32) (Int32.toNatClampNeg (n 11)) (vp_nar .boolean 0))) (upn n 11 z_30)) H := hP
        have hD : va_D A (w10 h0 X C (upF (upF (upF (upF (upF (upF (upF (upF (upF (upF (upF (upF (upF (upF (upF (upF F 13 (upd (F 13) (Int32.toNatClampNeg (n 11)) 0)) 14 (upd (F 14) (Int32.toNatClampNeg (n 11)) v1)) 15 (upd (F 15) (Int32.toNatClampNeg (n 11)) v2)) 16 (upd (F 16) (Int32.toNatClampNeg (n 11)) z_37)) 17 (upd (F 17) (Int32.toNatClampNeg (n 11)) 0)) 18 (upd (F 18) (Int32.toNatClampNeg (n 11)) (-1))) 19 (upd (F 19) (Int32.toNatClampNeg (n 11)) 0)) 20 (upd (F 20) (Int32.toNatClampNeg (n 11)) 0)) 21 (upd (F 21) (Int32.toNatClampNeg (n 11)) (-1))) 22 (upd (F 22) (Int32.toNatClampNeg (n 11)) (-1))) 23 (upd (F 23) (Int32.toNatClampNeg (n 11)) 0)) 24 (upd (F 24) (Int32.toNatClampNeg (n 11)) (vp_nar .boolean 0))) 25 (upd (F 25) (Int32.toNatClampNeg (n 11)) (vp_nar .boolean 0))) 26 (upd (F 26) (Int32.toNatClampNeg (n 11)) (vp_nar .boolean 0))) 27 (upd (F 27) (Int32.toNatClampNeg (n 11)) (vp_nar .boolean 0))) 32 (upd (F 32) (Int32.toNatClampNeg (n 11)) (vp_nar .boolean 0))) (upn n 11 z_30)) := hD
        have j_108 : J8 (upd (F 32) (Int32.toNatClampNeg (n 11)) (vp_nar .boolean 0)) (upd (F 13) (Int32.toNatClampNeg (n 11)) 0) := J8_both j_28 (Int32.toNatClampNeg (n 11)) (Or.inl (by rw [nb0]; decide))
        have j_109 : J6 (upd (F 32) (Int32.toNatClampNeg (n 11)) (vp_nar .boolean 0)) (n 47) z_30 := J6_new j_26 (by omega) (by omega) rfl nb0
        refine lv_aload_n hx hb dX10_comes_168 rfl (lv_at hl 1 rfl) ?_
        refine va_get (D := (dC, dI)) (ci := 10) (v := .ref (X 36)) (C := RX10) (T := TX10) (N := 60) hx hb hg gb_10 hown hK hP 0 rfl rfl 36 (by decide) (hg _ gm_fieldLink_RX10_114_ErrandGuildModel_bindMany_AI_) (fun _ h9 => h9) rfl dX10_comes_169 ?_
        refine lv_iload_n hx hb dX10_comes_172 rfl (lv_at hl 0 rfl) ?_
        refine lv_iconst (v := 0) hx hb dX10_comes_173 (by decide) ?_
        refine va_iast hx hb hK hP hD hS 34 33 rfl rfl (vp_in_iff.mpr ⟨by omega, by omega⟩) dX10_comes_174 (fun H locs hP hD hS => ?_)
        have hP : va_P (dC, dI) vwCl (w10 h0 X C (upF (upF (upF (upF (upF (upF (upF (upF (upF (upF (upF (upF (upF (upF (upF (upF (upF F 13 (upd (F 13) (Int32.toNatClampNeg (n 11)) 0)) 14 (upd (F 14) (Int32.toNatClampNeg (n 11)) v1)) 15 (upd (F 15) (Int32.toNatClampNeg (n 11)) v2)) 16 (upd (F 16) (Int32.toNatClampNeg (n 11)) z_37)) 17 (upd (F 17) (Int32.toNatClampNeg (n 11)) 0)) 18 (upd (F 18) (Int32.toNatClampNeg (n 11)) (-1))) 19 (upd (F 19) (Int32.toNatClampNeg (n 11)) 0)) 20 (upd (F 20) (Int32.toNatClampNeg (n 11)) 0)) 21 (upd (F 21) (Int32.toNatClampNeg (n 11)) (-1))) 22 (upd (F 22) (Int32.toNatClampNeg (n 11)) (-1))) 23 (upd (F 23) (Int32.toNatClampNeg (n 11)) 0)) 24 (upd (F 24) (Int32.toNatClampNeg (n 11)) (vp_nar .boolean 0))) 25 (upd (F 25) (Int32.toNatClampNeg (n 11)) (vp_nar .boolean 0))) 26 (upd (F 26) (Int32.toNatClampNeg (n 11)) (vp_nar .boolean 0))) 27 (upd (F 27) (Int32.toNatClampNeg (n 11)) (vp_nar .boolean 0))) 32 (upd (F 32) (Int32.toNatClampNeg (n 11)) (vp_nar .boolean 0))) 36 (upd (F 36) (Int32.toNatClampNeg (n 11)) 0)) (upn n 11 z_30)) H := hP
        have hD : va_D A (w10 h0 X C (upF (upF (upF (upF (upF (upF (upF (upF (upF (upF (upF (upF (upF (upF (upF (upF (upF F 13 (upd (F 13) (Int32.toNatClampNeg (n 11)) 0)) 14 (upd (F 14) (Int32.toNatClampNeg (n 11)) v1)) 15 (upd (F 15) (Int32.toNatClampNeg (n 11)) v2)) 16 (upd (F 16) (Int32.toNatClampNeg (n 11)) z_37)) 17 (upd (F 17) (Int32.toNatClampNeg (n 11)) 0)) 18 (upd (F 18) (Int32.toNatClampNeg (n 11)) (-1))) 19 (upd (F 19) (Int32.toNatClampNeg (n 11)) 0)) 20 (upd (F 20) (Int32.toNatClampNeg (n 11)) 0)) 21 (upd (F 21) (Int32.toNatClampNeg (n 11)) (-1))) 22 (upd (F 22) (Int32.toNatClampNeg (n 11)) (-1))) 23 (upd (F 23) (Int32.toNatClampNeg (n 11)) 0)) 24 (upd (F 24) (Int32.toNatClampNeg (n 11)) (vp_nar .boolean 0))) 25 (upd (F 25) (Int32.toNatClampNeg (n 11)) (vp_nar .boolean 0))) 26 (upd (F 26) (Int32.toNatClampNeg (n 11)) (vp_nar .boolean 0))) 27 (upd (F 27) (Int32.toNatClampNeg (n 11)) (vp_nar .boolean 0))) 32 (upd (F 32) (Int32.toNatClampNeg (n 11)) (vp_nar .boolean 0))) 36 (upd (F 36) (Int32.toNatClampNeg (n 11)) 0)) (upn n 11 z_30)) := hD
        have b_110 := bd_upd b_10 (Int32.toNatClampNeg (n 11)) (x := 0) (by have t_ := ti_0; omega) (by have t_ := ti_0; omega)
        have j_111 : J2 (upd (F 36) (Int32.toNatClampNeg (n 11)) 0) (upd (F 20) (Int32.toNatClampNeg (n 11)) 0) := J2_both j_23 (Int32.toNatClampNeg (n 11)) (Int.le_refl _)
        have j_112 : J5 (F 39) (upd (F 36) (Int32.toNatClampNeg (n 11)) 0) (F 41) (F 43) (F 42) := J5_bm j_25 (Int32.toNatClampNeg (n 11)) (Or.inr (by have t_0 := ti_0; omega))
        refine lv_aload_n hx hb dX10_comes_175 rfl (lv_at hl 1 rfl) ?_
        refine va_get (D := (dC, dI)) (ci := 10) (v := .ref (X 39)) (C := RX10) (T := TX10) (N := 60) hx hb hg gb_10 hown hK hP 0 rfl rfl 39 (by decide) (hg _ gm_fieldLink_RX10_123_ErrandGuildModel_tryMany_AI_) (fun _ h9 => h9) rfl dX10_comes_176 ?_
        refine lv_iload_n hx hb dX10_comes_179 rfl (lv_at hl 0 rfl) ?_
        refine lv_iconst (v := 0) hx hb dX10_comes_180 (by decide) ?_
        refine va_iast hx hb hK hP hD hS 37 36 rfl rfl (vp_in_iff.mpr ⟨by omega, by omega⟩) dX10_comes_181 (fun H locs hP hD hS => ?_)
        have hP : va_P (dC, dI) vwCl (w10 h0 X C (upF (upF (upF (upF (upF (upF (upF (upF (upF (upF (upF (upF (upF (upF (upF (upF (upF (upF F 13 (upd (F 13) (Int32.toNatClampNeg (n 11)) 0)) 14 (upd (F 14) (Int32.toNatClampNeg (n 11)) v1)) 15 (upd (F 15) (Int32.toNatClampNeg (n 11)) v2)) 16 (upd (F 16) (Int32.toNatClampNeg (n 11)) z_37)) 17 (upd (F 17) (Int32.toNatClampNeg (n 11)) 0)) 18 (upd (F 18) (Int32.toNatClampNeg (n 11)) (-1))) 19 (upd (F 19) (Int32.toNatClampNeg (n 11)) 0)) 20 (upd (F 20) (Int32.toNatClampNeg (n 11)) 0)) 21 (upd (F 21) (Int32.toNatClampNeg (n 11)) (-1))) 22 (upd (F 22) (Int32.toNatClampNeg (n 11)) (-1))) 23 (upd (F 23) (Int32.toNatClampNeg (n 11)) 0)) 24 (upd (F 24) (Int32.toNatClampNeg (n 11)) (vp_nar .boolean 0))) 25 (upd (F 25) (Int32.toNatClampNeg (n 11)) (vp_nar .boolean 0))) 26 (upd (F 26) (Int32.toNatClampNeg (n 11)) (vp_nar .boolean 0))) 27 (upd (F 27) (Int32.toNatClampNeg (n 11)) (vp_nar .boolean 0))) 32 (upd (F 32) (Int32.toNatClampNeg (n 11)) (vp_nar .boolean 0))) 36 (upd (F 36) (Int32.toNatClampNeg (n 11)) 0)) 39 (upd (F 39) (Int32.toNatClampNeg (n 11)) 0)) (upn n 11 z_30)) H := hP
        have hD : va_D A (w10 h0 X C (upF (upF (upF (upF (upF (upF (upF (upF (upF (upF (upF (upF (upF (upF (upF (upF (upF (upF F 13 (upd (F 13) (Int32.toNatClampNeg (n 11)) 0)) 14 (upd (F 14) (Int32.toNatClampNeg (n 11)) v1)) 15 (upd (F 15) (Int32.toNatClampNeg (n 11)) v2)) 16 (upd (F 16) (Int32.toNatClampNeg (n 11)) z_37)) 17 (upd (F 17) (Int32.toNatClampNeg (n 11)) 0)) 18 (upd (F 18) (Int32.toNatClampNeg (n 11)) (-1))) 19 (upd (F 19) (Int32.toNatClampNeg (n 11)) 0)) 20 (upd (F 20) (Int32.toNatClampNeg (n 11)) 0)) 21 (upd (F 21) (Int32.toNatClampNeg (n 11)) (-1))) 22 (upd (F 22) (Int32.toNatClampNeg (n 11)) (-1))) 23 (upd (F 23) (Int32.toNatClampNeg (n 11)) 0)) 24 (upd (F 24) (Int32.toNatClampNeg (n 11)) (vp_nar .boolean 0))) 25 (upd (F 25) (Int32.toNatClampNeg (n 11)) (vp_nar .boolean 0))) 26 (upd (F 26) (Int32.toNatClampNeg (n 11)) (vp_nar .boolean 0))) 27 (upd (F 27) (Int32.toNatClampNeg (n 11)) (vp_nar .boolean 0))) 32 (upd (F 32) (Int32.toNatClampNeg (n 11)) (vp_nar .boolean 0))) 36 (upd (F 36) (Int32.toNatClampNeg (n 11)) 0)) 39 (upd (F 39) (Int32.toNatClampNeg (n 11)) 0)) (upn n 11 z_30)) := hD
        have b_113 := bd_upd b_11 (Int32.toNatClampNeg (n 11)) (x := 0) (by have t_ := ti_0; omega) (by have t_ := ti_0; omega)
        have j_114 : J2 (upd (F 39) (Int32.toNatClampNeg (n 11)) 0) (upd (F 20) (Int32.toNatClampNeg (n 11)) 0) := J2_both j_22 (Int32.toNatClampNeg (n 11)) (Int.le_refl _)
        have j_115 : J4 (upd (F 39) (Int32.toNatClampNeg (n 11)) 0) (F 41) := J4_tm j_24 (Int32.toNatClampNeg (n 11)) (Or.inr (by have t_0 := ti_0; omega))
        have j_116 : J5 (upd (F 39) (Int32.toNatClampNeg (n 11)) 0) (upd (F 36) (Int32.toNatClampNeg (n 11)) 0) (F 41) (F 43) (F 42) := J5_tm j_112 (Int32.toNatClampNeg (n 11)) (Or.inr (by have t_0 := ti_0; omega))
        refine lv_iconst (v := 0) hx hb dX10_comes_182 (by decide) ?_
        refine lv_istore (lv' := [(4, .int 0), (3, .int (n 11)), (0, .ref h0), (1, .int v1), (2, .int v2)]) hx hb dX10_comes_183 hl (by decide) rfl (fun ls hl => ?_)
        have L185 : ∀ (fuel : Nat) (x_117 : Int32) (f_118 : Nat → Int32) (f_119 : Nat → Int32) (H : Heap) (locs : List Loc) (ls : Array Slot), (9 - x_117.toInt).toNat < fuel → 0 ≤ x_117.toInt ∧ x_117.toInt ≤ 8 → va_P (dC, dI) vwCl (w10 h0 X C (upF (upF (upF (upF (upF (upF (upF (upF (upF (upF (upF (upF (upF (upF (upF (upF (upF (upF (upF (upF F 13 (upd (F 13) (Int32.toNatClampNeg (n 11)) 0)) 14 (upd (F 14) (Int32.toNatClampNeg (n 11)) v1)) 15 (upd (F 15) (Int32.toNatClampNeg (n 11)) v2)) 16 (upd (F 16) (Int32.toNatClampNeg (n 11)) z_37)) 17 (upd (F 17) (Int32.toNatClampNeg (n 11)) 0)) 18 (upd (F 18) (Int32.toNatClampNeg (n 11)) (-1))) 19 (upd (F 19) (Int32.toNatClampNeg (n 11)) 0)) 20 (upd (F 20) (Int32.toNatClampNeg (n 11)) 0)) 21 (upd (F 21) (Int32.toNatClampNeg (n 11)) (-1))) 22 (upd (F 22) (Int32.toNatClampNeg (n 11)) (-1))) 23 (upd (F 23) (Int32.toNatClampNeg (n 11)) 0)) 24 (upd (F 24) (Int32.toNatClampNeg (n 11)) (vp_nar .boolean 0))) 25 (upd (F 25) (Int32.toNatClampNeg (n 11)) (vp_nar .boolean 0))) 26 (upd (F 26) (Int32.toNatClampNeg (n 11)) (vp_nar .boolean 0))) 27 (upd (F 27) (Int32.toNatClampNeg (n 11)) (vp_nar .boolean 0))) 32 (upd (F 32) (Int32.toNatClampNeg (n 11)) (vp_nar .boolean 0))) 33 f_118) 35 f_119) 36 (upd (F 36) (Int32.toNatClampNeg (n 11)) 0)) 39 (upd (F 39) (Int32.toNatClampNeg (n 11)) 0)) (upn n 11 z_30)) H → va_D A (w10 h0 X C (upF (upF (upF (upF (upF (upF (upF (upF (upF (upF (upF (upF (upF (upF (upF (upF (upF (upF (upF (upF F 13 (upd (F 13) (Int32.toNatClampNeg (n 11)) 0)) 14 (upd (F 14) (Int32.toNatClampNeg (n 11)) v1)) 15 (upd (F 15) (Int32.toNatClampNeg (n 11)) v2)) 16 (upd (F 16) (Int32.toNatClampNeg (n 11)) z_37)) 17 (upd (F 17) (Int32.toNatClampNeg (n 11)) 0)) 18 (upd (F 18) (Int32.toNatClampNeg (n 11)) (-1))) 19 (upd (F 19) (Int32.toNatClampNeg (n 11)) 0)) 20 (upd (F 20) (Int32.toNatClampNeg (n 11)) 0)) 21 (upd (F 21) (Int32.toNatClampNeg (n 11)) (-1))) 22 (upd (F 22) (Int32.toNatClampNeg (n 11)) (-1))) 23 (upd (F 23) (Int32.toNatClampNeg (n 11)) 0)) 24 (upd (F 24) (Int32.toNatClampNeg (n 11)) (vp_nar .boolean 0))) 25 (upd (F 25) (Int32.toNatClampNeg (n 11)) (vp_nar .boolean 0))) 26 (upd (F 26) (Int32.toNatClampNeg (n 11)) (vp_nar .boolean 0))) 27 (upd (F 27) (Int32.toNatClampNeg (n 11)) (vp_nar .boolean 0))) 32 (upd (F 32) (Int32.toNatClampNeg (n 11)) (vp_nar .boolean 0))) 33 f_118) 35 f_119) 36 (upd (F 36) (Int32.toNatClampNeg (n 11)) 0)) 39 (upd (F 39) (Int32.toNatClampNeg (n 11)) 0)) (upn n 11 z_30)) → va_S A s.heap H locs → lv_has ls 5 [(4, .int x_117), (3, .int (n 11)), (0, .ref h0), (1, .int v1), (2, .int v2)] → W p l e (headSpec (.code yX10_comes cX10_comes 5 (some .int) :: gw) ({ frames := 2, cells := 0, slots := 0, locals := 47 })).room s m ([.ref h0, .int v1, .int v2] : List Value).toArray below meth c H locs 0 0 (MQ below (va_Qi (fun (r : Int32) (u : (Nat → Nat → Int32) × (Nat → Int32)) => 0 ≤ r.toInt ∧ r.toInt < 200 ∧ (∀ j : Nat, (j : Int) < (n 11).toInt → (u.1 13 j).toInt = (F 13 j).toInt ∧ (u.1 20 j).toInt = (F 20 j).toInt ∧ (u.1 24 j).toInt = (F 24 j).toInt) ∧ (u.2 11).toInt = (n 11).toInt + 1) (fun u t => va_P (dC, dI) vwCl (w10 h0 X C u.1 u.2) t.heap ∧ va_D A (w10 h0 X C u.1 u.2) ∧ I10 kp u.1 u.2) A) ([.ref h0, .int v1, .int v2] : List Value).toArray s 0 0 A) (F0 m 185 ls []) := by
          intro fuel
          induction fuel with
          | zero => intro x_117 f_118 f_119 H locs ls hm; exact absurd hm (Nat.not_lt_zero _)
          | succ fuel_121 ih_120 =>
            intro x_117 f_118 f_119 H locs ls hm_123 v_122 hP hD hS hl
            refine lv_iload hx hb dX10_comes_185 (lv_at hl 0 rfl) ?_
            refine lv_bipush (v := 8) hx hb dX10_comes_187 (by decide) ?_
            refine lv_icmp_ge (tgt := 245) hx hb dX10_comes_189 (by decide) (fun c_124 => ?_) (fun c_124 => ?_)
            · simp only [i_lt, i_le, i_eq, ti_8] at c_124
              refine lv_iload_n hx hb dX10_comes_245 rfl (lv_at hl 1 rfl) ?_
              exact W.iret (v := n 11) hx hb hr (fun t ht hW => ⟨⟨n 11, ((upF (upF (upF (upF (upF (upF (upF (upF (upF (upF (upF (upF (upF (upF (upF (upF (upF (upF (upF (upF F 13 (upd (F 13) (Int32.toNatClampNeg (n 11)) 0)) 14 (upd (F 14) (Int32.toNatClampNeg (n 11)) v1)) 15 (upd (F 15) (Int32.toNatClampNeg (n 11)) v2)) 16 (upd (F 16) (Int32.toNatClampNeg (n 11)) z_37)) 17 (upd (F 17) (Int32.toNatClampNeg (n 11)) 0)) 18 (upd (F 18) (Int32.toNatClampNeg (n 11)) (-1))) 19 (upd (F 19) (Int32.toNatClampNeg (n 11)) 0)) 20 (upd (F 20) (Int32.toNatClampNeg (n 11)) 0)) 21 (upd (F 21) (Int32.toNatClampNeg (n 11)) (-1))) 22 (upd (F 22) (Int32.toNatClampNeg (n 11)) (-1))) 23 (upd (F 23) (Int32.toNatClampNeg (n 11)) 0)) 24 (upd (F 24) (Int32.toNatClampNeg (n 11)) (vp_nar .boolean 0))) 25 (upd (F 25) (Int32.toNatClampNeg (n 11)) (vp_nar .boolean 0))) 26 (upd (F 26) (Int32.toNatClampNeg (n 11)) (vp_nar .boolean 0))) 27 (upd (F 27) (Int32.toNatClampNeg (n 11)) (vp_nar .boolean 0))) 32 (upd (F 32) (Int32.toNatClampNeg (n 11)) (vp_nar .boolean 0))) 33 f_118) 35 f_119) 36 (upd (F 36) (Int32.toNatClampNeg (n 11)) 0)) 39 (upd (F 39) (Int32.toNatClampNeg (n 11)) 0)), (upn n 11 z_30)), rfl, ⟨by omega, by omega, fun j hj => ⟨by show ((upd (F 13) (Int32.toNatClampNeg (n 11)) 0) j).toInt = (F 13 j).toInt; rw [upd_ne _ _ _ _ (by have ce := cl_eq (n 11); omega)], by show ((upd (F 20) (Int32.toNatClampNeg (n 11)) 0) j).toInt = (F 20 j).toInt; rw [upd_ne _ _ _ _ (by have ce := cl_eq (n 11); omega)], by show ((upd (F 24) (Int32.toNatClampNeg (n 11)) (vp_nar .boolean 0)) j).toInt = (F 24 j).toInt; rw [upd_ne _ _ _ _ (by have ce := cl_eq (n 11); omega)]⟩, by show z_30.toInt = (n 11).toInt + 1; omega⟩, by rw [ht]; exact hP, hD, ⟨b_1, b_2, b_32, b_34, b_35, b_38, b_102, b_104, b_9, b_110, b_113, b_12, i_13, i_31, i_15, i_16, i_17, i_18, i_19, j_20, j_103, j_114, j_111, j_115, j_116, j_109, j_107, j_108, j_29⟩⟩, hS.F ht⟩) hS.2.2 dX10_comes_246
            · simp only [i_lt, i_le, i_eq, ti_8] at c_124
              refine lv_aload_n hx hb dX10_comes_192 rfl (lv_at hl 2 rfl) ?_
              refine va_get (D := (dC, dI)) (ci := 10) (v := .ref (X 35)) (C := RX10) (T := TX10) (N := 60) hx hb hg gb_10 hown hK hP 0 rfl rfl 35 (by decide) (hg _ gm_fieldLink_RX10_111_ErrandGuildModel_hasWritten_AZ_) (fun _ h9 => h9) rfl dX10_comes_193 ?_
              refine lv_bipush (v := 8) hx hb dX10_comes_196 (by decide) ?_
              refine lv_iload_n hx hb dX10_comes_198 rfl (lv_at hl 1 rfl) ?_
              refine lv_imul hx hb dX10_comes_199 ?_
              refine lv_topi (fun z_125 ez_125 => ?_)
              have tz_125 : z_125.toInt = 8 * (n 11).toInt := ar_mul ti_8 rfl ez_125 (by omega)
              refine lv_iload hx hb dX10_comes_200 (lv_at hl 0 rfl) ?_
              refine lv_iadd hx hb dX10_comes_202 ?_
              refine lv_topi (fun z_126 ez_126 => ?_)
              have tz_126 : z_126.toInt = z_125.toInt + x_117.toInt := ar_add rfl rfl ez_126 (by omega)
              refine lv_iconst (v := 0) hx hb dX10_comes_203 (by decide) ?_
              refine va_zast hx hb hK hP hD hS 33 32 rfl rfl (vp_in_iff.mpr ⟨by omega, by omega⟩) dX10_comes_204 (fun H locs hP hD hS => ?_)
              have hP : va_P (dC, dI) vwCl (w10 h0 X C (upF (upF (upF (upF (upF (upF (upF (upF (upF (upF (upF (upF (upF (upF (upF (upF (upF (upF (upF (upF F 13 (upd (F 13) (Int32.toNatClampNeg (n 11)) 0)) 14 (upd (F 14) (Int32.toNatClampNeg (n 11)) v1)) 15 (upd (F 15) (Int32.toNatClampNeg (n 11)) v2)) 16 (upd (F 16) (Int32.toNatClampNeg (n 11)) z_37)) 17 (upd (F 17) (Int32.toNatClampNeg (n 11)) 0)) 18 (upd (F 18) (Int32.toNatClampNeg (n 11)) (-1))) 19 (upd (F 19) (Int32.toNatClampNeg (n 11)) 0)) 20 (upd (F 20) (Int32.toNatClampNeg (n 11)) 0)) 21 (upd (F 21) (Int32.toNatClampNeg (n 11)) (-1))) 22 (upd (F 22) (Int32.toNatClampNeg (n 11)) (-1))) 23 (upd (F 23) (Int32.toNatClampNeg (n 11)) 0)) 24 (upd (F 24) (Int32.toNatClampNeg (n 11)) (vp_nar .boolean 0))) 25 (upd (F 25) (Int32.toNatClampNeg (n 11)) (vp_nar .boolean 0))) 26 (upd (F 26) (Int32.toNatClampNeg (n 11)) (vp_nar .boolean 0))) 27 (upd (F 27) (Int32.toNatClampNeg (n 11)) (vp_nar .boolean 0))) 32 (upd (F 32) (Int32.toNatClampNeg (n 11)) (vp_nar .boolean 0))) 33 f_118) 35 (upd f_119 (Int32.toNatClampNeg z_126) (vp_nar .boolean 0))) 36 (upd (F 36) (Int32.toNatClampNeg (n 11)) 0)) 39 (upd (F 39) (Int32.toNatClampNeg (n 11)) 0)) (upn n 11 z_30)) H := hP
              have hD : va_D A (w10 h0 X C (upF (upF (upF (upF (upF (upF (upF (upF (upF (upF (upF (upF (upF (upF (upF (upF (upF (upF (upF (upF F 13 (upd (F 13) (Int32.toNatClampNeg (n 11)) 0)) 14 (upd (F 14) (Int32.toNatClampNeg (n 11)) v1)) 15 (upd (F 15) (Int32.toNatClampNeg (n 11)) v2)) 16 (upd (F 16) (Int32.toNatClampNeg (n 11)) z_37)) 17 (upd (F 17) (Int32.toNatClampNeg (n 11)) 0)) 18 (upd (F 18) (Int32.toNatClampNeg (n 11)) (-1))) 19 (upd (F 19) (Int32.toNatClampNeg (n 11)) 0)) 20 (upd (F 20) (Int32.toNatClampNeg (n 11)) 0)) 21 (upd (F 21) (Int32.toNatClampNeg (n 11)) (-1))) 22 (upd (F 22) (Int32.toNatClampNeg (n 11)) (-1))) 23 (upd (F 23) (Int32.toNatClampNeg (n 11)) 0)) 24 (upd (F 24) (Int32.toNatClampNeg (n 11)) (vp_nar .boolean 0))) 25 (upd (F 25) (Int32.toNatClampNeg (n 11)) (vp_nar .boolean 0))) 26 (upd (F 26) (Int32.toNatClampNeg (n 11)) (vp_nar .boolean 0))) 27 (upd (F 27) (Int32.toNatClampNeg (n 11)) (vp_nar .boolean 0))) 32 (upd (F 32) (Int32.toNatClampNeg (n 11)) (vp_nar .boolean 0))) 33 f_118) 35 (upd f_119 (Int32.toNatClampNeg z_126) (vp_nar .boolean 0))) 36 (upd (F 36) (Int32.toNatClampNeg (n 11)) 0)) 39 (upd (F 39) (Int32.toNatClampNeg (n 11)) 0)) (upn n 11 z_30)) := hD
              refine lv_aload_n hx hb dX10_comes_205 rfl (lv_at hl 2 rfl) ?_
              refine va_get (D := (dC, dI)) (ci := 10) (v := .ref (X 33)) (C := RX10) (T := TX10) (N := 60) hx hb hg gb_10 hown hK hP 0 rfl rfl 33 (by decide) (hg _ gm_fieldLink_RX10_105_ErrandGuildModel_kept_AI_) (fun _ h9 => h9) rfl dX10_comes_206 ?_
              refine lv_bipush (v := 8) hx hb dX10_comes_209 (by decide) ?_
              refine lv_iload_n hx hb dX10_comes_211 rfl (lv_at hl 1 rfl) ?_
              refine lv_imul hx hb dX10_comes_212 ?_
              refine lv_topi (fun z_127 ez_127 => ?_)
              have tz_127 : z_127.toInt = 8 * (n 11).toInt := ar_mul ti_8 rfl ez_127 (by omega)
              refine lv_iload hx hb dX10_comes_213 (lv_at hl 0 rfl) ?_
              refine lv_iadd hx hb dX10_comes_215 ?_
              refine lv_topi (fun z_128 ez_128 => ?_)
              have tz_128 : z_128.toInt = z_127.toInt + x_117.toInt := ar_add rfl rfl ez_128 (by omega)
              refine lv_iload_n hx hb dX10_comes_216 rfl (lv_at hl 4 rfl) ?_
              refine lv_iconst (v := -1) hx hb dX10_comes_217 (by decide) ?_
              refine lv_icmp_ne (tgt := 231) hx hb dX10_comes_218 (by decide) (fun c_129 => ?_) (fun c_129 => ?_)
              · simp only [i_lt, i_le, i_eq, ti_m1] at c_129
                exfalso
                omega
              · simp only [i_lt, i_le, i_eq, ti_m1] at c_129
                refine lv_aload_n hx hb dX10_comes_221 rfl (lv_at hl 2 rfl) ?_
                refine va_get (D := (dC, dI)) (ci := 10) (v := .ref (X 1)) (C := RX10) (T := TX10) (N := 60) hx hb hg gb_10 hown hK hP 0 rfl rfl 1 (by decide) (hg _ gm_fieldLink_RX10_13_ErrandGuildModel_first_AI_) (fun _ h9 => h9) rfl dX10_comes_222 ?_
                refine lv_iload hx hb dX10_comes_225 (lv_at hl 0 rfl) ?_
                refine va_iald hx hb hK hP 2 1 rfl rfl (vp_in_iff.mpr ⟨by omega, by omega⟩) dX10_comes_227 ?_
                refine lv_topi (fun z_130 ez_130 => ?_)
                have qz_130 := congrArg Int32.toInt ez_130
                refine lv_goto (tgt := 238) hx hb dX10_comes_228 (by decide) ?_
                refine va_iast hx hb hK hP hD hS 31 30 rfl rfl (vp_in_iff.mpr ⟨by omega, by omega⟩) dX10_comes_238 (fun H locs hP hD hS => ?_)
                have hP : va_P (dC, dI) vwCl (w10 h0 X C (upF (upF (upF (upF (upF (upF (upF (upF (upF (upF (upF (upF (upF (upF (upF (upF (upF (upF (upF (upF F 13 (upd (F 13) (Int32.toNatClampNeg (n 11)) 0)) 14 (upd (F 14) (Int32.toNatClampNeg (n 11)) v1)) 15 (upd (F 15) (Int32.toNatClampNeg (n 11)) v2)) 16 (upd (F 16) (Int32.toNatClampNeg (n 11)) z_37)) 17 (upd (F 17) (Int32.toNatClampNeg (n 11)) 0)) 18 (upd (F 18) (Int32.toNatClampNeg (n 11)) (-1))) 19 (upd (F 19) (Int32.toNatClampNeg (n 11)) 0)) 20 (upd (F 20) (Int32.toNatClampNeg (n 11)) 0)) 21 (upd (F 21) (Int32.toNatClampNeg (n 11)) (-1))) 22 (upd (F 22) (Int32.toNatClampNeg (n 11)) (-1))) 23 (upd (F 23) (Int32.toNatClampNeg (n 11)) 0)) 24 (upd (F 24) (Int32.toNatClampNeg (n 11)) (vp_nar .boolean 0))) 25 (upd (F 25) (Int32.toNatClampNeg (n 11)) (vp_nar .boolean 0))) 26 (upd (F 26) (Int32.toNatClampNeg (n 11)) (vp_nar .boolean 0))) 27 (upd (F 27) (Int32.toNatClampNeg (n 11)) (vp_nar .boolean 0))) 32 (upd (F 32) (Int32.toNatClampNeg (n 11)) (vp_nar .boolean 0))) 33 (upd f_118 (Int32.toNatClampNeg z_128) z_130)) 35 (upd f_119 (Int32.toNatClampNeg z_126) (vp_nar .boolean 0))) 36 (upd (F 36) (Int32.toNatClampNeg (n 11)) 0)) 39 (upd (F 39) (Int32.toNatClampNeg (n 11)) 0)) (upn n 11 z_30)) H := hP
                have hD : va_D A (w10 h0 X C (upF (upF (upF (upF (upF (upF (upF (upF (upF (upF (upF (upF (upF (upF (upF (upF (upF (upF (upF (upF F 13 (upd (F 13) (Int32.toNatClampNeg (n 11)) 0)) 14 (upd (F 14) (Int32.toNatClampNeg (n 11)) v1)) 15 (upd (F 15) (Int32.toNatClampNeg (n 11)) v2)) 16 (upd (F 16) (Int32.toNatClampNeg (n 11)) z_37)) 17 (upd (F 17) (Int32.toNatClampNeg (n 11)) 0)) 18 (upd (F 18) (Int32.toNatClampNeg (n 11)) (-1))) 19 (upd (F 19) (Int32.toNatClampNeg (n 11)) 0)) 20 (upd (F 20) (Int32.toNatClampNeg (n 11)) 0)) 21 (upd (F 21) (Int32.toNatClampNeg (n 11)) (-1))) 22 (upd (F 22) (Int32.toNatClampNeg (n 11)) (-1))) 23 (upd (F 23) (Int32.toNatClampNeg (n 11)) 0)) 24 (upd (F 24) (Int32.toNatClampNeg (n 11)) (vp_nar .boolean 0))) 25 (upd (F 25) (Int32.toNatClampNeg (n 11)) (vp_nar .boolean 0))) 26 (upd (F 26) (Int32.toNatClampNeg (n 11)) (vp_nar .boolean 0))) 27 (upd (F 27) (Int32.toNatClampNeg (n 11)) (vp_nar .boolean 0))) 32 (upd (F 32) (Int32.toNatClampNeg (n 11)) (vp_nar .boolean 0))) 33 (upd f_118 (Int32.toNatClampNeg z_128) z_130)) 35 (upd f_119 (Int32.toNatClampNeg z_126) (vp_nar .boolean 0))) 36 (upd (F 36) (Int32.toNatClampNeg (n 11)) 0)) 39 (upd (F 39) (Int32.toNatClampNeg (n 11)) 0)) (upn n 11 z_30)) := hD
                obtain ⟨y_131, ey_131⟩ : ∃ q : Int32, q = x_117 + (1) := ⟨_, rfl⟩
                refine lv_iinc (v := y_131) (lv' := [(4, .int y_131), (3, .int (n 11)), (0, .ref h0), (1, .int v1), (2, .int v2)]) hx hb dX10_comes_239 hl (k := 0) rfl (by rw [ey_131]; rfl) (by decide) rfl (fun ls hl => ?_)
                have ty_131 : y_131.toInt = x_117.toInt + (1) := ar_add rfl ti_1 ey_131 (by omega)
                refine lv_goto (tgt := 185) hx hb dX10_comes_242 (by decide) ?_
                exact ih_120 y_131 (upd f_118 (Int32.toNatClampNeg z_128) z_130) (upd f_119 (Int32.toNatClampNeg z_126) (vp_nar .boolean 0))  H locs ls (by omega) (by omega) hP hD hS (lv_sub hl [0, 1, 2, 3, 4] rfl)
        exact L185 _ (0) (F 33) (F 35)  _ _ _ (Nat.lt_succ_self _) (by have t_0 := ti_0; omega) hP hD hS (lv_sub hl [0, 1, 2, 3, 4] rfl)
  · simp only [i_lt, i_le, i_eq, ti_m1] at c_36
    refine lv_iload_n hx hb dX10_comes_43 rfl (lv_at hl 0 rfl) ?_
    refine lv_goto (tgt := 53) hx hb dX10_comes_44 (by decide) ?_
    refine va_iast hx hb hK hP hD hS 14 13 rfl rfl (vp_in_iff.mpr ⟨by omega, by omega⟩) dX10_comes_53 (fun H locs hP hD hS => ?_)
    have hP : va_P (dC, dI) vwCl (w10 h0 X C (upF (upF (upF (upF F 13 (upd (F 13) (Int32.toNatClampNeg (n 11)) 0)) 14 (upd (F 14) (Int32.toNatClampNeg (n 11)) v1)) 15 (upd (F 15) (Int32.toNatClampNeg (n 11)) v2)) 16 (upd (F 16) (Int32.toNatClampNeg (n 11)) (n 11))) (upn n 11 z_30)) H := hP
    have hD : va_D A (w10 h0 X C (upF (upF (upF (upF F 13 (upd (F 13) (Int32.toNatClampNeg (n 11)) 0)) 14 (upd (F 14) (Int32.toNatClampNeg (n 11)) v1)) 15 (upd (F 15) (Int32.toNatClampNeg (n 11)) v2)) 16 (upd (F 16) (Int32.toNatClampNeg (n 11)) (n 11))) (upn n 11 z_30)) := hD
    have b_132 := bd_upd b_6 (Int32.toNatClampNeg (n 11)) (x := (n 11)) (by omega) (by omega)
    refine lv_aload_n hx hb dX10_comes_54 rfl (lv_at hl 1 rfl) ?_
    refine va_get (D := (dC, dI)) (ci := 10) (v := .ref (X 17)) (C := RX10) (T := TX10) (N := 60) hx hb hg gb_10 hown hK hP 0 rfl rfl 17 (by decide) (hg _ gm_fieldLink_RX10_57_ErrandGuildModel_depth_AI_) (fun _ h9 => h9) rfl dX10_comes_55 ?_
    refine lv_iload_n hx hb dX10_comes_58 rfl (lv_at hl 0 rfl) ?_
    refine lv_iload_n hx hb dX10_comes_59 rfl (lv_at hl 3 rfl) ?_
    refine lv_iconst (v := -1) hx hb dX10_comes_60 (by decide) ?_
    refine lv_icmp_ne (tgt := 68) hx hb dX10_comes_61 (by decide) (fun c_133 => ?_) (fun c_133 => ?_)
    · simp only [i_lt, i_le, i_eq, ti_m1] at c_133
      exfalso
      omega
    · simp only [i_lt, i_le, i_eq, ti_m1] at c_133
      refine lv_iconst (v := 0) hx hb dX10_comes_64 (by decide) ?_
      refine lv_goto (tgt := 76) hx hb dX10_comes_65 (by decide) ?_
      refine va_iast hx hb hK hP hD hS 15 14 rfl rfl (vp_in_iff.mpr ⟨by omega, by omega⟩) dX10_comes_76 (fun H locs hP hD hS => ?_)
      have hP : va_P (dC, dI) vwCl (w10 h0 X C (upF (upF (upF (upF (upF F 13 (upd (F 13) (Int32.toNatClampNeg (n 11)) 0)) 14 (upd (F 14) (Int32.toNatClampNeg (n 11)) v1)) 15 (upd (F 15) (Int32.toNatClampNeg (n 11)) v2)) 16 (upd (F 16) (Int32.toNatClampNeg (n 11)) (n 11))) 17 (upd (F 17) (Int32.toNatClampNeg (n 11)) 0)) (upn n 11 z_30)) H := hP
      have hD : va_D A (w10 h0 X C (upF (upF (upF (upF (upF F 13 (upd (F 13) (Int32.toNatClampNeg (n 11)) 0)) 14 (upd (F 14) (Int32.toNatClampNeg (n 11)) v1)) 15 (upd (F 15) (Int32.toNatClampNeg (n 11)) v2)) 16 (upd (F 16) (Int32.toNatClampNeg (n 11)) (n 11))) 17 (upd (F 17) (Int32.toNatClampNeg (n 11)) 0)) (upn n 11 z_30)) := hD
      refine lv_aload_n hx hb dX10_comes_77 rfl (lv_at hl 1 rfl) ?_
      refine va_get (D := (dC, dI)) (ci := 10) (v := .ref (X 18)) (C := RX10) (T := TX10) (N := 60) hx hb hg gb_10 hown hK hP 0 rfl rfl 18 (by decide) (hg _ gm_fieldLink_RX10_60_ErrandGuildModel_thread_AI_) (fun _ h9 => h9) rfl dX10_comes_78 ?_
      refine lv_iload_n hx hb dX10_comes_81 rfl (lv_at hl 0 rfl) ?_
      refine lv_iconst (v := -1) hx hb dX10_comes_82 (by decide) ?_
      refine va_iast hx hb hK hP hD hS 16 15 rfl rfl (vp_in_iff.mpr ⟨by omega, by omega⟩) dX10_comes_83 (fun H locs hP hD hS => ?_)
      have hP : va_P (dC, dI) vwCl (w10 h0 X C (upF (upF (upF (upF (upF (upF F 13 (upd (F 13) (Int32.toNatClampNeg (n 11)) 0)) 14 (upd (F 14) (Int32.toNatClampNeg (n 11)) v1)) 15 (upd (F 15) (Int32.toNatClampNeg (n 11)) v2)) 16 (upd (F 16) (Int32.toNatClampNeg (n 11)) (n 11))) 17 (upd (F 17) (Int32.toNatClampNeg (n 11)) 0)) 18 (upd (F 18) (Int32.toNatClampNeg (n 11)) (-1))) (upn n 11 z_30)) H := hP
      have hD : va_D A (w10 h0 X C (upF (upF (upF (upF (upF (upF F 13 (upd (F 13) (Int32.toNatClampNeg (n 11)) 0)) 14 (upd (F 14) (Int32.toNatClampNeg (n 11)) v1)) 15 (upd (F 15) (Int32.toNatClampNeg (n 11)) v2)) 16 (upd (F 16) (Int32.toNatClampNeg (n 11)) (n 11))) 17 (upd (F 17) (Int32.toNatClampNeg (n 11)) 0)) 18 (upd (F 18) (Int32.toNatClampNeg (n 11)) (-1))) (upn n 11 z_30)) := hD
      have b_134 := bd_upd b_7 (Int32.toNatClampNeg (n 11)) (x := (-1)) (by have t_ := ti_m1; omega) (by have t_ := ti_m1; omega)
      have j_135 : J1 (upd (F 13) (Int32.toNatClampNeg (n 11)) 0) (upd (F 18) (Int32.toNatClampNeg (n 11)) (-1)) := J1_th j_33 (Int32.toNatClampNeg (n 11)) (fun h => by rw [upd_eq] at h; have t_0 := ti_0; omega)
      refine lv_aload_n hx hb dX10_comes_84 rfl (lv_at hl 1 rfl) ?_
      refine va_get (D := (dC, dI)) (ci := 10) (v := .ref (X 19)) (C := RX10) (T := TX10) (N := 60) hx hb hg gb_10 hown hK hP 0 rfl rfl 19 (by decide) (hg _ gm_fieldLink_RX10_63_ErrandGuildModel_sum_AI_) (fun _ h9 => h9) rfl dX10_comes_85 ?_
      refine lv_iload_n hx hb dX10_comes_88 rfl (lv_at hl 0 rfl) ?_
      refine lv_iconst (v := 0) hx hb dX10_comes_89 (by decide) ?_
      refine va_iast hx hb hK hP hD hS 17 16 rfl rfl (vp_in_iff.mpr ⟨by omega, by omega⟩) dX10_comes_90 (fun H locs hP hD hS => ?_)
      have hP : va_P (dC, dI) vwCl (w10 h0 X C (upF (upF (upF (upF (upF (upF (upF F 13 (upd (F 13) (Int32.toNatClampNeg (n 11)) 0)) 14 (upd (F 14) (Int32.toNatClampNeg (n 11)) v1)) 15 (upd (F 15) (Int32.toNatClampNeg (n 11)) v2)) 16 (upd (F 16) (Int32.toNatClampNeg (n 11)) (n 11))) 17 (upd (F 17) (Int32.toNatClampNeg (n 11)) 0)) 18 (upd (F 18) (Int32.toNatClampNeg (n 11)) (-1))) 19 (upd (F 19) (Int32.toNatClampNeg (n 11)) 0)) (upn n 11 z_30)) H := hP
      have hD : va_D A (w10 h0 X C (upF (upF (upF (upF (upF (upF (upF F 13 (upd (F 13) (Int32.toNatClampNeg (n 11)) 0)) 14 (upd (F 14) (Int32.toNatClampNeg (n 11)) v1)) 15 (upd (F 15) (Int32.toNatClampNeg (n 11)) v2)) 16 (upd (F 16) (Int32.toNatClampNeg (n 11)) (n 11))) 17 (upd (F 17) (Int32.toNatClampNeg (n 11)) 0)) 18 (upd (F 18) (Int32.toNatClampNeg (n 11)) (-1))) 19 (upd (F 19) (Int32.toNatClampNeg (n 11)) 0)) (upn n 11 z_30)) := hD
      refine lv_aload_n hx hb dX10_comes_91 rfl (lv_at hl 1 rfl) ?_
      refine va_get (D := (dC, dI)) (ci := 10) (v := .ref (X 20)) (C := RX10) (T := TX10) (N := 60) hx hb hg gb_10 hown hK hP 0 rfl rfl 20 (by decide) (hg _ gm_fieldLink_RX10_66_ErrandGuildModel_place_AI_) (fun _ h9 => h9) rfl dX10_comes_92 ?_
      refine lv_iload_n hx hb dX10_comes_95 rfl (lv_at hl 0 rfl) ?_
      refine lv_iconst (v := 0) hx hb dX10_comes_96 (by decide) ?_
      refine va_iast hx hb hK hP hD hS 18 17 rfl rfl (vp_in_iff.mpr ⟨by omega, by omega⟩) dX10_comes_97 (fun H locs hP hD hS => ?_)
      have hP : va_P (dC, dI) vwCl (w10 h0 X C (upF (upF (upF (upF (upF (upF (upF (upF F 13 (upd (F 13) (Int32.toNatClampNeg (n 11)) 0)) 14 (upd (F 14) (Int32.toNatClampNeg (n 11)) v1)) 15 (upd (F 15) (Int32.toNatClampNeg (n 11)) v2)) 16 (upd (F 16) (Int32.toNatClampNeg (n 11)) (n 11))) 17 (upd (F 17) (Int32.toNatClampNeg (n 11)) 0)) 18 (upd (F 18) (Int32.toNatClampNeg (n 11)) (-1))) 19 (upd (F 19) (Int32.toNatClampNeg (n 11)) 0)) 20 (upd (F 20) (Int32.toNatClampNeg (n 11)) 0)) (upn n 11 z_30)) H := hP
      have hD : va_D A (w10 h0 X C (upF (upF (upF (upF (upF (upF (upF (upF F 13 (upd (F 13) (Int32.toNatClampNeg (n 11)) 0)) 14 (upd (F 14) (Int32.toNatClampNeg (n 11)) v1)) 15 (upd (F 15) (Int32.toNatClampNeg (n 11)) v2)) 16 (upd (F 16) (Int32.toNatClampNeg (n 11)) (n 11))) 17 (upd (F 17) (Int32.toNatClampNeg (n 11)) 0)) 18 (upd (F 18) (Int32.toNatClampNeg (n 11)) (-1))) 19 (upd (F 19) (Int32.toNatClampNeg (n 11)) 0)) 20 (upd (F 20) (Int32.toNatClampNeg (n 11)) 0)) (upn n 11 z_30)) := hD
      have b_136 := bd_upd b_8 (Int32.toNatClampNeg (n 11)) (x := 0) (by have t_ := ti_0; omega) (by have t_ := ti_0; omega)
      have j_137 : J7 (F 24) (upd (F 20) (Int32.toNatClampNeg (n 11)) 0) := J7_pl j_27 (Int32.toNatClampNeg (n 11)) (Or.inr (by have t_0 := ti_0; omega))
      refine lv_aload_n hx hb dX10_comes_98 rfl (lv_at hl 1 rfl) ?_
      refine va_get (D := (dC, dI)) (ci := 10) (v := .ref (X 21)) (C := RX10) (T := TX10) (N := 60) hx hb hg gb_10 hown hK hP 0 rfl rfl 21 (by decide) (hg _ gm_fieldLink_RX10_69_ErrandGuildModel_gaveAt_AI_) (fun _ h9 => h9) rfl dX10_comes_99 ?_
      refine lv_iload_n hx hb dX10_comes_102 rfl (lv_at hl 0 rfl) ?_
      refine lv_iload_n hx hb dX10_comes_103 rfl (lv_at hl 3 rfl) ?_
      refine lv_iconst (v := -1) hx hb dX10_comes_104 (by decide) ?_
      refine lv_icmp_ne (tgt := 112) hx hb dX10_comes_105 (by decide) (fun c_138 => ?_) (fun c_138 => ?_)
      · simp only [i_lt, i_le, i_eq, ti_m1] at c_138
        exfalso
        omega
      · simp only [i_lt, i_le, i_eq, ti_m1] at c_138
        refine lv_iconst (v := -1) hx hb dX10_comes_108 (by decide) ?_
        refine lv_goto (tgt := 118) hx hb dX10_comes_109 (by decide) ?_
        refine va_iast hx hb hK hP hD hS 19 18 rfl rfl (vp_in_iff.mpr ⟨by omega, by omega⟩) dX10_comes_118 (fun H locs hP hD hS => ?_)
        have hP : va_P (dC, dI) vwCl (w10 h0 X C (upF (upF (upF (upF (upF (upF (upF (upF (upF F 13 (upd (F 13) (Int32.toNatClampNeg (n 11)) 0)) 14 (upd (F 14) (Int32.toNatClampNeg (n 11)) v1)) 15 (upd (F 15) (Int32.toNatClampNeg (n 11)) v2)) 16 (upd (F 16) (Int32.toNatClampNeg (n 11)) (n 11))) 17 (upd (F 17) (Int32.toNatClampNeg (n 11)) 0)) 18 (upd (F 18) (Int32.toNatClampNeg (n 11)) (-1))) 19 (upd (F 19) (Int32.toNatClampNeg (n 11)) 0)) 20 (upd (F 20) (Int32.toNatClampNeg (n 11)) 0)) 21 (upd (F 21) (Int32.toNatClampNeg (n 11)) (-1))) (upn n 11 z_30)) H := hP
        have hD : va_D A (w10 h0 X C (upF (upF (upF (upF (upF (upF (upF (upF (upF F 13 (upd (F 13) (Int32.toNatClampNeg (n 11)) 0)) 14 (upd (F 14) (Int32.toNatClampNeg (n 11)) v1)) 15 (upd (F 15) (Int32.toNatClampNeg (n 11)) v2)) 16 (upd (F 16) (Int32.toNatClampNeg (n 11)) (n 11))) 17 (upd (F 17) (Int32.toNatClampNeg (n 11)) 0)) 18 (upd (F 18) (Int32.toNatClampNeg (n 11)) (-1))) 19 (upd (F 19) (Int32.toNatClampNeg (n 11)) 0)) 20 (upd (F 20) (Int32.toNatClampNeg (n 11)) 0)) 21 (upd (F 21) (Int32.toNatClampNeg (n 11)) (-1))) (upn n 11 z_30)) := hD
        refine lv_aload_n hx hb dX10_comes_119 rfl (lv_at hl 1 rfl) ?_
        refine va_get (D := (dC, dI)) (ci := 10) (v := .ref (X 22)) (C := RX10) (T := TX10) (N := 60) hx hb hg gb_10 hown hK hP 0 rfl rfl 22 (by decide) (hg _ gm_fieldLink_RX10_72_ErrandGuildModel_endedAt_AI_) (fun _ h9 => h9) rfl dX10_comes_120 ?_
        refine lv_iload_n hx hb dX10_comes_123 rfl (lv_at hl 0 rfl) ?_
        refine lv_iconst (v := -1) hx hb dX10_comes_124 (by decide) ?_
        refine va_iast hx hb hK hP hD hS 20 19 rfl rfl (vp_in_iff.mpr ⟨by omega, by omega⟩) dX10_comes_125 (fun H locs hP hD hS => ?_)
        have hP : va_P (dC, dI) vwCl (w10 h0 X C (upF (upF (upF (upF (upF (upF (upF (upF (upF (upF F 13 (upd (F 13) (Int32.toNatClampNeg (n 11)) 0)) 14 (upd (F 14) (Int32.toNatClampNeg (n 11)) v1)) 15 (upd (F 15) (Int32.toNatClampNeg (n 11)) v2)) 16 (upd (F 16) (Int32.toNatClampNeg (n 11)) (n 11))) 17 (upd (F 17) (Int32.toNatClampNeg (n 11)) 0)) 18 (upd (F 18) (Int32.toNatClampNeg (n 11)) (-1))) 19 (upd (F 19) (Int32.toNatClampNeg (n 11)) 0)) 20 (upd (F 20) (Int32.toNatClampNeg (n 11)) 0)) 21 (upd (F 21) (Int32.toNatClampNeg (n 11)) (-1))) 22 (upd (F 22) (Int32.toNatClampNeg (n 11)) (-1))) (upn n 11 z_30)) H := hP
        have hD : va_D A (w10 h0 X C (upF (upF (upF (upF (upF (upF (upF (upF (upF (upF F 13 (upd (F 13) (Int32.toNatClampNeg (n 11)) 0)) 14 (upd (F 14) (Int32.toNatClampNeg (n 11)) v1)) 15 (upd (F 15) (Int32.toNatClampNeg (n 11)) v2)) 16 (upd (F 16) (Int32.toNatClampNeg (n 11)) (n 11))) 17 (upd (F 17) (Int32.toNatClampNeg (n 11)) 0)) 18 (upd (F 18) (Int32.toNatClampNeg (n 11)) (-1))) 19 (upd (F 19) (Int32.toNatClampNeg (n 11)) 0)) 20 (upd (F 20) (Int32.toNatClampNeg (n 11)) 0)) 21 (upd (F 21) (Int32.toNatClampNeg (n 11)) (-1))) 22 (upd (F 22) (Int32.toNatClampNeg (n 11)) (-1))) (upn n 11 z_30)) := hD
        refine lv_aload_n hx hb dX10_comes_126 rfl (lv_at hl 1 rfl) ?_
        refine va_get (D := (dC, dI)) (ci := 10) (v := .ref (X 23)) (C := RX10) (T := TX10) (N := 60) hx hb hg gb_10 hown hK hP 0 rfl rfl 23 (by decide) (hg _ gm_fieldLink_RX10_75_ErrandGuildModel_came_AI_) (fun _ h9 => h9) rfl dX10_comes_127 ?_
        refine lv_iload_n hx hb dX10_comes_130 rfl (lv_at hl 0 rfl) ?_
        refine lv_iconst (v := 0) hx hb dX10_comes_131 (by decide) ?_
        refine va_iast hx hb hK hP hD hS 21 20 rfl rfl (vp_in_iff.mpr ⟨by omega, by omega⟩) dX10_comes_132 (fun H locs hP hD hS => ?_)
        have hP : va_P (dC, dI) vwCl (w10 h0 X C (upF (upF (upF (upF (upF (upF (upF (upF (upF (upF (upF F 13 (upd (F 13) (Int32.toNatClampNeg (n 11)) 0)) 14 (upd (F 14) (Int32.toNatClampNeg (n 11)) v1)) 15 (upd (F 15) (Int32.toNatClampNeg (n 11)) v2)) 16 (upd (F 16) (Int32.toNatClampNeg (n 11)) (n 11))) 17 (upd (F 17) (Int32.toNatClampNeg (n 11)) 0)) 18 (upd (F 18) (Int32.toNatClampNeg (n 11)) (-1))) 19 (upd (F 19) (Int32.toNatClampNeg (n 11)) 0)) 20 (upd (F 20) (Int32.toNatClampNeg (n 11)) 0)) 21 (upd (F 21) (Int32.toNatClampNeg (n 11)) (-1))) 22 (upd (F 22) (Int32.toNatClampNeg (n 11)) (-1))) 23 (upd (F 23) (Int32.toNatClampNeg (n 11)) 0)) (upn n 11 z_30)) H := hP
        have hD : va_D A (w10 h0 X C (upF (upF (upF (upF (upF (upF (upF (upF (upF (upF (upF F 13 (upd (F 13) (Int32.toNatClampNeg (n 11)) 0)) 14 (upd (F 14) (Int32.toNatClampNeg (n 11)) v1)) 15 (upd (F 15) (Int32.toNatClampNeg (n 11)) v2)) 16 (upd (F 16) (Int32.toNatClampNeg (n 11)) (n 11))) 17 (upd (F 17) (Int32.toNatClampNeg (n 11)) 0)) 18 (upd (F 18) (Int32.toNatClampNeg (n 11)) (-1))) 19 (upd (F 19) (Int32.toNatClampNeg (n 11)) 0)) 20 (upd (F 20) (Int32.toNatClampNeg (n 11)) 0)) 21 (upd (F 21) (Int32.toNatClampNeg (n 11)) (-1))) 22 (upd (F 22) (Int32.toNatClampNeg (n 11)) (-1))) 23 (upd (F 23) (Int32.toNatClampNeg (n 11)) 0)) (upn n 11 z_30)) := hD
        refine lv_aload_n hx hb dX10_comes_133 rfl (lv_at hl 1 rfl) ?_
        refine va_get (D := (dC, dI)) (ci := 10) (v := .ref (X 24)) (C := RX10) (T := TX10) (N := 60) hx hb hg gb_10 hown hK hP 0 rfl rfl 24 (by decide) (hg _ gm_fieldLink_RX10_78_ErrandGuildModel_isBack_AZ_) (fun _ h9 => h9) rfl dX10_comes_134 ?_
        refine lv_iload_n hx hb dX10_comes_137 rfl (lv_at hl 0 rfl) ?_
        refine lv_iconst (v := 0) hx hb dX10_comes_138 (by decide) ?_
        refine va_zast hx hb hK hP hD hS 22 21 rfl rfl (vp_in_iff.mpr ⟨by omega, by omega⟩) dX10_comes_139 (fun H locs hP hD hS => ?_)
        have hP : va_P (dC, dI) vwCl (w10 h0 X C (upF (upF (upF (upF (upF (upF (upF (upF (upF (upF (upF (upF F 13 (upd (F 13) (Int32.toNatClampNeg (n 11)) 0)) 14 (upd (F 14) (Int32.toNatClampNeg (n 11)) v1)) 15 (upd (F 15) (Int32.toNatClampNeg (n 11)) v2)) 16 (upd (F 16) (Int32.toNatClampNeg (n 11)) (n 11))) 17 (upd (F 17) (Int32.toNatClampNeg (n 11)) 0)) 18 (upd (F 18) (Int32.toNatClampNeg (n 11)) (-1))) 19 (upd (F 19) (Int32.toNatClampNeg (n 11)) 0)) 20 (upd (F 20) (Int32.toNatClampNeg (n 11)) 0)) 21 (upd (F 21) (Int32.toNatClampNeg (n 11)) (-1))) 22 (upd (F 22) (Int32.toNatClampNeg (n 11)) (-1))) 23 (upd (F 23) (Int32.toNatClampNeg (n 11)) 0)) 24 (upd (F 24) (Int32.toNatClampNeg (n 11)) (vp_nar .boolean 0))) (upn n 11 z_30)) H := hP
        have hD : va_D A (w10 h0 X C (upF (upF (upF (upF (upF (upF (upF (upF (upF (upF (upF (upF F 13 (upd (F 13) (Int32.toNatClampNeg (n 11)) 0)) 14 (upd (F 14) (Int32.toNatClampNeg (n 11)) v1)) 15 (upd (F 15) (Int32.toNatClampNeg (n 11)) v2)) 16 (upd (F 16) (Int32.toNatClampNeg (n 11)) (n 11))) 17 (upd (F 17) (Int32.toNatClampNeg (n 11)) 0)) 18 (upd (F 18) (Int32.toNatClampNeg (n 11)) (-1))) 19 (upd (F 19) (Int32.toNatClampNeg (n 11)) 0)) 20 (upd (F 20) (Int32.toNatClampNeg (n 11)) 0)) 21 (upd (F 21) (Int32.toNatClampNeg (n 11)) (-1))) 22 (upd (F 22) (Int32.toNatClampNeg (n 11)) (-1))) 23 (upd (F 23) (Int32.toNatClampNeg (n 11)) 0)) 24 (upd (F 24) (Int32.toNatClampNeg (n 11)) (vp_nar .boolean 0))) (upn n 11 z_30)) := hD
        have j_139 : J7 (upd (F 24) (Int32.toNatClampNeg (n 11)) (vp_nar .boolean 0)) (upd (F 20) (Int32.toNatClampNeg (n 11)) 0) := J7_ib j_137 (Int32.toNatClampNeg (n 11)) (Or.inl (by rw [nb0]; decide))
        refine lv_aload_n hx hb dX10_comes_140 rfl (lv_at hl 1 rfl) ?_
        refine va_get (D := (dC, dI)) (ci := 10) (v := .ref (X 25)) (C := RX10) (T := TX10) (N := 60) hx hb hg gb_10 hown hK hP 0 rfl rfl 25 (by decide) (hg _ gm_fieldLink_RX10_81_ErrandGuildModel_isTold_AZ_) (fun _ h9 => h9) rfl dX10_comes_141 ?_
        refine lv_iload_n hx hb dX10_comes_144 rfl (lv_at hl 0 rfl) ?_
        refine lv_iconst (v := 0) hx hb dX10_comes_145 (by decide) ?_
        refine va_zast hx hb hK hP hD hS 23 22 rfl rfl (vp_in_iff.mpr ⟨by omega, by omega⟩) dX10_comes_146 (fun H locs hP hD hS => ?_)
        have hP : va_P (dC, dI) vwCl (w10 h0 X C (upF (upF (upF (upF (upF (upF (upF (upF (upF (upF (upF (upF (upF F 13 (upd (F 13) (Int32.toNatClampNeg (n 11)) 0)) 14 (upd (F 14) (Int32.toNatClampNeg (n 11)) v1)) 15 (upd (F 15) (Int32.toNatClampNeg (n 11)) v2)) 16 (upd (F 16) (Int32.toNatClampNeg (n 11)) (n 11))) 17 (upd (F 17) (Int32.toNatClampNeg (n 11)) 0)) 18 (upd (F 18) (Int32.toNatClampNeg (n 11)) (-1))) 19 (upd (F 19) (Int32.toNatClampNeg (n 11)) 0)) 20 (upd (F 20) (Int32.toNatClampNeg (n 11)) 0)) 21 (upd (F 21) (Int32.toNatClampNeg (n 11)) (-1))) 22 (upd (F 22) (Int32.toNatClampNeg (n 11)) (-1))) 23 (upd (F 23) (Int32.toNatClampNeg (n 11)) 0)) 24 (upd (F 24) (Int32.toNatClampNeg (n 11)) (vp_nar .boolean 0))) 25 (upd (F 25) (Int32.toNatClampNeg (n 11)) (vp_nar .boolean 0))) (upn n 11 z_30)) H := hP
        have hD : va_D A (w10 h0 X C (upF (upF (upF (upF (upF (upF (upF (upF (upF (upF (upF (upF (upF F 13 (upd (F 13) (Int32.toNatClampNeg (n 11)) 0)) 14 (upd (F 14) (Int32.toNatClampNeg (n 11)) v1)) 15 (upd (F 15) (Int32.toNatClampNeg (n 11)) v2)) 16 (upd (F 16) (Int32.toNatClampNeg (n 11)) (n 11))) 17 (upd (F 17) (Int32.toNatClampNeg (n 11)) 0)) 18 (upd (F 18) (Int32.toNatClampNeg (n 11)) (-1))) 19 (upd (F 19) (Int32.toNatClampNeg (n 11)) 0)) 20 (upd (F 20) (Int32.toNatClampNeg (n 11)) 0)) 21 (upd (F 21) (Int32.toNatClampNeg (n 11)) (-1))) 22 (upd (F 22) (Int32.toNatClampNeg (n 11)) (-1))) 23 (upd (F 23) (Int32.toNatClampNeg (n 11)) 0)) 24 (upd (F 24) (Int32.toNatClampNeg (n 11)) (vp_nar .boolean 0))) 25 (upd (F 25) (Int32.toNatClampNeg (n 11)) (vp_nar .boolean 0))) (upn n 11 z_30)) := hD
        refine lv_aload_n hx hb dX10_comes_147 rfl (lv_at hl 1 rfl) ?_
        refine va_get (D := (dC, dI)) (ci := 10) (v := .ref (X 26)) (C := RX10) (T := TX10) (N := 60) hx hb hg gb_10 hown hK hP 0 rfl rfl 26 (by decide) (hg _ gm_fieldLink_RX10_84_ErrandGuildModel_wasWaited_AZ_) (fun _ h9 => h9) rfl dX10_comes_148 ?_
        refine lv_iload_n hx hb dX10_comes_151 rfl (lv_at hl 0 rfl) ?_
        refine lv_iconst (v := 0) hx hb dX10_comes_152 (by decide) ?_
        refine va_zast hx hb hK hP hD hS 24 23 rfl rfl (vp_in_iff.mpr ⟨by omega, by omega⟩) dX10_comes_153 (fun H locs hP hD hS => ?_)
        have hP : va_P (dC, dI) vwCl (w10 h0 X C (upF (upF (upF (upF (upF (upF (upF (upF (upF (upF (upF (upF (upF (upF F 13 (upd (F 13) (Int32.toNatClampNeg (n 11)) 0)) 14 (upd (F 14) (Int32.toNatClampNeg (n 11)) v1)) 15 (upd (F 15) (Int32.toNatClampNeg (n 11)) v2)) 16 (upd (F 16) (Int32.toNatClampNeg (n 11)) (n 11))) 17 (upd (F 17) (Int32.toNatClampNeg (n 11)) 0)) 18 (upd (F 18) (Int32.toNatClampNeg (n 11)) (-1))) 19 (upd (F 19) (Int32.toNatClampNeg (n 11)) 0)) 20 (upd (F 20) (Int32.toNatClampNeg (n 11)) 0)) 21 (upd (F 21) (Int32.toNatClampNeg (n 11)) (-1))) 22 (upd (F 22) (Int32.toNatClampNeg (n 11)) (-1))) 23 (upd (F 23) (Int32.toNatClampNeg (n 11)) 0)) 24 (upd (F 24) (Int32.toNatClampNeg (n 11)) (vp_nar .boolean 0))) 25 (upd (F 25) (Int32.toNatClampNeg (n 11)) (vp_nar .boolean 0))) 26 (upd (F 26) (Int32.toNatClampNeg (n 11)) (vp_nar .boolean 0))) (upn n 11 z_30)) H := hP
        have hD : va_D A (w10 h0 X C (upF (upF (upF (upF (upF (upF (upF (upF (upF (upF (upF (upF (upF (upF F 13 (upd (F 13) (Int32.toNatClampNeg (n 11)) 0)) 14 (upd (F 14) (Int32.toNatClampNeg (n 11)) v1)) 15 (upd (F 15) (Int32.toNatClampNeg (n 11)) v2)) 16 (upd (F 16) (Int32.toNatClampNeg (n 11)) (n 11))) 17 (upd (F 17) (Int32.toNatClampNeg (n 11)) 0)) 18 (upd (F 18) (Int32.toNatClampNeg (n 11)) (-1))) 19 (upd (F 19) (Int32.toNatClampNeg (n 11)) 0)) 20 (upd (F 20) (Int32.toNatClampNeg (n 11)) 0)) 21 (upd (F 21) (Int32.toNatClampNeg (n 11)) (-1))) 22 (upd (F 22) (Int32.toNatClampNeg (n 11)) (-1))) 23 (upd (F 23) (Int32.toNatClampNeg (n 11)) 0)) 24 (upd (F 24) (Int32.toNatClampNeg (n 11)) (vp_nar .boolean 0))) 25 (upd (F 25) (Int32.toNatClampNeg (n 11)) (vp_nar .boolean 0))) 26 (upd (F 26) (Int32.toNatClampNeg (n 11)) (vp_nar .boolean 0))) (upn n 11 z_30)) := hD
        refine lv_aload_n hx hb dX10_comes_154 rfl (lv_at hl 1 rfl) ?_
        refine va_get (D := (dC, dI)) (ci := 10) (v := .ref (X 27)) (C := RX10) (T := TX10) (N := 60) hx hb hg gb_10 hown hK hP 0 rfl rfl 27 (by decide) (hg _ gm_fieldLink_RX10_87_ErrandGuildModel_isAwaited_AZ_) (fun _ h9 => h9) rfl dX10_comes_155 ?_
        refine lv_iload_n hx hb dX10_comes_158 rfl (lv_at hl 0 rfl) ?_
        refine lv_iconst (v := 0) hx hb dX10_comes_159 (by decide) ?_
        refine va_zast hx hb hK hP hD hS 25 24 rfl rfl (vp_in_iff.mpr ⟨by omega, by omega⟩) dX10_comes_160 (fun H locs hP hD hS => ?_)
        have hP : va_P (dC, dI) vwCl (w10 h0 X C (upF (upF (upF (upF (upF (upF (upF (upF (upF (upF (upF (upF (upF (upF (upF F 13 (upd (F 13) (Int32.toNatClampNeg (n 11)) 0)) 14 (upd (F 14) (Int32.toNatClampNeg (n 11)) v1)) 15 (upd (F 15) (Int32.toNatClampNeg (n 11)) v2)) 16 (upd (F 16) (Int32.toNatClampNeg (n 11)) (n 11))) 17 (upd (F 17) (Int32.toNatClampNeg (n 11)) 0)) 18 (upd (F 18) (Int32.toNatClampNeg (n 11)) (-1))) 19 (upd (F 19) (Int32.toNatClampNeg (n 11)) 0)) 20 (upd (F 20) (Int32.toNatClampNeg (n 11)) 0)) 21 (upd (F 21) (Int32.toNatClampNeg (n 11)) (-1))) 22 (upd (F 22) (Int32.toNatClampNeg (n 11)) (-1))) 23 (upd (F 23) (Int32.toNatClampNeg (n 11)) 0)) 24 (upd (F 24) (Int32.toNatClampNeg (n 11)) (vp_nar .boolean 0))) 25 (upd (F 25) (Int32.toNatClampNeg (n 11)) (vp_nar .boolean 0))) 26 (upd (F 26) (Int32.toNatClampNeg (n 11)) (vp_nar .boolean 0))) 27 (upd (F 27) (Int32.toNatClampNeg (n 11)) (vp_nar .boolean 0))) (upn n 11 z_30)) H := hP
        have hD : va_D A (w10 h0 X C (upF (upF (upF (upF (upF (upF (upF (upF (upF (upF (upF (upF (upF (upF (upF F 13 (upd (F 13) (Int32.toNatClampNeg (n 11)) 0)) 14 (upd (F 14) (Int32.toNatClampNeg (n 11)) v1)) 15 (upd (F 15) (Int32.toNatClampNeg (n 11)) v2)) 16 (upd (F 16) (Int32.toNatClampNeg (n 11)) (n 11))) 17 (upd (F 17) (Int32.toNatClampNeg (n 11)) 0)) 18 (upd (F 18) (Int32.toNatClampNeg (n 11)) (-1))) 19 (upd (F 19) (Int32.toNatClampNeg (n 11)) 0)) 20 (upd (F 20) (Int32.toNatClampNeg (n 11)) 0)) 21 (upd (F 21) (Int32.toNatClampNeg (n 11)) (-1))) 22 (upd (F 22) (Int32.toNatClampNeg (n 11)) (-1))) 23 (upd (F 23) (Int32.toNatClampNeg (n 11)) 0)) 24 (upd (F 24) (Int32.toNatClampNeg (n 11)) (vp_nar .boolean 0))) 25 (upd (F 25) (Int32.toNatClampNeg (n 11)) (vp_nar .boolean 0))) 26 (upd (F 26) (Int32.toNatClampNeg (n 11)) (vp_nar .boolean 0))) 27 (upd (F 27) (Int32.toNatClampNeg (n 11)) (vp_nar .boolean 0))) (upn n 11 z_30)) := hD
        refine lv_aload_n hx hb dX10_comes_161 rfl (lv_at hl 1 rfl) ?_
        refine va_get (D := (dC, dI)) (ci := 10) (v := .ref (X 32)) (C := RX10) (T := TX10) (N := 60) hx hb hg gb_10 hown hK hP 0 rfl rfl 32 (by decide) (hg _ gm_fieldLink_RX10_102_ErrandGuildModel_isUncaught_AZ_) (fun _ h9 => h9) rfl dX10_comes_162 ?_
        refine lv_iload_n hx hb dX10_comes_165 rfl (lv_at hl 0 rfl) ?_
        refine lv_iconst (v := 0) hx hb dX10_comes_166 (by decide) ?_
        refine va_zast hx hb hK hP hD hS 30 29 rfl rfl (vp_in_iff.mpr ⟨by omega, by omega⟩) dX10_comes_167 (fun H locs hP hD hS => ?_)
        have hP : va_P (dC, dI) vwCl (w10 h0 X C (upF (upF (upF (upF (upF (upF (upF (upF (upF (upF (upF (upF (upF (upF (upF (upF F 13 (upd (F 13) (Int32.toNatClampNeg (n 11)) 0)) 14 (upd (F 14) (Int32.toNatClampNeg (n 11)) v1)) 15 (upd (F 15) (Int32.toNatClampNeg (n 11)) v2)) 16 (upd (F 16) (Int32.toNatClampNeg (n 11)) (n 11))) 17 (upd (F 17) (Int32.toNatClampNeg (n 11)) 0)) 18 (upd (F 18) (Int32.toNatClampNeg (n 11)) (-1))) 19 (upd (F 19) (Int32.toNatClampNeg (n 11)) 0)) 20 (upd (F 20) (Int32.toNatClampNeg (n 11)) 0)) 21 (upd (F 21) (Int32.toNatClampNeg (n 11)) (-1))) 22 (upd (F 22) (Int32.toNatClampNeg (n 11)) (-1))) 23 (upd (F 23) (Int32.toNatClampNeg (n 11)) 0)) 24 (upd (F 24) (Int32.toNatClampNeg (n 11)) (vp_nar .boolean 0))) 25 (upd (F 25) (Int32.toNatClampNeg (n 11)) (vp_nar .boolean 0))) 26 (upd (F 26) (Int32.toNatClampNeg (n 11)) (vp_nar .boolean 0))) 27 (upd (F 27) (Int32.toNatClampNeg (n 11)) (vp_nar .boolean 0))) 32 (upd (F 32) (Int32.toNatClampNeg (n 11)) (vp_nar .boolean 0))) (upn n 11 z_30)) H := hP
        have hD : va_D A (w10 h0 X C (upF (upF (upF (upF (upF (upF (upF (upF (upF (upF (upF (upF (upF (upF (upF (upF F 13 (upd (F 13) (Int32.toNatClampNeg (n 11)) 0)) 14 (upd (F 14) (Int32.toNatClampNeg (n 11)) v1)) 15 (upd (F 15) (Int32.toNatClampNeg (n 11)) v2)) 16 (upd (F 16) (Int32.toNatClampNeg (n 11)) (n 11))) 17 (upd (F 17) (Int32.toNatClampNeg (n 11)) 0)) 18 (upd (F 18) (Int32.toNatClampNeg (n 11)) (-1))) 19 (upd (F 19) (Int32.toNatClampNeg (n 11)) 0)) 20 (upd (F 20) (Int32.toNatClampNeg (n 11)) 0)) 21 (upd (F 21) (Int32.toNatClampNeg (n 11)) (-1))) 22 (upd (F 22) (Int32.toNatClampNeg (n 11)) (-1))) 23 (upd (F 23) (Int32.toNatClampNeg (n 11)) 0)) 24 (upd (F 24) (Int32.toNatClampNeg (n 11)) (vp_nar .boolean 0))) 25 (upd (F 25) (Int32.toNatClampNeg (n 11)) (vp_nar .boolean 0))) 26 (upd (F 26) (Int32.toNatClampNeg (n 11)) (vp_nar .boolean 0))) 27 (upd (F 27) (Int32.toNatClampNeg (n 11)) (vp_nar .boolean 0))) 32 (upd (F 32) (Int32.toNatClampNeg (n 11)) (vp_nar .boolean 0))) (upn n 11 z_30)) := hD
        have j_140 : J8 (upd (F 32) (Int32.toNatClampNeg (n 11)) (vp_nar .boolean 0)) (upd (F 13) (Int32.toNatClampNeg (n 11)) 0) := J8_both j_28 (Int32.toNatClampNeg (n 11)) (Or.inl (by rw [nb0]; decide))
        have j_141 : J6 (upd (F 32) (Int32.toNatClampNeg (n 11)) (vp_nar .boolean 0)) (n 47) z_30 := J6_new j_26 (by omega) (by omega) rfl nb0
        refine lv_aload_n hx hb dX10_comes_168 rfl (lv_at hl 1 rfl) ?_
        refine va_get (D := (dC, dI)) (ci := 10) (v := .ref (X 36)) (C := RX10) (T := TX10) (N := 60) hx hb hg gb_10 hown hK hP 0 rfl rfl 36 (by decide) (hg _ gm_fieldLink_RX10_114_ErrandGuildModel_bindMany_AI_) (fun _ h9 => h9) rfl dX10_comes_169 ?_
        refine lv_iload_n hx hb dX10_comes_172 rfl (lv_at hl 0 rfl) ?_
        refine lv_iconst (v := 0) hx hb dX10_comes_173 (by decide) ?_
        refine va_iast hx hb hK hP hD hS 34 33 rfl rfl (vp_in_iff.mpr ⟨by omega, by omega⟩) dX10_comes_174 (fun H locs hP hD hS => ?_)
        have hP : va_P (dC, dI) vwCl (w10 h0 X C (upF (upF (upF (upF (upF (upF (upF (upF (upF (upF (upF (upF (upF (upF (upF (upF (upF F 13 (upd (F 13) (Int32.toNatClampNeg (n 11)) 0)) 14 (upd (F 14) (Int32.toNatClampNeg (n 11)) v1)) 15 (upd (F 15) (Int32.toNatClampNeg (n 11)) v2)) 16 (upd (F 16) (Int32.toNatClampNeg (n 11)) (n 11))) 17 (upd (F 17) (Int32.toNatClampNeg (n 11)) 0)) 18 (upd (F 18) (Int32.toNatClampNeg (n 11)) (-1))) 19 (upd (F 19) (Int32.toNatClampNeg (n 11)) 0)) 20 (upd (F 20) (Int32.toNatClampNeg (n 11)) 0)) 21 (upd (F 21) (Int32.toNatClampNeg (n 11)) (-1))) 22 (upd (F 22) (Int32.toNatClampNeg (n 11)) (-1))) 23 (upd (F 23) (Int32.toNatClampNeg (n 11)) 0)) 24 (upd (F 24) (Int32.toNatClampNeg (n 11)) (vp_nar .boolean 0))) 25 (upd (F 25) (Int32.toNatClampNeg (n 11)) (vp_nar .boolean 0))) 26 (upd (F 26) (Int32.toNatClampNeg (n 11)) (vp_nar .boolean 0))) 27 (upd (F 27) (Int32.toNatClampNeg (n 11)) (vp_nar .boolean 0))) 32 (upd (F 32) (Int32.toNatClampNeg (n 11)) (vp_nar .boolean 0))) 36 (upd (F 36) (Int32.toNatClampNeg (n 11)) 0)) (upn n 11 z_30)) H := hP
        have hD : va_D A (w10 h0 X C (upF (upF (upF (upF (upF (upF (upF (upF (upF (upF (upF (upF (upF (upF (upF (upF (upF F 13 (upd (F 13) (Int32.toNatClampNeg (n 11)) 0)) 14 (upd (F 14) (Int32.toNatClampNeg (n 11)) v1)) 15 (upd (F 15) (Int32.toNatClampNeg (n 11)) v2)) 16 (upd (F 16) (Int32.toNatClampNeg (n 11)) (n 11))) 17 (upd (F 17) (Int32.toNatClampNeg (n 11)) 0)) 18 (upd (F 18) (Int32.toNatClampNeg (n 11)) (-1))) 19 (upd (F 19) (Int32.toNatClampNeg (n 11)) 0)) 20 (upd (F 20) (Int32.toNatClampNeg (n 11)) 0)) 21 (upd (F 21) (Int32.toNatClampNeg (n 11)) (-1))) 22 (upd (F 22) (Int32.toNatClampNeg (n 11)) (-1))) 23 (upd (F 23) (Int32.toNatClampNeg (n 11)) 0)) 24 (upd (F 24) (Int32.toNatClampNeg (n 11)) (vp_nar .boolean 0))) 25 (upd (F 25) (Int32.toNatClampNeg (n 11)) (vp_nar .boolean 0))) 26 (upd (F 26) (Int32.toNatClampNeg (n 11)) (vp_nar .boolean 0))) 27 (upd (F 27) (Int32.toNatClampNeg (n 11)) (vp_nar .boolean 0))) 32 (upd (F 32) (Int32.toNatClampNeg (n 11)) (vp_nar .boolean 0))) 36 (upd (F 36) (Int32.toNatClampNeg (n 11)) 0)) (upn n 11 z_30)) := hD
        have b_142 := bd_upd b_10 (Int32.toNatClampNeg (n 11)) (x := 0) (by have t_ := ti_0; omega) (by have t_ := ti_0; omega)
        have j_143 : J2 (upd (F 36) (Int32.toNatClampNeg (n 11)) 0) (upd (F 20) (Int32.toNatClampNeg (n 11)) 0) := J2_both j_23 (Int32.toNatClampNeg (n 11)) (Int.le_refl _)
        have j_144 : J5 (F 39) (upd (F 36) (Int32.toNatClampNeg (n 11)) 0) (F 41) (F 43) (F 42) := J5_bm j_25 (Int32.toNatClampNeg (n 11)) (Or.inr (by have t_0 := ti_0; omega))
        refine lv_aload_n hx hb dX10_comes_175 rfl (lv_at hl 1 rfl) ?_
        refine va_get (D := (dC, dI)) (ci := 10) (v := .ref (X 39)) (C := RX10) (T := TX10) (N := 60) hx hb hg gb_10 hown hK hP 0 rfl rfl 39 (by decide) (hg _ gm_fieldLink_RX10_123_ErrandGuildModel_tryMany_AI_) (fun _ h9 => h9) rfl dX10_comes_176 ?_
        refine lv_iload_n hx hb dX10_comes_179 rfl (lv_at hl 0 rfl) ?_
        refine lv_iconst (v := 0) hx hb dX10_comes_180 (by decide) ?_
        refine va_iast hx hb hK hP hD hS 37 36 rfl rfl (vp_in_iff.mpr ⟨by omega, by omega⟩) dX10_comes_181 (fun H locs hP hD hS => ?_)
        have hP : va_P (dC, dI) vwCl (w10 h0 X C (upF (upF (upF (upF (upF (upF (upF (upF (upF (upF (upF (upF (upF (upF (upF (upF (upF (upF F 13 (upd (F 13) (Int32.toNatClampNeg (n 11)) 0)) 14 (upd (F 14) (Int32.toNatClampNeg (n 11)) v1)) 15 (upd (F 15) (Int32.toNatClampNeg (n 11)) v2)) 16 (upd (F 16) (Int32.toNatClampNeg (n 11)) (n 11))) 17 (upd (F 17) (Int32.toNatClampNeg (n 11)) 0)) 18 (upd (F 18) (Int32.toNatClampNeg (n 11)) (-1))) 19 (upd (F 19) (Int32.toNatClampNeg (n 11)) 0)) 20 (upd (F 20) (Int32.toNatClampNeg (n 11)) 0)) 21 (upd (F 21) (Int32.toNatClampNeg (n 11)) (-1))) 22 (upd (F 22) (Int32.toNatClampNeg (n 11)) (-1))) 23 (upd (F 23) (Int32.toNatClampNeg (n 11)) 0)) 24 (upd (F 24) (Int32.toNatClampNeg (n 11)) (vp_nar .boolean 0))) 25 (upd (F 25) (Int32.toNatClampNeg (n 11)) (vp_nar .boolean 0))) 26 (upd (F 26) (Int32.toNatClampNeg (n 11)) (vp_nar .boolean 0))) 27 (upd (F 27) (Int32.toNatClampNeg (n 11)) (vp_nar .boolean 0))) 32 (upd (F 32) (Int32.toNatClampNeg (n 11)) (vp_nar .boolean 0))) 36 (upd (F 36) (Int32.toNatClampNeg (n 11)) 0)) 39 (upd (F 39) (Int32.toNatClampNeg (n 11)) 0)) (upn n 11 z_30)) H := hP
        have hD : va_D A (w10 h0 X C (upF (upF (upF (upF (upF (upF (upF (upF (upF (upF (upF (upF (upF (upF (upF (upF (upF (upF F 13 (upd (F 13) (Int32.toNatClampNeg (n 11)) 0)) 14 (upd (F 14) (Int32.toNatClampNeg (n 11)) v1)) 15 (upd (F 15) (Int32.toNatClampNeg (n 11)) v2)) 16 (upd (F 16) (Int32.toNatClampNeg (n 11)) (n 11))) 17 (upd (F 17) (Int32.toNatClampNeg (n 11)) 0)) 18 (upd (F 18) (Int32.toNatClampNeg (n 11)) (-1))) 19 (upd (F 19) (Int32.toNatClampNeg (n 11)) 0)) 20 (upd (F 20) (Int32.toNatClampNeg (n 11)) 0)) 21 (upd (F 21) (Int32.toNatClampNeg (n 11)) (-1))) 22 (upd (F 22) (Int32.toNatClampNeg (n 11)) (-1))) 23 (upd (F 23) (Int32.toNatClampNeg (n 11)) 0)) 24 (upd (F 24) (Int32.toNatClampNeg (n 11)) (vp_nar .boolean 0))) 25 (upd (F 25) (Int32.toNatClampNeg (n 11)) (vp_nar .boolean 0))) 26 (upd (F 26) (Int32.toNatClampNeg (n 11)) (vp_nar .boolean 0))) 27 (upd (F 27) (Int32.toNatClampNeg (n 11)) (vp_nar .boolean 0))) 32 (upd (F 32) (Int32.toNatClampNeg (n 11)) (vp_nar .boolean 0))) 36 (upd (F 36) (Int32.toNatClampNeg (n 11)) 0)) 39 (upd (F 39) (Int32.toNatClampNeg (n 11)) 0)) (upn n 11 z_30)) := hD
        have b_145 := bd_upd b_11 (Int32.toNatClampNeg (n 11)) (x := 0) (by have t_ := ti_0; omega) (by have t_ := ti_0; omega)
        have j_146 : J2 (upd (F 39) (Int32.toNatClampNeg (n 11)) 0) (upd (F 20) (Int32.toNatClampNeg (n 11)) 0) := J2_both j_22 (Int32.toNatClampNeg (n 11)) (Int.le_refl _)
        have j_147 : J4 (upd (F 39) (Int32.toNatClampNeg (n 11)) 0) (F 41) := J4_tm j_24 (Int32.toNatClampNeg (n 11)) (Or.inr (by have t_0 := ti_0; omega))
        have j_148 : J5 (upd (F 39) (Int32.toNatClampNeg (n 11)) 0) (upd (F 36) (Int32.toNatClampNeg (n 11)) 0) (F 41) (F 43) (F 42) := J5_tm j_144 (Int32.toNatClampNeg (n 11)) (Or.inr (by have t_0 := ti_0; omega))
        refine lv_iconst (v := 0) hx hb dX10_comes_182 (by decide) ?_
        refine lv_istore (lv' := [(4, .int 0), (3, .int (n 11)), (0, .ref h0), (1, .int v1), (2, .int v2)]) hx hb dX10_comes_183 hl (by decide) rfl (fun ls hl => ?_)
        have L185 : ∀ (fuel : Nat) (x_149 : Int32) (f_150 : Nat → Int32) (f_151 : Nat → Int32) (H : Heap) (locs : List Loc) (ls : Array Slot), (9 - x_149.toInt).toNat < fuel → 0 ≤ x_149.toInt ∧ x_149.toInt ≤ 8 → va_P (dC, dI) vwCl (w10 h0 X C (upF (upF (upF (upF (upF (upF (upF (upF (upF (upF (upF (upF (upF (upF (upF (upF (upF (upF (upF (upF F 13 (upd (F 13) (Int32.toNatClampNeg (n 11)) 0)) 14 (upd (F 14) (Int32.toNatClampNeg (n 11)) v1)) 15 (upd (F 15) (Int32.toNatClampNeg (n 11)) v2)) 16 (upd (F 16) (Int32.toNatClampNeg (n 11)) (n 11))) 17 (upd (F 17) (Int32.toNatClampNeg (n 11)) 0)) 18 (upd (F 18) (Int32.toNatClampNeg (n 11)) (-1))) 19 (upd (F 19) (Int32.toNatClampNeg (n 11)) 0)) 20 (upd (F 20) (Int32.toNatClampNeg (n 11)) 0)) 21 (upd (F 21) (Int32.toNatClampNeg (n 11)) (-1))) 22 (upd (F 22) (Int32.toNatClampNeg (n 11)) (-1))) 23 (upd (F 23) (Int32.toNatClampNeg (n 11)) 0)) 24 (upd (F 24) (Int32.toNatClampNeg (n 11)) (vp_nar .boolean 0))) 25 (upd (F 25) (Int32.toNatClampNeg (n 11)) (vp_nar .boolean 0))) 26 (upd (F 26) (Int32.toNatClampNeg (n 11)) (vp_nar .boolean 0))) 27 (upd (F 27) (Int32.toNatClampNeg (n 11)) (vp_nar .boolean 0))) 32 (upd (F 32) (Int32.toNatClampNeg (n 11)) (vp_nar .boolean 0))) 33 f_150) 35 f_151) 36 (upd (F 36) (Int32.toNatClampNeg (n 11)) 0)) 39 (upd (F 39) (Int32.toNatClampNeg (n 11)) 0)) (upn n 11 z_30)) H → va_D A (w10 h0 X C (upF (upF (upF (upF (upF (upF (upF (upF (upF (upF (upF (upF (upF (upF (upF (upF (upF (upF (upF (upF F 13 (upd (F 13) (Int32.toNatClampNeg (n 11)) 0)) 14 (upd (F 14) (Int32.toNatClampNeg (n 11)) v1)) 15 (upd (F 15) (Int32.toNatClampNeg (n 11)) v2)) 16 (upd (F 16) (Int32.toNatClampNeg (n 11)) (n 11))) 17 (upd (F 17) (Int32.toNatClampNeg (n 11)) 0)) 18 (upd (F 18) (Int32.toNatClampNeg (n 11)) (-1))) 19 (upd (F 19) (Int32.toNatClampNeg (n 11)) 0)) 20 (upd (F 20) (Int32.toNatClampNeg (n 11)) 0)) 21 (upd (F 21) (Int32.toNatClampNeg (n 11)) (-1))) 22 (upd (F 22) (Int32.toNatClampNeg (n 11)) (-1))) 23 (upd (F 23) (Int32.toNatClampNeg (n 11)) 0)) 24 (upd (F 24) (Int32.toNatClampNeg (n 11)) (vp_nar .boolean 0))) 25 (upd (F 25) (Int32.toNatClampNeg (n 11)) (vp_nar .boolean 0))) 26 (upd (F 26) (Int32.toNatClampNeg (n 11)) (vp_nar .boolean 0))) 27 (upd (F 27) (Int32.toNatClampNeg (n 11)) (vp_nar .boolean 0))) 32 (upd (F 32) (Int32.toNatClampNeg (n 11)) (vp_nar .boolean 0))) 33 f_150) 35 f_151) 36 (upd (F 36) (Int32.toNatClampNeg (n 11)) 0)) 39 (upd (F 39) (Int32.toNatClampNeg (n 11)) 0)) (upn n 11 z_30)) → va_S A s.heap H locs → lv_has ls 5 [(4, .int x_149), (3, .int (n 11)), (0, .ref h0), (1, .int v1), (2, .int v2)] → W p l e (headSpec (.code yX10_comes cX10_comes 5 (some .int) :: gw) ({ frames := 2, cells := 0, slots := 0, locals := 47 })).room s m ([.ref h0, .int v1, .int v2] : List Value).toArray below meth c H locs 0 0 (MQ below (va_Qi (fun (r : Int32) (u : (Nat → Nat → Int32) × (Nat → Int32)) => 0 ≤ r.toInt ∧ r.toInt < 200 ∧ (∀ j : Nat, (j : Int) < (n 11).toInt → (u.1 13 j).toInt = (F 13 j).toInt ∧ (u.1 20 j).toInt = (F 20 j).toInt ∧ (u.1 24 j).toInt = (F 24 j).toInt) ∧ (u.2 11).toInt = (n 11).toInt + 1) (fun u t => va_P (dC, dI) vwCl (w10 h0 X C u.1 u.2) t.heap ∧ va_D A (w10 h0 X C u.1 u.2) ∧ I10 kp u.1 u.2) A) ([.ref h0, .int v1, .int v2] : List Value).toArray s 0 0 A) (F0 m 185 ls []) := by
          intro fuel
          induction fuel with
          | zero => intro x_149 f_150 f_151 H locs ls hm; exact absurd hm (Nat.not_lt_zero _)
          | succ fuel_153 ih_152 =>
            intro x_149 f_150 f_151 H locs ls hm_155 v_154 hP hD hS hl
            refine lv_iload hx hb dX10_comes_185 (lv_at hl 0 rfl) ?_
            refine lv_bipush (v := 8) hx hb dX10_comes_187 (by decide) ?_
            refine lv_icmp_ge (tgt := 245) hx hb dX10_comes_189 (by decide) (fun c_156 => ?_) (fun c_156 => ?_)
            · simp only [i_lt, i_le, i_eq, ti_8] at c_156
              refine lv_iload_n hx hb dX10_comes_245 rfl (lv_at hl 1 rfl) ?_
              exact W.iret (v := n 11) hx hb hr (fun t ht hW => ⟨⟨n 11, ((upF (upF (upF (upF (upF (upF (upF (upF (upF (upF (upF (upF (upF (upF (upF (upF (upF (upF (upF (upF F 13 (upd (F 13) (Int32.toNatClampNeg (n 11)) 0)) 14 (upd (F 14) (Int32.toNatClampNeg (n 11)) v1)) 15 (upd (F 15) (Int32.toNatClampNeg (n 11)) v2)) 16 (upd (F 16) (Int32.toNatClampNeg (n 11)) (n 11))) 17 (upd (F 17) (Int32.toNatClampNeg (n 11)) 0)) 18 (upd (F 18) (Int32.toNatClampNeg (n 11)) (-1))) 19 (upd (F 19) (Int32.toNatClampNeg (n 11)) 0)) 20 (upd (F 20) (Int32.toNatClampNeg (n 11)) 0)) 21 (upd (F 21) (Int32.toNatClampNeg (n 11)) (-1))) 22 (upd (F 22) (Int32.toNatClampNeg (n 11)) (-1))) 23 (upd (F 23) (Int32.toNatClampNeg (n 11)) 0)) 24 (upd (F 24) (Int32.toNatClampNeg (n 11)) (vp_nar .boolean 0))) 25 (upd (F 25) (Int32.toNatClampNeg (n 11)) (vp_nar .boolean 0))) 26 (upd (F 26) (Int32.toNatClampNeg (n 11)) (vp_nar .boolean 0))) 27 (upd (F 27) (Int32.toNatClampNeg (n 11)) (vp_nar .boolean 0))) 32 (upd (F 32) (Int32.toNatClampNeg (n 11)) (vp_nar .boolean 0))) 33 f_150) 35 f_151) 36 (upd (F 36) (Int32.toNatClampNeg (n 11)) 0)) 39 (upd (F 39) (Int32.toNatClampNeg (n 11)) 0)), (upn n 11 z_30)), rfl, ⟨by omega, by omega, fun j hj => ⟨by show ((upd (F 13) (Int32.toNatClampNeg (n 11)) 0) j).toInt = (F 13 j).toInt; rw [upd_ne _ _ _ _ (by have ce := cl_eq (n 11); omega)], by show ((upd (F 20) (Int32.toNatClampNeg (n 11)) 0) j).toInt = (F 20 j).toInt; rw [upd_ne _ _ _ _ (by have ce := cl_eq (n 11); omega)], by show ((upd (F 24) (Int32.toNatClampNeg (n 11)) (vp_nar .boolean 0)) j).toInt = (F 24 j).toInt; rw [upd_ne _ _ _ _ (by have ce := cl_eq (n 11); omega)]⟩, by show z_30.toInt = (n 11).toInt + 1; omega⟩, by rw [ht]; exact hP, hD, ⟨b_1, b_2, b_32, b_34, b_35, b_132, b_134, b_136, b_9, b_142, b_145, b_12, i_13, i_31, i_15, i_16, i_17, i_18, i_19, j_20, j_135, j_146, j_143, j_147, j_148, j_141, j_139, j_140, j_29⟩⟩, hS.F ht⟩) hS.2.2 dX10_comes_246
            · simp only [i_lt, i_le, i_eq, ti_8] at c_156
              refine lv_aload_n hx hb dX10_comes_192 rfl (lv_at hl 2 rfl) ?_
              refine va_get (D := (dC, dI)) (ci := 10) (v := .ref (X 35)) (C := RX10) (T := TX10) (N := 60) hx hb hg gb_10 hown hK hP 0 rfl rfl 35 (by decide) (hg _ gm_fieldLink_RX10_111_ErrandGuildModel_hasWritten_AZ_) (fun _ h9 => h9) rfl dX10_comes_193 ?_
              refine lv_bipush (v := 8) hx hb dX10_comes_196 (by decide) ?_
              refine lv_iload_n hx hb dX10_comes_198 rfl (lv_at hl 1 rfl) ?_
              refine lv_imul hx hb dX10_comes_199 ?_
              refine lv_topi (fun z_157 ez_157 => ?_)
              have tz_157 : z_157.toInt = 8 * (n 11).toInt := ar_mul ti_8 rfl ez_157 (by omega)
              refine lv_iload hx hb dX10_comes_200 (lv_at hl 0 rfl) ?_
              refine lv_iadd hx hb dX10_comes_202 ?_
              refine lv_topi (fun z_158 ez_158 => ?_)
              have tz_158 : z_158.toInt = z_157.toInt + x_149.toInt := ar_add rfl rfl ez_158 (by omega)
              refine lv_iconst (v := 0) hx hb dX10_comes_203 (by decide) ?_
              refine va_zast hx hb hK hP hD hS 33 32 rfl rfl (vp_in_iff.mpr ⟨by omega, by omega⟩) dX10_comes_204 (fun H locs hP hD hS => ?_)
              have hP : va_P (dC, dI) vwCl (w10 h0 X C (upF (upF (upF (upF (upF (upF (upF (upF (upF (upF (upF (upF (upF (upF (upF (upF (upF (upF (upF (upF F 13 (upd (F 13) (Int32.toNatClampNeg (n 11)) 0)) 14 (upd (F 14) (Int32.toNatClampNeg (n 11)) v1)) 15 (upd (F 15) (Int32.toNatClampNeg (n 11)) v2)) 16 (upd (F 16) (Int32.toNatClampNeg (n 11)) (n 11))) 17 (upd (F 17) (Int32.toNatClampNeg (n 11)) 0)) 18 (upd (F 18) (Int32.toNatClampNeg (n 11)) (-1))) 19 (upd (F 19) (Int32.toNatClampNeg (n 11)) 0)) 20 (upd (F 20) (Int32.toNatClampNeg (n 11)) 0)) 21 (upd (F 21) (Int32.toNatClampNeg (n 11)) (-1))) 22 (upd (F 22) (Int32.toNatClampNeg (n 11)) (-1))) 23 (upd (F 23) (Int32.toNatClampNeg (n 11)) 0)) 24 (upd (F 24) (Int32.toNatClampNeg (n 11)) (vp_nar .boolean 0))) 25 (upd (F 25) (Int32.toNatClampNeg (n 11)) (vp_nar .boolean 0))) 26 (upd (F 26) (Int32.toNatClampNeg (n 11)) (vp_nar .boolean 0))) 27 (upd (F 27) (Int32.toNatClampNeg (n 11)) (vp_nar .boolean 0))) 32 (upd (F 32) (Int32.toNatClampNeg (n 11)) (vp_nar .boolean 0))) 33 f_150) 35 (upd f_151 (Int32.toNatClampNeg z_158) (vp_nar .boolean 0))) 36 (upd (F 36) (Int32.toNatClampNeg (n 11)) 0)) 39 (upd (F 39) (Int32.toNatClampNeg (n 11)) 0)) (upn n 11 z_30)) H := hP
              have hD : va_D A (w10 h0 X C (upF (upF (upF (upF (upF (upF (upF (upF (upF (upF (upF (upF (upF (upF (upF (upF (upF (upF (upF (upF F 13 (upd (F 13) (Int32.toNatClampNeg (n 11)) 0)) 14 (upd (F 14) (Int32.toNatClampNeg (n 11)) v1)) 15 (upd (F 15) (Int32.toNatClampNeg (n 11)) v2)) 16 (upd (F 16) (Int32.toNatClampNeg (n 11)) (n 11))) 17 (upd (F 17) (Int32.toNatClampNeg (n 11)) 0)) 18 (upd (F 18) (Int32.toNatClampNeg (n 11)) (-1))) 19 (upd (F 19) (Int32.toNatClampNeg (n 11)) 0)) 20 (upd (F 20) (Int32.toNatClampNeg (n 11)) 0)) 21 (upd (F 21) (Int32.toNatClampNeg (n 11)) (-1))) 22 (upd (F 22) (Int32.toNatClampNeg (n 11)) (-1))) 23 (upd (F 23) (Int32.toNatClampNeg (n 11)) 0)) 24 (upd (F 24) (Int32.toNatClampNeg (n 11)) (vp_nar .boolean 0))) 25 (upd (F 25) (Int32.toNatClampNeg (n 11)) (vp_nar .boolean 0))) 26 (upd (F 26) (Int32.toNatClampNeg (n 11)) (vp_nar .boolean 0))) 27 (upd (F 27) (Int32.toNatClampNeg (n 11)) (vp_nar .boolean 0))) 32 (upd (F 32) (Int32.toNatClampNeg (n 11)) (vp_nar .boolean 0))) 33 f_150) 35 (upd f_151 (Int32.toNatClampNeg z_158) (vp_nar .boolean 0))) 36 (upd (F 36) (Int32.toNatClampNeg (n 11)) 0)) 39 (upd (F 39) (Int32.toNatClampNeg (n 11)) 0)) (upn n 11 z_30)) := hD
              refine lv_aload_n hx hb dX10_comes_205 rfl (lv_at hl 2 rfl) ?_
              refine va_get (D := (dC, dI)) (ci := 10) (v := .ref (X 33)) (C := RX10) (T := TX10) (N := 60) hx hb hg gb_10 hown hK hP 0 rfl rfl 33 (by decide) (hg _ gm_fieldLink_RX10_105_ErrandGuildModel_kept_AI_) (fun _ h9 => h9) rfl dX10_comes_206 ?_
              refine lv_bipush (v := 8) hx hb dX10_comes_209 (by decide) ?_
              refine lv_iload_n hx hb dX10_comes_211 rfl (lv_at hl 1 rfl) ?_
              refine lv_imul hx hb dX10_comes_212 ?_
              refine lv_topi (fun z_159 ez_159 => ?_)
              have tz_159 : z_159.toInt = 8 * (n 11).toInt := ar_mul ti_8 rfl ez_159 (by omega)
              refine lv_iload hx hb dX10_comes_213 (lv_at hl 0 rfl) ?_
              refine lv_iadd hx hb dX10_comes_215 ?_
              refine lv_topi (fun z_160 ez_160 => ?_)
              have tz_160 : z_160.toInt = z_159.toInt + x_149.toInt := ar_add rfl rfl ez_160 (by omega)
              refine lv_iload_n hx hb dX10_comes_216 rfl (lv_at hl 4 rfl) ?_
              refine lv_iconst (v := -1) hx hb dX10_comes_217 (by decide) ?_
              refine lv_icmp_ne (tgt := 231) hx hb dX10_comes_218 (by decide) (fun c_161 => ?_) (fun c_161 => ?_)
              · simp only [i_lt, i_le, i_eq, ti_m1] at c_161
                exfalso
                omega
              · simp only [i_lt, i_le, i_eq, ti_m1] at c_161
                refine lv_aload_n hx hb dX10_comes_221 rfl (lv_at hl 2 rfl) ?_
                refine va_get (D := (dC, dI)) (ci := 10) (v := .ref (X 1)) (C := RX10) (T := TX10) (N := 60) hx hb hg gb_10 hown hK hP 0 rfl rfl 1 (by decide) (hg _ gm_fieldLink_RX10_13_ErrandGuildModel_first_AI_) (fun _ h9 => h9) rfl dX10_comes_222 ?_
                refine lv_iload hx hb dX10_comes_225 (lv_at hl 0 rfl) ?_
                refine va_iald hx hb hK hP 2 1 rfl rfl (vp_in_iff.mpr ⟨by omega, by omega⟩) dX10_comes_227 ?_
                refine lv_topi (fun z_162 ez_162 => ?_)
                have qz_162 := congrArg Int32.toInt ez_162
                refine lv_goto (tgt := 238) hx hb dX10_comes_228 (by decide) ?_
                refine va_iast hx hb hK hP hD hS 31 30 rfl rfl (vp_in_iff.mpr ⟨by omega, by omega⟩) dX10_comes_238 (fun H locs hP hD hS => ?_)
                have hP : va_P (dC, dI) vwCl (w10 h0 X C (upF (upF (upF (upF (upF (upF (upF (upF (upF (upF (upF (upF (upF (upF (upF (upF (upF (upF (upF (upF F 13 (upd (F 13) (Int32.toNatClampNeg (n 11)) 0)) 14 (upd (F 14) (Int32.toNatClampNeg (n 11)) v1)) 15 (upd (F 15) (Int32.toNatClampNeg (n 11)) v2)) 16 (upd (F 16) (Int32.toNatClampNeg (n 11)) (n 11))) 17 (upd (F 17) (Int32.toNatClampNeg (n 11)) 0)) 18 (upd (F 18) (Int32.toNatClampNeg (n 11)) (-1))) 19 (upd (F 19) (Int32.toNatClampNeg (n 11)) 0)) 20 (upd (F 20) (Int32.toNatClampNeg (n 11)) 0)) 21 (upd (F 21) (Int32.toNatClampNeg (n 11)) (-1))) 22 (upd (F 22) (Int32.toNatClampNeg (n 11)) (-1))) 23 (upd (F 23) (Int32.toNatClampNeg (n 11)) 0)) 24 (upd (F 24) (Int32.toNatClampNeg (n 11)) (vp_nar .boolean 0))) 25 (upd (F 25) (Int32.toNatClampNeg (n 11)) (vp_nar .boolean 0))) 26 (upd (F 26) (Int32.toNatClampNeg (n 11)) (vp_nar .boolean 0))) 27 (upd (F 27) (Int32.toNatClampNeg (n 11)) (vp_nar .boolean 0))) 32 (upd (F 32) (Int32.toNatClampNeg (n 11)) (vp_nar .boolean 0))) 33 (upd f_150 (Int32.toNatClampNeg z_160) z_162)) 35 (upd f_151 (Int32.toNatClampNeg z_158) (vp_nar .boolean 0))) 36 (upd (F 36) (Int32.toNatClampNeg (n 11)) 0)) 39 (upd (F 39) (Int32.toNatClampNeg (n 11)) 0)) (upn n 11 z_30)) H := hP
                have hD : va_D A (w10 h0 X C (upF (upF (upF (upF (upF (upF (upF (upF (upF (upF (upF (upF (upF (upF (upF (upF (upF (upF (upF (upF F 13 (upd (F 13) (Int32.toNatClampNeg (n 11)) 0)) 14 (upd (F 14) (Int32.toNatClampNeg (n 11)) v1)) 15 (upd (F 15) (Int32.toNatClampNeg (n 11)) v2)) 16 (upd (F 16) (Int32.toNatClampNeg (n 11)) (n 11))) 17 (upd (F 17) (Int32.toNatClampNeg (n 11)) 0)) 18 (upd (F 18) (Int32.toNatClampNeg (n 11)) (-1))) 19 (upd (F 19) (Int32.toNatClampNeg (n 11)) 0)) 20 (upd (F 20) (Int32.toNatClampNeg (n 11)) 0)) 21 (upd (F 21) (Int32.toNatClampNeg (n 11)) (-1))) 22 (upd (F 22) (Int32.toNatClampNeg (n 11)) (-1))) 23 (upd (F 23) (Int32.toNatClampNeg (n 11)) 0)) 24 (upd (F 24) (Int32.toNatClampNeg (n 11)) (vp_nar .boolean 0))) 25 (upd (F 25) (Int32.toNatClampNeg (n 11)) (vp_nar .boolean 0))) 26 (upd (F 26) (Int32.toNatClampNeg (n 11)) (vp_nar .boolean 0))) 27 (upd (F 27) (Int32.toNatClampNeg (n 11)) (vp_nar .boolean 0))) 32 (upd (F 32) (Int32.toNatClampNeg (n 11)) (vp_nar .boolean 0))) 33 (upd f_150 (Int32.toNatClampNeg z_160) z_162)) 35 (upd f_151 (Int32.toNatClampNeg z_158) (vp_nar .boolean 0))) 36 (upd (F 36) (Int32.toNatClampNeg (n 11)) 0)) 39 (upd (F 39) (Int32.toNatClampNeg (n 11)) 0)) (upn n 11 z_30)) := hD
                obtain ⟨y_163, ey_163⟩ : ∃ q : Int32, q = x_149 + (1) := ⟨_, rfl⟩
                refine lv_iinc (v := y_163) (lv' := [(4, .int y_163), (3, .int (n 11)), (0, .ref h0), (1, .int v1), (2, .int v2)]) hx hb dX10_comes_239 hl (k := 0) rfl (by rw [ey_163]; rfl) (by decide) rfl (fun ls hl => ?_)
                have ty_163 : y_163.toInt = x_149.toInt + (1) := ar_add rfl ti_1 ey_163 (by omega)
                refine lv_goto (tgt := 185) hx hb dX10_comes_242 (by decide) ?_
                exact ih_152 y_163 (upd f_150 (Int32.toNatClampNeg z_160) z_162) (upd f_151 (Int32.toNatClampNeg z_158) (vp_nar .boolean 0))  H locs ls (by omega) (by omega) hP hD hS (lv_sub hl [0, 1, 2, 3, 4] rfl)
        exact L185 _ (0) (F 33) (F 35)  _ _ _ (Nat.lt_succ_self _) (by have t_0 := ti_0; omega) hP hD hS (lv_sub hl [0, 1, 2, 3, 4] rfl)

set_option maxHeartbeats 8000000 in
set_option maxRecDepth 100000 in
theorem c_X10_submit (l : Launch) (dC : Nat → ClassId) (dI : Nat → Nat → Nat) (kp : Int) (h0 : Nat) (X : Nat → Nat) (C : Nat → ClassId) (F : Nat → Nat → Int32) (n : Nat → Int32) (v1 : Int32) (sz : Nat) (hI : I10 kp F n) : Met l yX10_submit (.code yX10_submit cX10_submit 2 (some .int) :: gw) ({ frames := 3, cells := 0, slots := 0, locals := 71 }) (va_Pc [.ref h0, .int v1] (fun U => U.heap.size = sz ∧ va_P (dC, dI) vwCl (w10 h0 X C F n) U.heap ∧ va_K (dC, dI) vwCl (t10 C) U ∧ va_D (fun _ => True) (w10 h0 X C F n) ∧ nx U)) (va_Qi (fun (r : Int32) (u : (Nat → Nat → Int32) × (Nat → Int32)) => True) (fun u t => va_P (dC, dI) vwCl (w10 h0 X C u.1 u.2) t.heap ∧ va_D (va_A (w10 h0 X C F n) sz) (w10 h0 X C u.1 u.2) ∧ I10 kp u.1 u.2) (va_A (w10 h0 X C F n) sz)) 0 0 (va_A (w10 h0 X C F n) sz) := by
  refine Met.ofW (cc := cX10_submit) (maxL := 2) (ret := (some .int)) (by decide) rfl ?_
  intro p e s m args below meth c s₁ B hml hv
  obtain ⟨rfl, hsz, hP, hK, hD0, hN⟩ := hv
  have hx := B.exec
  have hb := B.bytes
  have hr := B.returns
  have hts := atoms_spec (ws := .code yX10_submit cX10_submit 2 (some .int) :: gw) B.pre
  have hg : ∀ w ∈ gw, w.before _ s = true := fun w h => hts w (List.mem_cons_of_mem _ h)
  have hown : s.vm.findClass RX10 = some m.cls := findClass_of_methodNamed B.named
  have hlocks := B.notSynchronized
  subst hsz
  have hD := hD0.self (sz := s.heap.size)
  generalize hAe : va_A (w10 h0 X C F n) s.heap.size = A at hD ⊢
  have hA : ∀ q : Nat, s.heap.size ≤ q → A q := fun q h => by rw [← hAe]; exact Or.inr h
  have hS : va_S A s.heap s.heap [] := va_S.rf
  have hP : va_P (dC, dI) vwCl (w10 h0 X C F n) s.heap := hP
  have hl := lv_entry ([.ref h0, .int v1]) (n := 2) (Nat.le_of_ble_eq_true rfl)
  rw [lg_entry_eq]
  generalize (lg_sl ([.ref h0, .int v1]) ++ List.replicate (2 - (lg_sl ([.ref h0, .int v1])).length) Slot.unset).toArray = ls at hl ⊢
  have hl : lv_has ls 2 [(0, .ref h0), (1, .int v1)] := hl
  obtain ⟨b_1, b_2, b_3, b_4, b_5, b_6, b_7, b_8, b_9, b_10, b_11, b_12, i_13, i_14, i_15, i_16, i_17, i_18, i_19, j_20, j_21, j_22, j_23, j_24, j_25, j_26, j_27, j_28, j_29⟩ := id hI
  refine lv_iload_n hx hb dX10_submit_0 rfl (lv_at hl 1 rfl) ?_
  have hPc := hP.sub (ws' := []) [] rfl
  have hDc := hD.sub (ws' := []) [] (by decide) rfl
  have hKc := hK.sub (tys' := []) [] rfl
  have hFc := va_free (wc := []) hD hS hA [] rfl
  refine va_calli (va_runS (As := [.int v1]) (rest := []) ⟨hx, hb, hml, hown, hg⟩ (c_X10_isErrand l dC dI v1 s.heap.size) (va_cwS 1 hg (gw_S gm_methodLink_RX10_179_yX10_isErrand gm_static_yX10_isErrand gm_initialized_RX10 gm_code_yX10_isErrand_cX10_isErrand_1_some_boolean_) rfl rfl rfl (by decide +kernel) ⟨Nat.le_of_ble_eq_true rfl, Nat.le_of_ble_eq_true rfl⟩) ⟨fun a U g mk q => by obtain ⟨q0, q1, qP, qK, qD, qN⟩ := q; exact ⟨q0, q1, qP, va_K.moved (u := U) (U := U.calling g mk a) (Vm.Alike.refl U.vm) qK, qD, nx_same (u := U) (U := U.calling g mk a) rfl qN⟩, fun U hU hW => ⟨rfl, by rw [hU], by rw [hU]; exact hPc, va_K.moved hW.alike hKc, hDc.weaken (fun _ _ _ _ => trivial), nx_warm hW hN⟩⟩ rfl rfl hl.1 rfl (lv_room (Nat.le_of_ble_eq_true rfl)) dX10_submit_1 ⟨Nat.le_of_ble_eq_true rfl, Nat.le_of_ble_eq_true rfl⟩) hS (fun q _ h => hFc q h) hFc (fun r_30 u_31 t H1 locs ht hvm hw hB hz1 hk1 hS => ?_)
  obtain ⟨hP, hD⟩ := va_join (wr := (w10 h0 X C F n)) (w1 := []) hP hD [] [0, 1, 2, 3, 4, 5, 6, 7, 8, 9, 10, 11, 12, 13, 14, 15, 16, 17, 18, 19, 20, 21, 22, 23, 24, 25, 26, 27, 28, 29, 30, 31, 32, 33, 34, 35, 36, 37, 38, 39, 40, 41, 42, 43, 44, 45, 46, 47, 48, 49, 50, 51, 52] rfl rfl (by decide +kernel) (fun _ _ h => by simp at h) hk1 hFc nil_P nil_D
  generalize H1 = H at hP hS ⊢
  have hP : va_P (dC, dI) vwCl (w10 h0 X C F n) H := hP
  have hD : va_D A (w10 h0 X C F n) := hD
  rcases hw with ⟨rfl, w_32⟩ | ⟨rfl, w_32⟩
  · refine lv_if_eq (tgt := 17) hx hb dX10_submit_4 (by decide) (fun c_33 => absurd c_33 (by decide)) (fun _ => ?_)
    refine lv_aload_n hx hb dX10_submit_7 rfl (lv_at hl 0 rfl) ?_
    refine va_get (D := (dC, dI)) (ci := 10) (v := .int (n 11)) (C := RX10) (T := TX10) (N := 60) hx hb hg gb_10 hown hK hP 0 rfl rfl 11 (by decide) (hg _ gm_fieldLink_RX10_176_ErrandGuildModel_runs_I_) (fun _ h9 => h9) rfl dX10_submit_8 ?_
    refine lv_sipush (v := 200) hx hb dX10_submit_11 (by decide) ?_
    refine lv_icmp_ne (tgt := 19) hx hb dX10_submit_14 (by decide) (fun c_34 => ?_) (fun c_34 => ?_)
    · simp only [i_lt, i_le, i_eq, ti_200] at c_34
      refine lv_aload_n hx hb dX10_submit_19 rfl (lv_at hl 0 rfl) ?_
      refine lv_iload_n hx hb dX10_submit_20 rfl (lv_at hl 1 rfl) ?_
      refine lv_iconst (v := -1) hx hb dX10_submit_21 (by decide) ?_
      have hFc := free_all hD hS hA
      refine va_calli (va_runV (As := [.int v1, .int (-1)]) (rest := []) ⟨hx, hb, hml, hown, hg⟩ (c_X10_comes l dC dI kp h0 X C F n v1 (-1) H.size ⟨b_1, b_2, b_3, b_4, b_5, b_6, b_7, b_8, b_9, b_10, b_11, b_12, i_13, i_14, i_15, i_16, i_17, i_18, i_19, j_20, j_21, j_22, j_23, j_24, j_25, j_26, j_27, j_28, j_29⟩ (by have t_0 := ti_m1; omega) (by have t_0 := ti_m1; show -1 ≤ (-1).toInt ∧ (-1).toInt < ((n 11)).toInt; omega) (by have t_0 := ti_m1; show ((n 11)).toInt < 200; omega)) (cwV 2 hg (gw_V gm_methodLink_RX10_205_yX10_comes gm_instanceMethod_yX10_comes gm_selects_RX10_yX10_comes_yX10_comes gm_initialized_RX10 gm_code_yX10_comes_cX10_comes_5_some_int_) rfl rfl rfl (by decide +kernel) ⟨Nat.le_of_ble_eq_true rfl, Nat.le_of_ble_eq_true rfl⟩) ⟨fun a U g mk q => by obtain ⟨q0, q1, qP, qK, qD, qN⟩ := q; exact ⟨q0, q1, qP, va_K.moved (u := U) (U := U.calling g mk a) (Vm.Alike.refl U.vm) qK, qD, nx_same (u := U) (U := U.calling g mk a) rfl qN⟩, va_recv hK hP (ci := 10) (q0 := 0) rfl rfl, fun U hU hW => ⟨rfl, by rw [hU], by rw [hU]; exact hP, va_K.moved hW.alike hK, hD.weaken (fun _ _ _ _ => trivial), nx_warm hW hN⟩⟩ rfl rfl hl.1 rfl (lv_room (Nat.le_of_ble_eq_true rfl)) dX10_submit_22 ⟨Nat.le_of_ble_eq_true rfl, Nat.le_of_ble_eq_true rfl⟩) hS (fun q _ h => hFc q h) hFc (fun r_35 u_36 t H1 locs ht hvm hw hB hz1 hk1 hS => ?_)
      obtain ⟨F_37, n_38⟩ := u_36
      obtain ⟨hP, hD, hI_39⟩ := hB
      have hI_39 : I10 kp F_37 n_38 := hI_39
      obtain ⟨b_40, b_41, b_42, b_43, b_44, b_45, b_46, b_47, b_48, b_49, b_50, b_51, i_52, i_53, i_54, i_55, i_56, i_57, i_58, j_59, j_60, j_61, j_62, j_63, j_64, j_65, j_66, j_67, j_68⟩ := id hI_39
      rw [ht] at hP
      have hD := hD.weaken (fun k q _ h => hFc _ h)
      generalize H1 = H at hP hS ⊢
      have hP : va_P (dC, dI) vwCl (w10 h0 X C F_37 n_38) H := hP
      have hD : va_D A (w10 h0 X C F_37 n_38) := hD
      have w_69 : 0 ≤ r_35.toInt ∧ r_35.toInt < 200 ∧ (∀ j : Nat, (j : Int) < ((n 11)).toInt → (F_37 13 j).toInt = ((F 13) j).toInt ∧ (F_37 20 j).toInt = ((F 20) j).toInt ∧ (F_37 24 j).toInt = ((F 24) j).toInt) ∧ (n_38 11).toInt = ((n 11)).toInt + 1 := hw
      try simp only [upd_eq] at w_69
      exact W.iret (v := r_35) hx hb hr (fun t ht hW => ⟨⟨r_35, (F_37, n_38), rfl, trivial, by rw [ht]; exact hP, hD, ⟨b_40, b_41, b_42, b_43, b_44, b_45, b_46, b_47, b_48, b_49, b_50, b_51, i_52, i_53, i_54, i_55, i_56, i_57, i_58, j_59, j_60, j_61, j_62, j_63, j_64, j_65, j_66, j_67, j_68⟩⟩, hS.F ht⟩) hS.2.2 dX10_submit_25
    · simp only [i_lt, i_le, i_eq, ti_200] at c_34
      refine lv_iconst (v := -1) hx hb dX10_submit_17 (by decide) ?_
      exact W.iret (v := -1) hx hb hr (fun t ht hW => ⟨⟨-1, (F, n), rfl, trivial, by rw [ht]; exact hP, hD, ⟨b_1, b_2, b_3, b_4, b_5, b_6, b_7, b_8, b_9, b_10, b_11, b_12, i_13, i_14, i_15, i_16, i_17, i_18, i_19, j_20, j_21, j_22, j_23, j_24, j_25, j_26, j_27, j_28, j_29⟩⟩, hS.F ht⟩) hS.2.2 dX10_submit_18
  · refine lv_if_eq (tgt := 17) hx hb dX10_submit_4 (by decide) (fun _ => ?_) (fun c_70 => absurd c_70 (by decide))
    refine lv_iconst (v := -1) hx hb dX10_submit_17 (by decide) ?_
    exact W.iret (v := -1) hx hb hr (fun t ht hW => ⟨⟨-1, (F, n), rfl, trivial, by rw [ht]; exact hP, hD, ⟨b_1, b_2, b_3, b_4, b_5, b_6, b_7, b_8, b_9, b_10, b_11, b_12, i_13, i_14, i_15, i_16, i_17, i_18, i_19, j_20, j_21, j_22, j_23, j_24, j_25, j_26, j_27, j_28, j_29⟩⟩, hS.F ht⟩) hS.2.2 dX10_submit_18

set_option maxHeartbeats 8000000 in
set_option maxRecDepth 100000 in
theorem c_X10_asks (l : Launch) (dC : Nat → ClassId) (dI : Nat → Nat → Nat) (kp : Int) (h0 : Nat) (X : Nat → Nat) (C : Nat → ClassId) (F : Nat → Nat → Int32) (n : Nat → Int32) (v1 : Int32) (sz : Nat) (hI : I10 kp F n) (hr : 0 ≤ v1.toInt ∧ v1.toInt < 200) (hrn : v1.toInt < (n 11).toInt) (hu : (F 32 (Int32.toNatClampNeg v1)).toInt = 0) (h4 : (F 13 (Int32.toNatClampNeg v1)).toInt = 4) : Met l yX10_asks (.code yX10_asks cX10_asks 5 none :: gw) ({ frames := 0, cells := 0, slots := 0, locals := 0 }) (va_Pc [.ref h0, .int v1] (fun U => U.heap.size = sz ∧ va_P (dC, dI) vwCl (w10 h0 X C F n) U.heap ∧ va_K (dC, dI) vwCl (t10 C) U ∧ va_D (fun _ => True) (w10 h0 X C F n) ∧ nx U)) (va_Qv (fun (u : (Nat → Nat → Int32) × (Nat → Int32)) => True) (fun u t => va_P (dC, dI) vwCl (w10 h0 X C u.1 u.2) t.heap ∧ va_D (va_A (w10 h0 X C F n) sz) (w10 h0 X C u.1 u.2) ∧ I10 kp u.1 u.2) (va_A (w10 h0 X C F n) sz)) 0 0 (va_A (w10 h0 X C F n) sz) := by
  refine Met.ofW (cc := cX10_asks) (maxL := 5) (ret := none) (by decide) rfl ?_
  intro p e s m args below meth c s₁ B hml hv
  obtain ⟨rfl, hsz, hP, hK, hD0, hN⟩ := hv
  have hx := B.exec
  have hb := B.bytes
  have hr := B.returns
  have hts := atoms_spec (ws := .code yX10_asks cX10_asks 5 none :: gw) B.pre
  have hg : ∀ w ∈ gw, w.before _ s = true := fun w h => hts w (List.mem_cons_of_mem _ h)
  have hown : s.vm.findClass RX10 = some m.cls := findClass_of_methodNamed B.named
  have hlocks := B.notSynchronized
  subst hsz
  have hD := hD0.self (sz := s.heap.size)
  generalize hAe : va_A (w10 h0 X C F n) s.heap.size = A at hD ⊢
  have hA : ∀ q : Nat, s.heap.size ≤ q → A q := fun q h => by rw [← hAe]; exact Or.inr h
  have hS : va_S A s.heap s.heap [] := va_S.rf
  have hP : va_P (dC, dI) vwCl (w10 h0 X C F n) s.heap := hP
  have hl := lv_entry ([.ref h0, .int v1]) (n := 5) (Nat.le_of_ble_eq_true rfl)
  rw [lg_entry_eq]
  generalize (lg_sl ([.ref h0, .int v1]) ++ List.replicate (5 - (lg_sl ([.ref h0, .int v1])).length) Slot.unset).toArray = ls at hl ⊢
  have hl : lv_has ls 5 [(0, .ref h0), (1, .int v1)] := hl
  obtain ⟨b_1, b_2, b_3, b_4, b_5, b_6, b_7, b_8, b_9, b_10, b_11, b_12, i_13, i_14, i_15, i_16, i_17, i_18, i_19, j_20, j_21, j_22, j_23, j_24, j_25, j_26, j_27, j_28, j_29⟩ := id hI
  refine lv_aload_n hx hb dX10_asks_0 rfl (lv_at hl 0 rfl) ?_
  refine va_get (D := (dC, dI)) (ci := 10) (v := .ref (X 32)) (C := RX10) (T := TX10) (N := 60) hx hb hg gb_10 hown hK hP 0 rfl rfl 32 (by decide) (hg _ gm_fieldLink_RX10_102_ErrandGuildModel_isUncaught_AZ_) (fun _ h9 => h9) rfl dX10_asks_1 ?_
  refine lv_iload_n hx hb dX10_asks_4 rfl (lv_at hl 1 rfl) ?_
  refine lv_iconst (v := 1) hx hb dX10_asks_5 (by decide) ?_
  refine va_zast hx hb hK hP hD hS 30 29 rfl rfl (vp_in_iff.mpr ⟨by omega, by omega⟩) dX10_asks_6 (fun H locs hP hD hS => ?_)
  have hP : va_P (dC, dI) vwCl (w10 h0 X C (upF F 32 (upd (F 32) (Int32.toNatClampNeg v1) (vp_nar .boolean 1))) n) H := hP
  have hD : va_D A (w10 h0 X C (upF F 32 (upd (F 32) (Int32.toNatClampNeg v1) (vp_nar .boolean 1))) n) := hD
  have cu : cU (upd (F 32) (Int32.toNatClampNeg v1) (vp_nar .boolean 1)) (n 11).toInt.toNat = cU (F 32) (n 11).toInt.toNat + 1 := cU_set (i_z hu) (by rw [nb1]; decide) _ (by have ce := cl_eq v1; omega)
  have j_30 : J8 (upd (F 32) (Int32.toNatClampNeg v1) (vp_nar .boolean 1)) (F 13) := J8_un j_28 (Int32.toNatClampNeg v1) (Or.inr h4)
  have h6 := j_26
  unfold J6 at h6
  have j_31 : J6 (upd (F 32) (Int32.toNatClampNeg v1) (vp_nar .boolean 1)) (n 47) (n 11) := by unfold J6; omega
  refine lv_iconst (v := 1) hx hb dX10_asks_7 (by decide) ?_
  refine lv_istore_n (lv' := [(2, .int 1), (0, .ref h0), (1, .int v1)]) hx hb dX10_asks_8 rfl hl (by decide) rfl (fun ls hl => ?_)
  refine lv_iconst (v := 0) hx hb dX10_asks_9 (by decide) ?_
  refine lv_istore_n (lv' := [(3, .int 0), (2, .int 1), (0, .ref h0), (1, .int v1)]) hx hb dX10_asks_10 rfl hl (by decide) rfl (fun ls hl => ?_)
  have L11 : ∀ (fuel : Nat) (x_32 : Int32) (x_33 : Int32) (f_34 : Nat → Int32) (f_35 : Nat → Int32) (f_36 : Nat → Int32) (f_37 : Nat → Int32) (m_38 : Int32) (h_39 : (0 ≤ m_38.toInt ∧ m_38.toInt ≤ 600)) (h_40 : J6 (upd (F 32) (Int32.toNatClampNeg v1) (vp_nar .boolean 1)) m_38 (n 11)) (H : Heap) (locs : List Loc) (ls : Array Slot), (4 - x_33.toInt).toNat < fuel → 0 ≤ x_33.toInt ∧ x_33.toInt ≤ 3 → m_38.toInt + 3 - x_33.toInt ≤ 3 * (cU (upd (F 32) (Int32.toNatClampNeg v1) (vp_nar .boolean 1)) (n 11).toInt.toNat : Int) → va_P (dC, dI) vwCl (w10 h0 X C (upF (upF (upF (upF (upF F 32 (upd (F 32) (Int32.toNatClampNeg v1) (vp_nar .boolean 1))) 55 f_34) 56 f_35) 57 f_36) 58 f_37) (upn n 47 m_38)) H → va_D A (w10 h0 X C (upF (upF (upF (upF (upF F 32 (upd (F 32) (Int32.toNatClampNeg v1) (vp_nar .boolean 1))) 55 f_34) 56 f_35) 57 f_36) 58 f_37) (upn n 47 m_38)) → va_S A s.heap H locs → lv_has ls 5 [(3, .int x_33), (2, .int x_32), (0, .ref h0), (1, .int v1)] → W p l e (headSpec (.code yX10_asks cX10_asks 5 none :: gw) ({ frames := 0, cells := 0, slots := 0, locals := 0 })).room s m ([.ref h0, .int v1] : List Value).toArray below meth c H locs 0 0 (MQ below (va_Qv (fun (u : (Nat → Nat → Int32) × (Nat → Int32)) => True) (fun u t => va_P (dC, dI) vwCl (w10 h0 X C u.1 u.2) t.heap ∧ va_D A (w10 h0 X C u.1 u.2) ∧ I10 kp u.1 u.2) A) ([.ref h0, .int v1] : List Value).toArray s 0 0 A) (F0 m 11 ls []) := by
    intro fuel
    induction fuel with
    | zero => intro x_32 x_33 f_34 f_35 f_36 f_37 m_38 h_39 h_40 H locs ls hm; exact absurd hm (Nat.not_lt_zero _)
    | succ fuel_42 ih_41 =>
      intro x_32 x_33 f_34 f_35 f_36 f_37 m_38 h_39 h_40 H locs ls hm_45 v_43 v_44 hP hD hS hl
      have cu2 := cU_le (upd (F 32) (Int32.toNatClampNeg v1) (vp_nar .boolean 1)) (n 11).toInt.toNat
      refine lv_iload_n hx hb dX10_asks_11 rfl (lv_at hl 0 rfl) ?_
      refine lv_iconst (v := 3) hx hb dX10_asks_12 (by decide) ?_
      refine lv_icmp_ge (tgt := 161) hx hb dX10_asks_13 (by decide) (fun c_46 => ?_) (fun c_46 => ?_)
      · simp only [i_lt, i_le, i_eq, ti_3] at c_46
        exact W.vret hx hb hr (fun t ht hW => ⟨⟨((upF (upF (upF (upF (upF F 32 (upd (F 32) (Int32.toNatClampNeg v1) (vp_nar .boolean 1))) 55 f_34) 56 f_35) 57 f_36) 58 f_37), (upn n 47 m_38)), rfl, trivial, by rw [ht]; exact hP, hD, ⟨b_1, b_2, b_3, b_4, b_5, b_6, b_7, b_8, b_9, b_10, b_11, b_12, i_13, i_14, i_15, i_16, i_17, h_39, i_19, j_20, j_21, j_22, j_23, j_24, j_25, h_40, j_27, j_30, j_29⟩⟩, hS.F ht⟩) hS.2.2 dX10_asks_161
      · simp only [i_lt, i_le, i_eq, ti_3] at c_46
        refine lv_iload_n hx hb dX10_asks_16 rfl (lv_at hl 1 rfl) ?_
        refine lv_if_eq (tgt := 161) hx hb dX10_asks_17 (by decide) (fun c_47 => ?_) (fun c_47 => ?_)
        · simp only [i_lt, i_le, i_eq, ti_0] at c_47
          exact W.vret hx hb hr (fun t ht hW => ⟨⟨((upF (upF (upF (upF (upF F 32 (upd (F 32) (Int32.toNatClampNeg v1) (vp_nar .boolean 1))) 55 f_34) 56 f_35) 57 f_36) 58 f_37), (upn n 47 m_38)), rfl, trivial, by rw [ht]; exact hP, hD, ⟨b_1, b_2, b_3, b_4, b_5, b_6, b_7, b_8, b_9, b_10, b_11, b_12, i_13, i_14, i_15, i_16, i_17, h_39, i_19, j_20, j_21, j_22, j_23, j_24, j_25, h_40, j_27, j_30, j_29⟩⟩, hS.F ht⟩) hS.2.2 dX10_asks_161
        · simp only [i_lt, i_le, i_eq, ti_0] at c_47
          refine lv_iload_n hx hb dX10_asks_20 rfl (lv_at hl 0 rfl) ?_
          refine lv_if_ne (tgt := 33) hx hb dX10_asks_21 (by decide) (fun c_48 => ?_) (fun c_48 => ?_)
          · simp only [i_lt, i_le, i_eq, ti_0] at c_48
            refine lv_iload_n hx hb dX10_asks_33 rfl (lv_at hl 0 rfl) ?_
            refine lv_iconst (v := 1) hx hb dX10_asks_34 (by decide) ?_
            refine lv_icmp_ne (tgt := 50) hx hb dX10_asks_35 (by decide) (fun c_49 => ?_) (fun c_49 => ?_)
            · simp only [i_lt, i_le, i_eq, ti_1] at c_49
              refine lv_bipush (v := 16) hx hb dX10_asks_50 (by decide) ?_
              refine lv_istore (lv' := [(4, .int 16), (3, .int x_33), (2, .int x_32), (0, .ref h0), (1, .int v1)]) hx hb dX10_asks_52 hl (by decide) rfl (fun ls hl => ?_)
              refine lv_aload_n hx hb dX10_asks_54 rfl (lv_at hl 3 rfl) ?_
              refine va_get (D := (dC, dI)) (ci := 10) (v := .ref (X 6)) (C := RX10) (T := TX10) (N := 60) hx hb hg gb_10 hown hK hP 0 rfl rfl 6 (by decide) (hg _ gm_fieldLink_RX10_28_ErrandGuildModel_isHandler_AZ_) (fun _ h9 => h9) rfl dX10_asks_55 ?_
              refine lv_iload hx hb dX10_asks_58 (lv_at hl 0 rfl) ?_
              refine va_zald hx hb hK hP 7 6 rfl rfl (by unfold vp_in; decide) dX10_asks_60 ?_
              refine lv_topi (fun z_50 ez_50 => ?_)
              have qz_50 := congrArg Int32.toInt ez_50
              refine lv_if_ne (tgt := 67) hx hb dX10_asks_61 (by decide) (fun c_51 => ?_) (fun c_51 => ?_)
              · simp only [i_lt, i_le, i_eq, ti_0] at c_51
                refine lv_aload_n hx hb dX10_asks_67 rfl (lv_at hl 3 rfl) ?_
                refine va_get (D := (dC, dI)) (ci := 10) (v := .int m_38) (C := RX10) (T := TX10) (N := 60) hx hb hg gb_10 hown hK hP 0 rfl rfl 47 (by decide) (hg _ gm_fieldLink_RX10_195_ErrandGuildModel_handledMany_I_) (fun _ h9 => h9) rfl dX10_asks_68 ?_
                refine lv_sipush (v := 600) hx hb dX10_asks_71 (by decide) ?_
                refine lv_icmp_ge (tgt := 137) hx hb dX10_asks_74 (by decide) (fun c_52 => ?_) (fun c_52 => ?_)
                · simp only [i_lt, i_le, i_eq, ti_600] at c_52
                  refine lv_aload_n hx hb dX10_asks_137 rfl (lv_at hl 3 rfl) ?_
                  refine lv_aload_n hx hb dX10_asks_138 rfl (lv_at hl 3 rfl) ?_
                  refine va_get (D := (dC, dI)) (ci := 10) (v := .int m_38) (C := RX10) (T := TX10) (N := 60) hx hb hg gb_10 hown hK hP 0 rfl rfl 47 (by decide) (hg _ gm_fieldLink_RX10_195_ErrandGuildModel_handledMany_I_) (fun _ h9 => h9) rfl dX10_asks_139 ?_
                  refine lv_iconst (v := 1) hx hb dX10_asks_142 (by decide) ?_
                  refine lv_iadd hx hb dX10_asks_143 ?_
                  refine lv_topi (fun z_53 ez_53 => ?_)
                  have tz_53 : z_53.toInt = m_38.toInt + 1 := ar_add rfl ti_1 ez_53 (by omega)
                  refine va_put (D := (dC, dI)) (ci := 10) (v := .int z_53) (ty := .int) (C := RX10) (T := TX10) (N := 60) hx hb hg gb_10 tyX10 tyX10_ok nmX10 hown hK hP hD hS 0 rfl rfl 47 (by decide) (hg _ gm_fieldLink_RX10_195_ErrandGuildModel_handledMany_I_) (fun _ h9 => h9) rfl (by decide +kernel) rfl rfl (Nat.le_of_ble_eq_true rfl) dX10_asks_144 (fun H locs hP hD hS => ?_)
                  have hP : va_P (dC, dI) vwCl (w10 h0 X C (upF (upF (upF (upF (upF F 32 (upd (F 32) (Int32.toNatClampNeg v1) (vp_nar .boolean 1))) 55 f_34) 56 f_35) 57 f_36) 58 f_37) (upn n 47 z_53)) H := hP
                  have hD : va_D A (w10 h0 X C (upF (upF (upF (upF (upF F 32 (upd (F 32) (Int32.toNatClampNeg v1) (vp_nar .boolean 1))) 55 f_34) 56 f_35) 57 f_36) 58 f_37) (upn n 47 z_53)) := hD
                  have i_54 : 0 ≤ z_53.toInt ∧ z_53.toInt ≤ 600 := by omega
                  have j_55 : J6 (upd (F 32) (Int32.toNatClampNeg v1) (vp_nar .boolean 1)) z_53 (n 11) := by unfold J6; omega
                  refine lv_aload_n hx hb dX10_asks_147 rfl (lv_at hl 3 rfl) ?_
                  refine va_get (D := (dC, dI)) (ci := 10) (v := .ref (X 7)) (C := RX10) (T := TX10) (N := 60) hx hb hg gb_10 hown hK hP 0 rfl rfl 7 (by decide) (hg _ gm_fieldLink_RX10_32_ErrandGuildModel_throwsOn_AZ_) (fun _ h9 => h9) rfl dX10_asks_148 ?_
                  refine lv_iload hx hb dX10_asks_151 (lv_at hl 0 rfl) ?_
                  refine va_zald hx hb hK hP 8 7 rfl rfl (by unfold vp_in; decide) dX10_asks_153 ?_
                  refine lv_topi (fun z_56 ez_56 => ?_)
                  have qz_56 := congrArg Int32.toInt ez_56
                  refine lv_istore_n (lv' := [(2, .int z_56), (4, .int 16), (3, .int x_33), (0, .ref h0), (1, .int v1)]) hx hb dX10_asks_154 rfl hl (by decide) rfl (fun ls hl => ?_)
                  obtain ⟨y_57, ey_57⟩ : ∃ q : Int32, q = x_33 + (1) := ⟨_, rfl⟩
                  refine lv_iinc (v := y_57) (lv' := [(3, .int y_57), (2, .int z_56), (4, .int 16), (0, .ref h0), (1, .int v1)]) hx hb dX10_asks_155 hl (k := 2) rfl (by rw [ey_57]; rfl) (by decide) rfl (fun ls hl => ?_)
                  have ty_57 : y_57.toInt = x_33.toInt + (1) := ar_add rfl ti_1 ey_57 (by omega)
                  refine lv_goto (tgt := 11) hx hb dX10_asks_158 (by decide) ?_
                  exact ih_41 z_56 y_57 f_34 f_35 f_36 f_37 z_53 i_54 j_55 H locs ls (by omega) (by omega) (by show z_53.toInt + 3 - y_57.toInt ≤ 3 * (cU (upd (F 32) (Int32.toNatClampNeg v1) (vp_nar .boolean 1)) (n 11).toInt.toNat : Int); omega) hP hD hS (lv_sub hl [0, 1, 3, 4] rfl)
                · simp only [i_lt, i_le, i_eq, ti_600] at c_52
                  refine lv_aload_n hx hb dX10_asks_77 rfl (lv_at hl 3 rfl) ?_
                  refine va_get (D := (dC, dI)) (ci := 10) (v := .ref (X 55)) (C := RX10) (T := TX10) (N := 60) hx hb hg gb_10 hown hK hP 0 rfl rfl 55 (by decide) (hg _ gm_fieldLink_RX10_157_ErrandGuildModel_handledRun_AI_) (fun _ h9 => h9) rfl dX10_asks_78 ?_
                  refine lv_aload_n hx hb dX10_asks_81 rfl (lv_at hl 3 rfl) ?_
                  refine va_get (D := (dC, dI)) (ci := 10) (v := .int m_38) (C := RX10) (T := TX10) (N := 60) hx hb hg gb_10 hown hK hP 0 rfl rfl 47 (by decide) (hg _ gm_fieldLink_RX10_195_ErrandGuildModel_handledMany_I_) (fun _ h9 => h9) rfl dX10_asks_82 ?_
                  refine lv_iload_n hx hb dX10_asks_85 rfl (lv_at hl 4 rfl) ?_
                  refine va_iast hx hb hK hP hD hS 48 47 rfl rfl (vp_in_iff.mpr ⟨by omega, by omega⟩) dX10_asks_86 (fun H locs hP hD hS => ?_)
                  have hP : va_P (dC, dI) vwCl (w10 h0 X C (upF (upF (upF (upF (upF F 32 (upd (F 32) (Int32.toNatClampNeg v1) (vp_nar .boolean 1))) 55 (upd f_34 (Int32.toNatClampNeg m_38) v1)) 56 f_35) 57 f_36) 58 f_37) (upn n 47 m_38)) H := hP
                  have hD : va_D A (w10 h0 X C (upF (upF (upF (upF (upF F 32 (upd (F 32) (Int32.toNatClampNeg v1) (vp_nar .boolean 1))) 55 (upd f_34 (Int32.toNatClampNeg m_38) v1)) 56 f_35) 57 f_36) 58 f_37) (upn n 47 m_38)) := hD
                  refine lv_aload_n hx hb dX10_asks_87 rfl (lv_at hl 3 rfl) ?_
                  refine va_get (D := (dC, dI)) (ci := 10) (v := .ref (X 56)) (C := RX10) (T := TX10) (N := 60) hx hb hg gb_10 hown hK hP 0 rfl rfl 56 (by decide) (hg _ gm_fieldLink_RX10_160_ErrandGuildModel_handledLevel_AI_) (fun _ h9 => h9) rfl dX10_asks_88 ?_
                  refine lv_aload_n hx hb dX10_asks_91 rfl (lv_at hl 3 rfl) ?_
                  refine va_get (D := (dC, dI)) (ci := 10) (v := .int m_38) (C := RX10) (T := TX10) (N := 60) hx hb hg gb_10 hown hK hP 0 rfl rfl 47 (by decide) (hg _ gm_fieldLink_RX10_195_ErrandGuildModel_handledMany_I_) (fun _ h9 => h9) rfl dX10_asks_92 ?_
                  refine lv_iload_n hx hb dX10_asks_95 rfl (lv_at hl 1 rfl) ?_
                  refine va_iast hx hb hK hP hD hS 49 48 rfl rfl (vp_in_iff.mpr ⟨by omega, by omega⟩) dX10_asks_96 (fun H locs hP hD hS => ?_)
                  have hP : va_P (dC, dI) vwCl (w10 h0 X C (upF (upF (upF (upF (upF F 32 (upd (F 32) (Int32.toNatClampNeg v1) (vp_nar .boolean 1))) 55 (upd f_34 (Int32.toNatClampNeg m_38) v1)) 56 (upd f_35 (Int32.toNatClampNeg m_38) x_33)) 57 f_36) 58 f_37) (upn n 47 m_38)) H := hP
                  have hD : va_D A (w10 h0 X C (upF (upF (upF (upF (upF F 32 (upd (F 32) (Int32.toNatClampNeg v1) (vp_nar .boolean 1))) 55 (upd f_34 (Int32.toNatClampNeg m_38) v1)) 56 (upd f_35 (Int32.toNatClampNeg m_38) x_33)) 57 f_36) 58 f_37) (upn n 47 m_38)) := hD
                  refine lv_aload_n hx hb dX10_asks_97 rfl (lv_at hl 3 rfl) ?_
                  refine va_get (D := (dC, dI)) (ci := 10) (v := .ref (X 57)) (C := RX10) (T := TX10) (N := 60) hx hb hg gb_10 hown hK hP 0 rfl rfl 57 (by decide) (hg _ gm_fieldLink_RX10_163_ErrandGuildModel_handledEffect_AI_) (fun _ h9 => h9) rfl dX10_asks_98 ?_
                  refine lv_aload_n hx hb dX10_asks_101 rfl (lv_at hl 3 rfl) ?_
                  refine va_get (D := (dC, dI)) (ci := 10) (v := .int m_38) (C := RX10) (T := TX10) (N := 60) hx hb hg gb_10 hown hK hP 0 rfl rfl 47 (by decide) (hg _ gm_fieldLink_RX10_195_ErrandGuildModel_handledMany_I_) (fun _ h9 => h9) rfl dX10_asks_102 ?_
                  refine lv_aload_n hx hb dX10_asks_105 rfl (lv_at hl 3 rfl) ?_
                  refine va_get (D := (dC, dI)) (ci := 10) (v := .ref (X 8)) (C := RX10) (T := TX10) (N := 60) hx hb hg gb_10 hown hK hP 0 rfl rfl 8 (by decide) (hg _ gm_fieldLink_RX10_35_ErrandGuildModel_effect_AI_) (fun _ h9 => h9) rfl dX10_asks_106 ?_
                  refine lv_iload hx hb dX10_asks_109 (lv_at hl 0 rfl) ?_
                  refine va_iald hx hb hK hP 9 8 rfl rfl (by unfold vp_in; decide) dX10_asks_111 ?_
                  refine lv_topi (fun z_58 ez_58 => ?_)
                  have qz_58 := congrArg Int32.toInt ez_58
                  refine va_iast hx hb hK hP hD hS 50 49 rfl rfl (vp_in_iff.mpr ⟨by omega, by omega⟩) dX10_asks_112 (fun H locs hP hD hS => ?_)
                  have hP : va_P (dC, dI) vwCl (w10 h0 X C (upF (upF (upF (upF (upF F 32 (upd (F 32) (Int32.toNatClampNeg v1) (vp_nar .boolean 1))) 55 (upd f_34 (Int32.toNatClampNeg m_38) v1)) 56 (upd f_35 (Int32.toNatClampNeg m_38) x_33)) 57 (upd f_36 (Int32.toNatClampNeg m_38) z_58)) 58 f_37) (upn n 47 m_38)) H := hP
                  have hD : va_D A (w10 h0 X C (upF (upF (upF (upF (upF F 32 (upd (F 32) (Int32.toNatClampNeg v1) (vp_nar .boolean 1))) 55 (upd f_34 (Int32.toNatClampNeg m_38) v1)) 56 (upd f_35 (Int32.toNatClampNeg m_38) x_33)) 57 (upd f_36 (Int32.toNatClampNeg m_38) z_58)) 58 f_37) (upn n 47 m_38)) := hD
                  refine lv_aload_n hx hb dX10_asks_113 rfl (lv_at hl 3 rfl) ?_
                  refine va_get (D := (dC, dI)) (ci := 10) (v := .ref (X 58)) (C := RX10) (T := TX10) (N := 60) hx hb hg gb_10 hown hK hP 0 rfl rfl 58 (by decide) (hg _ gm_fieldLink_RX10_166_ErrandGuildModel_handledThrew_AI_) (fun _ h9 => h9) rfl dX10_asks_114 ?_
                  refine lv_aload_n hx hb dX10_asks_117 rfl (lv_at hl 3 rfl) ?_
                  refine va_get (D := (dC, dI)) (ci := 10) (v := .int m_38) (C := RX10) (T := TX10) (N := 60) hx hb hg gb_10 hown hK hP 0 rfl rfl 47 (by decide) (hg _ gm_fieldLink_RX10_195_ErrandGuildModel_handledMany_I_) (fun _ h9 => h9) rfl dX10_asks_118 ?_
                  refine lv_aload_n hx hb dX10_asks_121 rfl (lv_at hl 3 rfl) ?_
                  refine va_get (D := (dC, dI)) (ci := 10) (v := .ref (X 7)) (C := RX10) (T := TX10) (N := 60) hx hb hg gb_10 hown hK hP 0 rfl rfl 7 (by decide) (hg _ gm_fieldLink_RX10_32_ErrandGuildModel_throwsOn_AZ_) (fun _ h9 => h9) rfl dX10_asks_122 ?_
                  refine lv_iload hx hb dX10_asks_125 (lv_at hl 0 rfl) ?_
                  refine va_zald hx hb hK hP 8 7 rfl rfl (by unfold vp_in; decide) dX10_asks_127 ?_
                  refine lv_topi (fun z_59 ez_59 => ?_)
                  have qz_59 := congrArg Int32.toInt ez_59
                  refine lv_if_eq (tgt := 135) hx hb dX10_asks_128 (by decide) (fun c_60 => ?_) (fun c_60 => ?_)
                  · simp only [i_lt, i_le, i_eq, ti_0] at c_60
                    refine lv_iconst (v := 0) hx hb dX10_asks_135 (by decide) ?_
                    refine va_iast hx hb hK hP hD hS 51 50 rfl rfl (vp_in_iff.mpr ⟨by omega, by omega⟩) dX10_asks_136 (fun H locs hP hD hS => ?_)
                    have hP : va_P (dC, dI) vwCl (w10 h0 X C (upF (upF (upF (upF (upF F 32 (upd (F 32) (Int32.toNatClampNeg v1) (vp_nar .boolean 1))) 55 (upd f_34 (Int32.toNatClampNeg m_38) v1)) 56 (upd f_35 (Int32.toNatClampNeg m_38) x_33)) 57 (upd f_36 (Int32.toNatClampNeg m_38) z_58)) 58 (upd f_37 (Int32.toNatClampNeg m_38) 0)) (upn n 47 m_38)) H := hP
                    have hD : va_D A (w10 h0 X C (upF (upF (upF (upF (upF F 32 (upd (F 32) (Int32.toNatClampNeg v1) (vp_nar .boolean 1))) 55 (upd f_34 (Int32.toNatClampNeg m_38) v1)) 56 (upd f_35 (Int32.toNatClampNeg m_38) x_33)) 57 (upd f_36 (Int32.toNatClampNeg m_38) z_58)) 58 (upd f_37 (Int32.toNatClampNeg m_38) 0)) (upn n 47 m_38)) := hD
                    refine lv_aload_n hx hb dX10_asks_137 rfl (lv_at hl 3 rfl) ?_
                    refine lv_aload_n hx hb dX10_asks_138 rfl (lv_at hl 3 rfl) ?_
                    refine va_get (D := (dC, dI)) (ci := 10) (v := .int m_38) (C := RX10) (T := TX10) (N := 60) hx hb hg gb_10 hown hK hP 0 rfl rfl 47 (by decide) (hg _ gm_fieldLink_RX10_195_ErrandGuildModel_handledMany_I_) (fun _ h9 => h9) rfl dX10_asks_139 ?_
                    refine lv_iconst (v := 1) hx hb dX10_asks_142 (by decide) ?_
                    refine lv_iadd hx hb dX10_asks_143 ?_
                    refine lv_topi (fun z_61 ez_61 => ?_)
                    have tz_61 : z_61.toInt = m_38.toInt + 1 := ar_add rfl ti_1 ez_61 (by omega)
                    refine va_put (D := (dC, dI)) (ci := 10) (v := .int z_61) (ty := .int) (C := RX10) (T := TX10) (N := 60) hx hb hg gb_10 tyX10 tyX10_ok nmX10 hown hK hP hD hS 0 rfl rfl 47 (by decide) (hg _ gm_fieldLink_RX10_195_ErrandGuildModel_handledMany_I_) (fun _ h9 => h9) rfl (by decide +kernel) rfl rfl (Nat.le_of_ble_eq_true rfl) dX10_asks_144 (fun H locs hP hD hS => ?_)
                    have hP : va_P (dC, dI) vwCl (w10 h0 X C (upF (upF (upF (upF (upF F 32 (upd (F 32) (Int32.toNatClampNeg v1) (vp_nar .boolean 1))) 55 (upd f_34 (Int32.toNatClampNeg m_38) v1)) 56 (upd f_35 (Int32.toNatClampNeg m_38) x_33)) 57 (upd f_36 (Int32.toNatClampNeg m_38) z_58)) 58 (upd f_37 (Int32.toNatClampNeg m_38) 0)) (upn n 47 z_61)) H := hP
                    have hD : va_D A (w10 h0 X C (upF (upF (upF (upF (upF F 32 (upd (F 32) (Int32.toNatClampNeg v1) (vp_nar .boolean 1))) 55 (upd f_34 (Int32.toNatClampNeg m_38) v1)) 56 (upd f_35 (Int32.toNatClampNeg m_38) x_33)) 57 (upd f_36 (Int32.toNatClampNeg m_38) z_58)) 58 (upd f_37 (Int32.toNatClampNeg m_38) 0)) (upn n 47 z_61)) := hD
                    have i_62 : 0 ≤ z_61.toInt ∧ z_61.toInt ≤ 600 := by omega
                    have j_63 : J6 (upd (F 32) (Int32.toNatClampNeg v1) (vp_nar .boolean 1)) z_61 (n 11) := by unfold J6; omega
                    refine lv_aload_n hx hb dX10_asks_147 rfl (lv_at hl 3 rfl) ?_
                    refine va_get (D := (dC, dI)) (ci := 10) (v := .ref (X 7)) (C := RX10) (T := TX10) (N := 60) hx hb hg gb_10 hown hK hP 0 rfl rfl 7 (by decide) (hg _ gm_fieldLink_RX10_32_ErrandGuildModel_throwsOn_AZ_) (fun _ h9 => h9) rfl dX10_asks_148 ?_
                    refine lv_iload hx hb dX10_asks_151 (lv_at hl 0 rfl) ?_
                    refine va_zald hx hb hK hP 8 7 rfl rfl (by unfold vp_in; decide) dX10_asks_153 ?_
                    refine lv_topi (fun z_64 ez_64 => ?_)
                    obtain rfl : z_59 = z_64 := ez_59.trans ez_64.symm
                    refine lv_istore_n (lv' := [(2, .int z_59), (4, .int 16), (3, .int x_33), (0, .ref h0), (1, .int v1)]) hx hb dX10_asks_154 rfl hl (by decide) rfl (fun ls hl => ?_)
                    obtain ⟨y_65, ey_65⟩ : ∃ q : Int32, q = x_33 + (1) := ⟨_, rfl⟩
                    refine lv_iinc (v := y_65) (lv' := [(3, .int y_65), (2, .int z_59), (4, .int 16), (0, .ref h0), (1, .int v1)]) hx hb dX10_asks_155 hl (k := 2) rfl (by rw [ey_65]; rfl) (by decide) rfl (fun ls hl => ?_)
                    have ty_65 : y_65.toInt = x_33.toInt + (1) := ar_add rfl ti_1 ey_65 (by omega)
                    refine lv_goto (tgt := 11) hx hb dX10_asks_158 (by decide) ?_
                    exact ih_41 z_59 y_65 (upd f_34 (Int32.toNatClampNeg m_38) v1) (upd f_35 (Int32.toNatClampNeg m_38) x_33) (upd f_36 (Int32.toNatClampNeg m_38) z_58) (upd f_37 (Int32.toNatClampNeg m_38) 0) z_61 i_62 j_63 H locs ls (by omega) (by omega) (by show z_61.toInt + 3 - y_65.toInt ≤ 3 * (cU (upd (F 32) (Int32.toNatClampNeg v1) (vp_nar .boolean 1)) (n 11).toInt.toNat : Int); omega) hP hD hS (lv_sub hl [0, 1, 3, 4] rfl)
                  · simp only [i_lt, i_le, i_eq, ti_0] at c_60
                    refine lv_iconst (v := 1) hx hb dX10_asks_131 (by decide) ?_
                    refine lv_goto (tgt := 136) hx hb dX10_asks_132 (by decide) ?_
                    refine va_iast hx hb hK hP hD hS 51 50 rfl rfl (vp_in_iff.mpr ⟨by omega, by omega⟩) dX10_asks_136 (fun H locs hP hD hS => ?_)
                    have hP : va_P (dC, dI) vwCl (w10 h0 X C (upF (upF (upF (upF (upF F 32 (upd (F 32) (Int32.toNatClampNeg v1) (vp_nar .boolean 1))) 55 (upd f_34 (Int32.toNatClampNeg m_38) v1)) 56 (upd f_35 (Int32.toNatClampNeg m_38) x_33)) 57 (upd f_36 (Int32.toNatClampNeg m_38) z_58)) 58 (upd f_37 (Int32.toNatClampNeg m_38) 1)) (upn n 47 m_38)) H := hP
                    have hD : va_D A (w10 h0 X C (upF (upF (upF (upF (upF F 32 (upd (F 32) (Int32.toNatClampNeg v1) (vp_nar .boolean 1))) 55 (upd f_34 (Int32.toNatClampNeg m_38) v1)) 56 (upd f_35 (Int32.toNatClampNeg m_38) x_33)) 57 (upd f_36 (Int32.toNatClampNeg m_38) z_58)) 58 (upd f_37 (Int32.toNatClampNeg m_38) 1)) (upn n 47 m_38)) := hD
                    refine lv_aload_n hx hb dX10_asks_137 rfl (lv_at hl 3 rfl) ?_
                    refine lv_aload_n hx hb dX10_asks_138 rfl (lv_at hl 3 rfl) ?_
                    refine va_get (D := (dC, dI)) (ci := 10) (v := .int m_38) (C := RX10) (T := TX10) (N := 60) hx hb hg gb_10 hown hK hP 0 rfl rfl 47 (by decide) (hg _ gm_fieldLink_RX10_195_ErrandGuildModel_handledMany_I_) (fun _ h9 => h9) rfl dX10_asks_139 ?_
                    refine lv_iconst (v := 1) hx hb dX10_asks_142 (by decide) ?_
                    refine lv_iadd hx hb dX10_asks_143 ?_
                    refine lv_topi (fun z_66 ez_66 => ?_)
                    have tz_66 : z_66.toInt = m_38.toInt + 1 := ar_add rfl ti_1 ez_66 (by omega)
                    refine va_put (D := (dC, dI)) (ci := 10) (v := .int z_66) (ty := .int) (C := RX10) (T := TX10) (N := 60) hx hb hg gb_10 tyX10 tyX10_ok nmX10 hown hK hP hD hS 0 rfl rfl 47 (by decide) (hg _ gm_fieldLink_RX10_195_ErrandGuildModel_handledMany_I_) (fun _ h9 => h9) rfl (by decide +kernel) rfl rfl (Nat.le_of_ble_eq_true rfl) dX10_asks_144 (fun H locs hP hD hS => ?_)
                    have hP : va_P (dC, dI) vwCl (w10 h0 X C (upF (upF (upF (upF (upF F 32 (upd (F 32) (Int32.toNatClampNeg v1) (vp_nar .boolean 1))) 55 (upd f_34 (Int32.toNatClampNeg m_38) v1)) 56 (upd f_35 (Int32.toNatClampNeg m_38) x_33)) 57 (upd f_36 (Int32.toNatClampNeg m_38) z_58)) 58 (upd f_37 (Int32.toNatClampNeg m_38) 1)) (upn n 47 z_66)) H := hP
                    have hD : va_D A (w10 h0 X C (upF (upF (upF (upF (upF F 32 (upd (F 32) (Int32.toNatClampNeg v1) (vp_nar .boolean 1))) 55 (upd f_34 (Int32.toNatClampNeg m_38) v1)) 56 (upd f_35 (Int32.toNatClampNeg m_38) x_33)) 57 (upd f_36 (Int32.toNatClampNeg m_38) z_58)) 58 (upd f_37 (Int32.toNatClampNeg m_38) 1)) (upn n 47 z_66)) := hD
                    have i_67 : 0 ≤ z_66.toInt ∧ z_66.toInt ≤ 600 := by omega
                    have j_68 : J6 (upd (F 32) (Int32.toNatClampNeg v1) (vp_nar .boolean 1)) z_66 (n 11) := by unfold J6; omega
                    refine lv_aload_n hx hb dX10_asks_147 rfl (lv_at hl 3 rfl) ?_
                    refine va_get (D := (dC, dI)) (ci := 10) (v := .ref (X 7)) (C := RX10) (T := TX10) (N := 60) hx hb hg gb_10 hown hK hP 0 rfl rfl 7 (by decide) (hg _ gm_fieldLink_RX10_32_ErrandGuildModel_throwsOn_AZ_) (fun _ h9 => h9) rfl dX10_asks_148 ?_
                    refine lv_iload hx hb dX10_asks_151 (lv_at hl 0 rfl) ?_
                    refine va_zald hx hb hK hP 8 7 rfl rfl (by unfold vp_in; decide) dX10_asks_153 ?_
                    refine lv_topi (fun z_69 ez_69 => ?_)
                    obtain rfl : z_59 = z_69 := ez_59.trans ez_69.symm
                    refine lv_istore_n (lv' := [(2, .int z_59), (4, .int 16), (3, .int x_33), (0, .ref h0), (1, .int v1)]) hx hb dX10_asks_154 rfl hl (by decide) rfl (fun ls hl => ?_)
                    obtain ⟨y_70, ey_70⟩ : ∃ q : Int32, q = x_33 + (1) := ⟨_, rfl⟩
                    refine lv_iinc (v := y_70) (lv' := [(3, .int y_70), (2, .int z_59), (4, .int 16), (0, .ref h0), (1, .int v1)]) hx hb dX10_asks_155 hl (k := 2) rfl (by rw [ey_70]; rfl) (by decide) rfl (fun ls hl => ?_)
                    have ty_70 : y_70.toInt = x_33.toInt + (1) := ar_add rfl ti_1 ey_70 (by omega)
                    refine lv_goto (tgt := 11) hx hb dX10_asks_158 (by decide) ?_
                    exact ih_41 z_59 y_70 (upd f_34 (Int32.toNatClampNeg m_38) v1) (upd f_35 (Int32.toNatClampNeg m_38) x_33) (upd f_36 (Int32.toNatClampNeg m_38) z_58) (upd f_37 (Int32.toNatClampNeg m_38) 1) z_66 i_67 j_68 H locs ls (by omega) (by omega) (by show z_66.toInt + 3 - y_70.toInt ≤ 3 * (cU (upd (F 32) (Int32.toNatClampNeg v1) (vp_nar .boolean 1)) (n 11).toInt.toNat : Int); omega) hP hD hS (lv_sub hl [0, 1, 3, 4] rfl)
              · simp only [i_lt, i_le, i_eq, ti_0] at c_51
                refine lv_goto (tgt := 155) hx hb dX10_asks_64 (by decide) ?_
                obtain ⟨y_71, ey_71⟩ : ∃ q : Int32, q = x_33 + (1) := ⟨_, rfl⟩
                refine lv_iinc (v := y_71) (lv' := [(3, .int y_71), (4, .int 16), (2, .int x_32), (0, .ref h0), (1, .int v1)]) hx hb dX10_asks_155 hl (k := 1) rfl (by rw [ey_71]; rfl) (by decide) rfl (fun ls hl => ?_)
                have ty_71 : y_71.toInt = x_33.toInt + (1) := ar_add rfl ti_1 ey_71 (by omega)
                refine lv_goto (tgt := 11) hx hb dX10_asks_158 (by decide) ?_
                exact ih_41 x_32 y_71 f_34 f_35 f_36 f_37 m_38 h_39 h_40 H locs ls (by omega) (by omega) (by show m_38.toInt + 3 - y_71.toInt ≤ 3 * (cU (upd (F 32) (Int32.toNatClampNeg v1) (vp_nar .boolean 1)) (n 11).toInt.toNat : Int); omega) hP hD hS (lv_sub hl [0, 2, 3, 4] rfl)
            · simp only [i_lt, i_le, i_eq, ti_1] at c_49
              refine lv_bipush (v := 8) hx hb dX10_asks_38 (by decide) ?_
              refine lv_aload_n hx hb dX10_asks_40 rfl (lv_at hl 2 rfl) ?_
              refine va_get (D := (dC, dI)) (ci := 10) (v := .ref (X 28)) (C := RX10) (T := TX10) (N := 60) hx hb hg gb_10 hown hK hP 0 rfl rfl 28 (by decide) (hg _ gm_fieldLink_RX10_90_ErrandGuildModel_failKind_AI_) (fun _ h9 => h9) rfl dX10_asks_41 ?_
              refine lv_iload_n hx hb dX10_asks_44 rfl (lv_at hl 3 rfl) ?_
              refine va_iald hx hb hK hP 26 25 rfl rfl (vp_in_iff.mpr ⟨by omega, by omega⟩) dX10_asks_45 ?_
              refine lv_topi (fun z_72 ez_72 => ?_)
              have qz_72 := congrArg Int32.toInt ez_72
              have bz_72 := bd_at b_9 ez_72
              refine lv_iadd hx hb dX10_asks_46 ?_
              refine lv_topi (fun z_73 ez_73 => ?_)
              have tz_73 : z_73.toInt = 8 + z_72.toInt := ar_add ti_8 rfl ez_73 (by omega)
              refine lv_goto (tgt := 52) hx hb dX10_asks_47 (by decide) ?_
              refine lv_istore (lv' := [(4, .int z_73), (3, .int x_33), (2, .int x_32), (0, .ref h0), (1, .int v1)]) hx hb dX10_asks_52 hl (by decide) rfl (fun ls hl => ?_)
              refine lv_aload_n hx hb dX10_asks_54 rfl (lv_at hl 3 rfl) ?_
              refine va_get (D := (dC, dI)) (ci := 10) (v := .ref (X 6)) (C := RX10) (T := TX10) (N := 60) hx hb hg gb_10 hown hK hP 0 rfl rfl 6 (by decide) (hg _ gm_fieldLink_RX10_28_ErrandGuildModel_isHandler_AZ_) (fun _ h9 => h9) rfl dX10_asks_55 ?_
              refine lv_iload hx hb dX10_asks_58 (lv_at hl 0 rfl) ?_
              refine va_zald hx hb hK hP 7 6 rfl rfl (vp_in_iff.mpr ⟨by omega, by omega⟩) dX10_asks_60 ?_
              refine lv_topi (fun z_74 ez_74 => ?_)
              have qz_74 := congrArg Int32.toInt ez_74
              refine lv_if_ne (tgt := 67) hx hb dX10_asks_61 (by decide) (fun c_75 => ?_) (fun c_75 => ?_)
              · simp only [i_lt, i_le, i_eq, ti_0] at c_75
                refine lv_aload_n hx hb dX10_asks_67 rfl (lv_at hl 3 rfl) ?_
                refine va_get (D := (dC, dI)) (ci := 10) (v := .int m_38) (C := RX10) (T := TX10) (N := 60) hx hb hg gb_10 hown hK hP 0 rfl rfl 47 (by decide) (hg _ gm_fieldLink_RX10_195_ErrandGuildModel_handledMany_I_) (fun _ h9 => h9) rfl dX10_asks_68 ?_
                refine lv_sipush (v := 600) hx hb dX10_asks_71 (by decide) ?_
                refine lv_icmp_ge (tgt := 137) hx hb dX10_asks_74 (by decide) (fun c_76 => ?_) (fun c_76 => ?_)
                · simp only [i_lt, i_le, i_eq, ti_600] at c_76
                  refine lv_aload_n hx hb dX10_asks_137 rfl (lv_at hl 3 rfl) ?_
                  refine lv_aload_n hx hb dX10_asks_138 rfl (lv_at hl 3 rfl) ?_
                  refine va_get (D := (dC, dI)) (ci := 10) (v := .int m_38) (C := RX10) (T := TX10) (N := 60) hx hb hg gb_10 hown hK hP 0 rfl rfl 47 (by decide) (hg _ gm_fieldLink_RX10_195_ErrandGuildModel_handledMany_I_) (fun _ h9 => h9) rfl dX10_asks_139 ?_
                  refine lv_iconst (v := 1) hx hb dX10_asks_142 (by decide) ?_
                  refine lv_iadd hx hb dX10_asks_143 ?_
                  refine lv_topi (fun z_77 ez_77 => ?_)
                  have tz_77 : z_77.toInt = m_38.toInt + 1 := ar_add rfl ti_1 ez_77 (by omega)
                  refine va_put (D := (dC, dI)) (ci := 10) (v := .int z_77) (ty := .int) (C := RX10) (T := TX10) (N := 60) hx hb hg gb_10 tyX10 tyX10_ok nmX10 hown hK hP hD hS 0 rfl rfl 47 (by decide) (hg _ gm_fieldLink_RX10_195_ErrandGuildModel_handledMany_I_) (fun _ h9 => h9) rfl (by decide +kernel) rfl rfl (Nat.le_of_ble_eq_true rfl) dX10_asks_144 (fun H locs hP hD hS => ?_)
                  have hP : va_P (dC, dI) vwCl (w10 h0 X C (upF (upF (upF (upF (upF F 32 (upd (F 32) (Int32.toNatClampNeg v1) (vp_nar .boolean 1))) 55 f_34) 56 f_35) 57 f_36) 58 f_37) (upn n 47 z_77)) H := hP
                  have hD : va_D A (w10 h0 X C (upF (upF (upF (upF (upF F 32 (upd (F 32) (Int32.toNatClampNeg v1) (vp_nar .boolean 1))) 55 f_34) 56 f_35) 57 f_36) 58 f_37) (upn n 47 z_77)) := hD
                  have i_78 : 0 ≤ z_77.toInt ∧ z_77.toInt ≤ 600 := by omega
                  have j_79 : J6 (upd (F 32) (Int32.toNatClampNeg v1) (vp_nar .boolean 1)) z_77 (n 11) := by unfold J6; omega
                  refine lv_aload_n hx hb dX10_asks_147 rfl (lv_at hl 3 rfl) ?_
                  refine va_get (D := (dC, dI)) (ci := 10) (v := .ref (X 7)) (C := RX10) (T := TX10) (N := 60) hx hb hg gb_10 hown hK hP 0 rfl rfl 7 (by decide) (hg _ gm_fieldLink_RX10_32_ErrandGuildModel_throwsOn_AZ_) (fun _ h9 => h9) rfl dX10_asks_148 ?_
                  refine lv_iload hx hb dX10_asks_151 (lv_at hl 0 rfl) ?_
                  refine va_zald hx hb hK hP 8 7 rfl rfl (vp_in_iff.mpr ⟨by omega, by omega⟩) dX10_asks_153 ?_
                  refine lv_topi (fun z_80 ez_80 => ?_)
                  have qz_80 := congrArg Int32.toInt ez_80
                  refine lv_istore_n (lv' := [(2, .int z_80), (4, .int z_73), (3, .int x_33), (0, .ref h0), (1, .int v1)]) hx hb dX10_asks_154 rfl hl (by decide) rfl (fun ls hl => ?_)
                  obtain ⟨y_81, ey_81⟩ : ∃ q : Int32, q = x_33 + (1) := ⟨_, rfl⟩
                  refine lv_iinc (v := y_81) (lv' := [(3, .int y_81), (2, .int z_80), (4, .int z_73), (0, .ref h0), (1, .int v1)]) hx hb dX10_asks_155 hl (k := 2) rfl (by rw [ey_81]; rfl) (by decide) rfl (fun ls hl => ?_)
                  have ty_81 : y_81.toInt = x_33.toInt + (1) := ar_add rfl ti_1 ey_81 (by omega)
                  refine lv_goto (tgt := 11) hx hb dX10_asks_158 (by decide) ?_
                  exact ih_41 z_80 y_81 f_34 f_35 f_36 f_37 z_77 i_78 j_79 H locs ls (by omega) (by omega) (by show z_77.toInt + 3 - y_81.toInt ≤ 3 * (cU (upd (F 32) (Int32.toNatClampNeg v1) (vp_nar .boolean 1)) (n 11).toInt.toNat : Int); omega) hP hD hS (lv_sub hl [0, 1, 3, 4] rfl)
                · simp only [i_lt, i_le, i_eq, ti_600] at c_76
                  refine lv_aload_n hx hb dX10_asks_77 rfl (lv_at hl 3 rfl) ?_
                  refine va_get (D := (dC, dI)) (ci := 10) (v := .ref (X 55)) (C := RX10) (T := TX10) (N := 60) hx hb hg gb_10 hown hK hP 0 rfl rfl 55 (by decide) (hg _ gm_fieldLink_RX10_157_ErrandGuildModel_handledRun_AI_) (fun _ h9 => h9) rfl dX10_asks_78 ?_
                  refine lv_aload_n hx hb dX10_asks_81 rfl (lv_at hl 3 rfl) ?_
                  refine va_get (D := (dC, dI)) (ci := 10) (v := .int m_38) (C := RX10) (T := TX10) (N := 60) hx hb hg gb_10 hown hK hP 0 rfl rfl 47 (by decide) (hg _ gm_fieldLink_RX10_195_ErrandGuildModel_handledMany_I_) (fun _ h9 => h9) rfl dX10_asks_82 ?_
                  refine lv_iload_n hx hb dX10_asks_85 rfl (lv_at hl 4 rfl) ?_
                  refine va_iast hx hb hK hP hD hS 48 47 rfl rfl (vp_in_iff.mpr ⟨by omega, by omega⟩) dX10_asks_86 (fun H locs hP hD hS => ?_)
                  have hP : va_P (dC, dI) vwCl (w10 h0 X C (upF (upF (upF (upF (upF F 32 (upd (F 32) (Int32.toNatClampNeg v1) (vp_nar .boolean 1))) 55 (upd f_34 (Int32.toNatClampNeg m_38) v1)) 56 f_35) 57 f_36) 58 f_37) (upn n 47 m_38)) H := hP
                  have hD : va_D A (w10 h0 X C (upF (upF (upF (upF (upF F 32 (upd (F 32) (Int32.toNatClampNeg v1) (vp_nar .boolean 1))) 55 (upd f_34 (Int32.toNatClampNeg m_38) v1)) 56 f_35) 57 f_36) 58 f_37) (upn n 47 m_38)) := hD
                  refine lv_aload_n hx hb dX10_asks_87 rfl (lv_at hl 3 rfl) ?_
                  refine va_get (D := (dC, dI)) (ci := 10) (v := .ref (X 56)) (C := RX10) (T := TX10) (N := 60) hx hb hg gb_10 hown hK hP 0 rfl rfl 56 (by decide) (hg _ gm_fieldLink_RX10_160_ErrandGuildModel_handledLevel_AI_) (fun _ h9 => h9) rfl dX10_asks_88 ?_
                  refine lv_aload_n hx hb dX10_asks_91 rfl (lv_at hl 3 rfl) ?_
                  refine va_get (D := (dC, dI)) (ci := 10) (v := .int m_38) (C := RX10) (T := TX10) (N := 60) hx hb hg gb_10 hown hK hP 0 rfl rfl 47 (by decide) (hg _ gm_fieldLink_RX10_195_ErrandGuildModel_handledMany_I_) (fun _ h9 => h9) rfl dX10_asks_92 ?_
                  refine lv_iload_n hx hb dX10_asks_95 rfl (lv_at hl 1 rfl) ?_
                  refine va_iast hx hb hK hP hD hS 49 48 rfl rfl (vp_in_iff.mpr ⟨by omega, by omega⟩) dX10_asks_96 (fun H locs hP hD hS => ?_)
                  have hP : va_P (dC, dI) vwCl (w10 h0 X C (upF (upF (upF (upF (upF F 32 (upd (F 32) (Int32.toNatClampNeg v1) (vp_nar .boolean 1))) 55 (upd f_34 (Int32.toNatClampNeg m_38) v1)) 56 (upd f_35 (Int32.toNatClampNeg m_38) x_33)) 57 f_36) 58 f_37) (upn n 47 m_38)) H := hP
                  have hD : va_D A (w10 h0 X C (upF (upF (upF (upF (upF F 32 (upd (F 32) (Int32.toNatClampNeg v1) (vp_nar .boolean 1))) 55 (upd f_34 (Int32.toNatClampNeg m_38) v1)) 56 (upd f_35 (Int32.toNatClampNeg m_38) x_33)) 57 f_36) 58 f_37) (upn n 47 m_38)) := hD
                  refine lv_aload_n hx hb dX10_asks_97 rfl (lv_at hl 3 rfl) ?_
                  refine va_get (D := (dC, dI)) (ci := 10) (v := .ref (X 57)) (C := RX10) (T := TX10) (N := 60) hx hb hg gb_10 hown hK hP 0 rfl rfl 57 (by decide) (hg _ gm_fieldLink_RX10_163_ErrandGuildModel_handledEffect_AI_) (fun _ h9 => h9) rfl dX10_asks_98 ?_
                  refine lv_aload_n hx hb dX10_asks_101 rfl (lv_at hl 3 rfl) ?_
                  refine va_get (D := (dC, dI)) (ci := 10) (v := .int m_38) (C := RX10) (T := TX10) (N := 60) hx hb hg gb_10 hown hK hP 0 rfl rfl 47 (by decide) (hg _ gm_fieldLink_RX10_195_ErrandGuildModel_handledMany_I_) (fun _ h9 => h9) rfl dX10_asks_102 ?_
                  refine lv_aload_n hx hb dX10_asks_105 rfl (lv_at hl 3 rfl) ?_
                  refine va_get (D := (dC, dI)) (ci := 10) (v := .ref (X 8)) (C := RX10) (T := TX10) (N := 60) hx hb hg gb_10 hown hK hP 0 rfl rfl 8 (by decide) (hg _ gm_fieldLink_RX10_35_ErrandGuildModel_effect_AI_) (fun _ h9 => h9) rfl dX10_asks_106 ?_
                  refine lv_iload hx hb dX10_asks_109 (lv_at hl 0 rfl) ?_
                  refine va_iald hx hb hK hP 9 8 rfl rfl (vp_in_iff.mpr ⟨by omega, by omega⟩) dX10_asks_111 ?_
                  refine lv_topi (fun z_82 ez_82 => ?_)
                  have qz_82 := congrArg Int32.toInt ez_82
                  refine va_iast hx hb hK hP hD hS 50 49 rfl rfl (vp_in_iff.mpr ⟨by omega, by omega⟩) dX10_asks_112 (fun H locs hP hD hS => ?_)
                  have hP : va_P (dC, dI) vwCl (w10 h0 X C (upF (upF (upF (upF (upF F 32 (upd (F 32) (Int32.toNatClampNeg v1) (vp_nar .boolean 1))) 55 (upd f_34 (Int32.toNatClampNeg m_38) v1)) 56 (upd f_35 (Int32.toNatClampNeg m_38) x_33)) 57 (upd f_36 (Int32.toNatClampNeg m_38) z_82)) 58 f_37) (upn n 47 m_38)) H := hP
                  have hD : va_D A (w10 h0 X C (upF (upF (upF (upF (upF F 32 (upd (F 32) (Int32.toNatClampNeg v1) (vp_nar .boolean 1))) 55 (upd f_34 (Int32.toNatClampNeg m_38) v1)) 56 (upd f_35 (Int32.toNatClampNeg m_38) x_33)) 57 (upd f_36 (Int32.toNatClampNeg m_38) z_82)) 58 f_37) (upn n 47 m_38)) := hD
                  refine lv_aload_n hx hb dX10_asks_113 rfl (lv_at hl 3 rfl) ?_
                  refine va_get (D := (dC, dI)) (ci := 10) (v := .ref (X 58)) (C := RX10) (T := TX10) (N := 60) hx hb hg gb_10 hown hK hP 0 rfl rfl 58 (by decide) (hg _ gm_fieldLink_RX10_166_ErrandGuildModel_handledThrew_AI_) (fun _ h9 => h9) rfl dX10_asks_114 ?_
                  refine lv_aload_n hx hb dX10_asks_117 rfl (lv_at hl 3 rfl) ?_
                  refine va_get (D := (dC, dI)) (ci := 10) (v := .int m_38) (C := RX10) (T := TX10) (N := 60) hx hb hg gb_10 hown hK hP 0 rfl rfl 47 (by decide) (hg _ gm_fieldLink_RX10_195_ErrandGuildModel_handledMany_I_) (fun _ h9 => h9) rfl dX10_asks_118 ?_
                  refine lv_aload_n hx hb dX10_asks_121 rfl (lv_at hl 3 rfl) ?_
                  refine va_get (D := (dC, dI)) (ci := 10) (v := .ref (X 7)) (C := RX10) (T := TX10) (N := 60) hx hb hg gb_10 hown hK hP 0 rfl rfl 7 (by decide) (hg _ gm_fieldLink_RX10_32_ErrandGuildModel_throwsOn_AZ_) (fun _ h9 => h9) rfl dX10_asks_122 ?_
                  refine lv_iload hx hb dX10_asks_125 (lv_at hl 0 rfl) ?_
                  refine va_zald hx hb hK hP 8 7 rfl rfl (vp_in_iff.mpr ⟨by omega, by omega⟩) dX10_asks_127 ?_
                  refine lv_topi (fun z_83 ez_83 => ?_)
                  have qz_83 := congrArg Int32.toInt ez_83
                  refine lv_if_eq (tgt := 135) hx hb dX10_asks_128 (by decide) (fun c_84 => ?_) (fun c_84 => ?_)
                  · simp only [i_lt, i_le, i_eq, ti_0] at c_84
                    refine lv_iconst (v := 0) hx hb dX10_asks_135 (by decide) ?_
                    refine va_iast hx hb hK hP hD hS 51 50 rfl rfl (vp_in_iff.mpr ⟨by omega, by omega⟩) dX10_asks_136 (fun H locs hP hD hS => ?_)
                    have hP : va_P (dC, dI) vwCl (w10 h0 X C (upF (upF (upF (upF (upF F 32 (upd (F 32) (Int32.toNatClampNeg v1) (vp_nar .boolean 1))) 55 (upd f_34 (Int32.toNatClampNeg m_38) v1)) 56 (upd f_35 (Int32.toNatClampNeg m_38) x_33)) 57 (upd f_36 (Int32.toNatClampNeg m_38) z_82)) 58 (upd f_37 (Int32.toNatClampNeg m_38) 0)) (upn n 47 m_38)) H := hP
                    have hD : va_D A (w10 h0 X C (upF (upF (upF (upF (upF F 32 (upd (F 32) (Int32.toNatClampNeg v1) (vp_nar .boolean 1))) 55 (upd f_34 (Int32.toNatClampNeg m_38) v1)) 56 (upd f_35 (Int32.toNatClampNeg m_38) x_33)) 57 (upd f_36 (Int32.toNatClampNeg m_38) z_82)) 58 (upd f_37 (Int32.toNatClampNeg m_38) 0)) (upn n 47 m_38)) := hD
                    refine lv_aload_n hx hb dX10_asks_137 rfl (lv_at hl 3 rfl) ?_
                    refine lv_aload_n hx hb dX10_asks_138 rfl (lv_at hl 3 rfl) ?_
                    refine va_get (D := (dC, dI)) (ci := 10) (v := .int m_38) (C := RX10) (T := TX10) (N := 60) hx hb hg gb_10 hown hK hP 0 rfl rfl 47 (by decide) (hg _ gm_fieldLink_RX10_195_ErrandGuildModel_handledMany_I_) (fun _ h9 => h9) rfl dX10_asks_139 ?_
                    refine lv_iconst (v := 1) hx hb dX10_asks_142 (by decide) ?_
                    refine lv_iadd hx hb dX10_asks_143 ?_
                    refine lv_topi (fun z_85 ez_85 => ?_)
                    have tz_85 : z_85.toInt = m_38.toInt + 1 := ar_add rfl ti_1 ez_85 (by omega)
                    refine va_put (D := (dC, dI)) (ci := 10) (v := .int z_85) (ty := .int) (C := RX10) (T := TX10) (N := 60) hx hb hg gb_10 tyX10 tyX10_ok nmX10 hown hK hP hD hS 0 rfl rfl 47 (by decide) (hg _ gm_fieldLink_RX10_195_ErrandGuildModel_handledMany_I_) (fun _ h9 => h9) rfl (by decide +kernel) rfl rfl (Nat.le_of_ble_eq_true rfl) dX10_asks_144 (fun H locs hP hD hS => ?_)
                    have hP : va_P (dC, dI) vwCl (w10 h0 X C (upF (upF (upF (upF (upF F 32 (upd (F 32) (Int32.toNatClampNeg v1) (vp_nar .boolean 1))) 55 (upd f_34 (Int32.toNatClampNeg m_38) v1)) 56 (upd f_35 (Int32.toNatClampNeg m_38) x_33)) 57 (upd f_36 (Int32.toNatClampNeg m_38) z_82)) 58 (upd f_37 (Int32.toNatClampNeg m_38) 0)) (upn n 47 z_85)) H := hP
                    have hD : va_D A (w10 h0 X C (upF (upF (upF (upF (upF F 32 (upd (F 32) (Int32.toNatClampNeg v1) (vp_nar .boolean 1))) 55 (upd f_34 (Int32.toNatClampNeg m_38) v1)) 56 (upd f_35 (Int32.toNatClampNeg m_38) x_33)) 57 (upd f_36 (Int32.toNatClampNeg m_38) z_82)) 58 (upd f_37 (Int32.toNatClampNeg m_38) 0)) (upn n 47 z_85)) := hD
                    have i_86 : 0 ≤ z_85.toInt ∧ z_85.toInt ≤ 600 := by omega
                    have j_87 : J6 (upd (F 32) (Int32.toNatClampNeg v1) (vp_nar .boolean 1)) z_85 (n 11) := by unfold J6; omega
                    refine lv_aload_n hx hb dX10_asks_147 rfl (lv_at hl 3 rfl) ?_
                    refine va_get (D := (dC, dI)) (ci := 10) (v := .ref (X 7)) (C := RX10) (T := TX10) (N := 60) hx hb hg gb_10 hown hK hP 0 rfl rfl 7 (by decide) (hg _ gm_fieldLink_RX10_32_ErrandGuildModel_throwsOn_AZ_) (fun _ h9 => h9) rfl dX10_asks_148 ?_
                    refine lv_iload hx hb dX10_asks_151 (lv_at hl 0 rfl) ?_
                    refine va_zald hx hb hK hP 8 7 rfl rfl (vp_in_iff.mpr ⟨by omega, by omega⟩) dX10_asks_153 ?_
                    refine lv_topi (fun z_88 ez_88 => ?_)
                    obtain rfl : z_83 = z_88 := ez_83.trans ez_88.symm
                    refine lv_istore_n (lv' := [(2, .int z_83), (4, .int z_73), (3, .int x_33), (0, .ref h0), (1, .int v1)]) hx hb dX10_asks_154 rfl hl (by decide) rfl (fun ls hl => ?_)
                    obtain ⟨y_89, ey_89⟩ : ∃ q : Int32, q = x_33 + (1) := ⟨_, rfl⟩
                    refine lv_iinc (v := y_89) (lv' := [(3, .int y_89), (2, .int z_83), (4, .int z_73), (0, .ref h0), (1, .int v1)]) hx hb dX10_asks_155 hl (k := 2) rfl (by rw [ey_89]; rfl) (by decide) rfl (fun ls hl => ?_)
                    have ty_89 : y_89.toInt = x_33.toInt + (1) := ar_add rfl ti_1 ey_89 (by omega)
                    refine lv_goto (tgt := 11) hx hb dX10_asks_158 (by decide) ?_
                    exact ih_41 z_83 y_89 (upd f_34 (Int32.toNatClampNeg m_38) v1) (upd f_35 (Int32.toNatClampNeg m_38) x_33) (upd f_36 (Int32.toNatClampNeg m_38) z_82) (upd f_37 (Int32.toNatClampNeg m_38) 0) z_85 i_86 j_87 H locs ls (by omega) (by omega) (by show z_85.toInt + 3 - y_89.toInt ≤ 3 * (cU (upd (F 32) (Int32.toNatClampNeg v1) (vp_nar .boolean 1)) (n 11).toInt.toNat : Int); omega) hP hD hS (lv_sub hl [0, 1, 3, 4] rfl)
                  · simp only [i_lt, i_le, i_eq, ti_0] at c_84
                    refine lv_iconst (v := 1) hx hb dX10_asks_131 (by decide) ?_
                    refine lv_goto (tgt := 136) hx hb dX10_asks_132 (by decide) ?_
                    refine va_iast hx hb hK hP hD hS 51 50 rfl rfl (vp_in_iff.mpr ⟨by omega, by omega⟩) dX10_asks_136 (fun H locs hP hD hS => ?_)
                    have hP : va_P (dC, dI) vwCl (w10 h0 X C (upF (upF (upF (upF (upF F 32 (upd (F 32) (Int32.toNatClampNeg v1) (vp_nar .boolean 1))) 55 (upd f_34 (Int32.toNatClampNeg m_38) v1)) 56 (upd f_35 (Int32.toNatClampNeg m_38) x_33)) 57 (upd f_36 (Int32.toNatClampNeg m_38) z_82)) 58 (upd f_37 (Int32.toNatClampNeg m_38) 1)) (upn n 47 m_38)) H := hP
                    have hD : va_D A (w10 h0 X C (upF (upF (upF (upF (upF F 32 (upd (F 32) (Int32.toNatClampNeg v1) (vp_nar .boolean 1))) 55 (upd f_34 (Int32.toNatClampNeg m_38) v1)) 56 (upd f_35 (Int32.toNatClampNeg m_38) x_33)) 57 (upd f_36 (Int32.toNatClampNeg m_38) z_82)) 58 (upd f_37 (Int32.toNatClampNeg m_38) 1)) (upn n 47 m_38)) := hD
                    refine lv_aload_n hx hb dX10_asks_137 rfl (lv_at hl 3 rfl) ?_
                    refine lv_aload_n hx hb dX10_asks_138 rfl (lv_at hl 3 rfl) ?_
                    refine va_get (D := (dC, dI)) (ci := 10) (v := .int m_38) (C := RX10) (T := TX10) (N := 60) hx hb hg gb_10 hown hK hP 0 rfl rfl 47 (by decide) (hg _ gm_fieldLink_RX10_195_ErrandGuildModel_handledMany_I_) (fun _ h9 => h9) rfl dX10_asks_139 ?_
                    refine lv_iconst (v := 1) hx hb dX10_asks_142 (by decide) ?_
                    refine lv_iadd hx hb dX10_asks_143 ?_
                    refine lv_topi (fun z_90 ez_90 => ?_)
                    have tz_90 : z_90.toInt = m_38.toInt + 1 := ar_add rfl ti_1 ez_90 (by omega)
                    refine va_put (D := (dC, dI)) (ci := 10) (v := .int z_90) (ty := .int) (C := RX10) (T := TX10) (N := 60) hx hb hg gb_10 tyX10 tyX10_ok nmX10 hown hK hP hD hS 0 rfl rfl 47 (by decide) (hg _ gm_fieldLink_RX10_195_ErrandGuildModel_handledMany_I_) (fun _ h9 => h9) rfl (by decide +kernel) rfl rfl (Nat.le_of_ble_eq_true rfl) dX10_asks_144 (fun H locs hP hD hS => ?_)
                    have hP : va_P (dC, dI) vwCl (w10 h0 X C (upF (upF (upF (upF (upF F 32 (upd (F 32) (Int32.toNatClampNeg v1) (vp_nar .boolean 1))) 55 (upd f_34 (Int32.toNatClampNeg m_38) v1)) 56 (upd f_35 (Int32.toNatClampNeg m_38) x_33)) 57 (upd f_36 (Int32.toNatClampNeg m_38) z_82)) 58 (upd f_37 (Int32.toNatClampNeg m_38) 1)) (upn n 47 z_90)) H := hP
                    have hD : va_D A (w10 h0 X C (upF (upF (upF (upF (upF F 32 (upd (F 32) (Int32.toNatClampNeg v1) (vp_nar .boolean 1))) 55 (upd f_34 (Int32.toNatClampNeg m_38) v1)) 56 (upd f_35 (Int32.toNatClampNeg m_38) x_33)) 57 (upd f_36 (Int32.toNatClampNeg m_38) z_82)) 58 (upd f_37 (Int32.toNatClampNeg m_38) 1)) (upn n 47 z_90)) := hD
                    have i_91 : 0 ≤ z_90.toInt ∧ z_90.toInt ≤ 600 := by omega
                    have j_92 : J6 (upd (F 32) (Int32.toNatClampNeg v1) (vp_nar .boolean 1)) z_90 (n 11) := by unfold J6; omega
                    refine lv_aload_n hx hb dX10_asks_147 rfl (lv_at hl 3 rfl) ?_
                    refine va_get (D := (dC, dI)) (ci := 10) (v := .ref (X 7)) (C := RX10) (T := TX10) (N := 60) hx hb hg gb_10 hown hK hP 0 rfl rfl 7 (by decide) (hg _ gm_fieldLink_RX10_32_ErrandGuildModel_throwsOn_AZ_) (fun _ h9 => h9) rfl dX10_asks_148 ?_
                    refine lv_iload hx hb dX10_asks_151 (lv_at hl 0 rfl) ?_
                    refine va_zald hx hb hK hP 8 7 rfl rfl (vp_in_iff.mpr ⟨by omega, by omega⟩) dX10_asks_153 ?_
                    refine lv_topi (fun z_93 ez_93 => ?_)
                    obtain rfl : z_83 = z_93 := ez_83.trans ez_93.symm
                    refine lv_istore_n (lv' := [(2, .int z_83), (4, .int z_73), (3, .int x_33), (0, .ref h0), (1, .int v1)]) hx hb dX10_asks_154 rfl hl (by decide) rfl (fun ls hl => ?_)
                    obtain ⟨y_94, ey_94⟩ : ∃ q : Int32, q = x_33 + (1) := ⟨_, rfl⟩
                    refine lv_iinc (v := y_94) (lv' := [(3, .int y_94), (2, .int z_83), (4, .int z_73), (0, .ref h0), (1, .int v1)]) hx hb dX10_asks_155 hl (k := 2) rfl (by rw [ey_94]; rfl) (by decide) rfl (fun ls hl => ?_)
                    have ty_94 : y_94.toInt = x_33.toInt + (1) := ar_add rfl ti_1 ey_94 (by omega)
                    refine lv_goto (tgt := 11) hx hb dX10_asks_158 (by decide) ?_
                    exact ih_41 z_83 y_94 (upd f_34 (Int32.toNatClampNeg m_38) v1) (upd f_35 (Int32.toNatClampNeg m_38) x_33) (upd f_36 (Int32.toNatClampNeg m_38) z_82) (upd f_37 (Int32.toNatClampNeg m_38) 1) z_90 i_91 j_92 H locs ls (by omega) (by omega) (by show z_90.toInt + 3 - y_94.toInt ≤ 3 * (cU (upd (F 32) (Int32.toNatClampNeg v1) (vp_nar .boolean 1)) (n 11).toInt.toNat : Int); omega) hP hD hS (lv_sub hl [0, 1, 3, 4] rfl)
              · simp only [i_lt, i_le, i_eq, ti_0] at c_75
                refine lv_goto (tgt := 155) hx hb dX10_asks_64 (by decide) ?_
                obtain ⟨y_95, ey_95⟩ : ∃ q : Int32, q = x_33 + (1) := ⟨_, rfl⟩
                refine lv_iinc (v := y_95) (lv' := [(3, .int y_95), (4, .int z_73), (2, .int x_32), (0, .ref h0), (1, .int v1)]) hx hb dX10_asks_155 hl (k := 1) rfl (by rw [ey_95]; rfl) (by decide) rfl (fun ls hl => ?_)
                have ty_95 : y_95.toInt = x_33.toInt + (1) := ar_add rfl ti_1 ey_95 (by omega)
                refine lv_goto (tgt := 11) hx hb dX10_asks_158 (by decide) ?_
                exact ih_41 x_32 y_95 f_34 f_35 f_36 f_37 m_38 h_39 h_40 H locs ls (by omega) (by omega) (by show m_38.toInt + 3 - y_95.toInt ≤ 3 * (cU (upd (F 32) (Int32.toNatClampNeg v1) (vp_nar .boolean 1)) (n 11).toInt.toNat : Int); omega) hP hD hS (lv_sub hl [0, 2, 3, 4] rfl)
          · simp only [i_lt, i_le, i_eq, ti_0] at c_48
            refine lv_aload_n hx hb dX10_asks_24 rfl (lv_at hl 2 rfl) ?_
            refine va_get (D := (dC, dI)) (ci := 10) (v := .ref (X 14)) (C := RX10) (T := TX10) (N := 60) hx hb hg gb_10 hown hK hP 0 rfl rfl 14 (by decide) (hg _ gm_fieldLink_RX10_48_ErrandGuildModel_errand_AI_) (fun _ h9 => h9) rfl dX10_asks_25 ?_
            refine lv_iload_n hx hb dX10_asks_28 rfl (lv_at hl 3 rfl) ?_
            refine va_iald hx hb hK hP 12 11 rfl rfl (vp_in_iff.mpr ⟨by omega, by omega⟩) dX10_asks_29 ?_
            refine lv_topi (fun z_96 ez_96 => ?_)
            have qz_96 := congrArg Int32.toInt ez_96
            have bz_96 := bd_at b_4 ez_96
            refine lv_goto (tgt := 52) hx hb dX10_asks_30 (by decide) ?_
            refine lv_istore (lv' := [(4, .int z_96), (3, .int x_33), (2, .int x_32), (0, .ref h0), (1, .int v1)]) hx hb dX10_asks_52 hl (by decide) rfl (fun ls hl => ?_)
            refine lv_aload_n hx hb dX10_asks_54 rfl (lv_at hl 3 rfl) ?_
            refine va_get (D := (dC, dI)) (ci := 10) (v := .ref (X 6)) (C := RX10) (T := TX10) (N := 60) hx hb hg gb_10 hown hK hP 0 rfl rfl 6 (by decide) (hg _ gm_fieldLink_RX10_28_ErrandGuildModel_isHandler_AZ_) (fun _ h9 => h9) rfl dX10_asks_55 ?_
            refine lv_iload hx hb dX10_asks_58 (lv_at hl 0 rfl) ?_
            refine va_zald hx hb hK hP 7 6 rfl rfl (vp_in_iff.mpr ⟨by omega, by omega⟩) dX10_asks_60 ?_
            refine lv_topi (fun z_97 ez_97 => ?_)
            have qz_97 := congrArg Int32.toInt ez_97
            refine lv_if_ne (tgt := 67) hx hb dX10_asks_61 (by decide) (fun c_98 => ?_) (fun c_98 => ?_)
            · simp only [i_lt, i_le, i_eq, ti_0] at c_98
              refine lv_aload_n hx hb dX10_asks_67 rfl (lv_at hl 3 rfl) ?_
              refine va_get (D := (dC, dI)) (ci := 10) (v := .int m_38) (C := RX10) (T := TX10) (N := 60) hx hb hg gb_10 hown hK hP 0 rfl rfl 47 (by decide) (hg _ gm_fieldLink_RX10_195_ErrandGuildModel_handledMany_I_) (fun _ h9 => h9) rfl dX10_asks_68 ?_
              refine lv_sipush (v := 600) hx hb dX10_asks_71 (by decide) ?_
              refine lv_icmp_ge (tgt := 137) hx hb dX10_asks_74 (by decide) (fun c_99 => ?_) (fun c_99 => ?_)
              · simp only [i_lt, i_le, i_eq, ti_600] at c_99
                refine lv_aload_n hx hb dX10_asks_137 rfl (lv_at hl 3 rfl) ?_
                refine lv_aload_n hx hb dX10_asks_138 rfl (lv_at hl 3 rfl) ?_
                refine va_get (D := (dC, dI)) (ci := 10) (v := .int m_38) (C := RX10) (T := TX10) (N := 60) hx hb hg gb_10 hown hK hP 0 rfl rfl 47 (by decide) (hg _ gm_fieldLink_RX10_195_ErrandGuildModel_handledMany_I_) (fun _ h9 => h9) rfl dX10_asks_139 ?_
                refine lv_iconst (v := 1) hx hb dX10_asks_142 (by decide) ?_
                refine lv_iadd hx hb dX10_asks_143 ?_
                refine lv_topi (fun z_100 ez_100 => ?_)
                have tz_100 : z_100.toInt = m_38.toInt + 1 := ar_add rfl ti_1 ez_100 (by omega)
                refine va_put (D := (dC, dI)) (ci := 10) (v := .int z_100) (ty := .int) (C := RX10) (T := TX10) (N := 60) hx hb hg gb_10 tyX10 tyX10_ok nmX10 hown hK hP hD hS 0 rfl rfl 47 (by decide) (hg _ gm_fieldLink_RX10_195_ErrandGuildModel_handledMany_I_) (fun _ h9 => h9) rfl (by decide +kernel) rfl rfl (Nat.le_of_ble_eq_true rfl) dX10_asks_144 (fun H locs hP hD hS => ?_)
                have hP : va_P (dC, dI) vwCl (w10 h0 X C (upF (upF (upF (upF (upF F 32 (upd (F 32) (Int32.toNatClampNeg v1) (vp_nar .boolean 1))) 55 f_34) 56 f_35) 57 f_36) 58 f_37) (upn n 47 z_100)) H := hP
                have hD : va_D A (w10 h0 X C (upF (upF (upF (upF (upF F 32 (upd (F 32) (Int32.toNatClampNeg v1) (vp_nar .boolean 1))) 55 f_34) 56 f_35) 57 f_36) 58 f_37) (upn n 47 z_100)) := hD
                have i_101 : 0 ≤ z_100.toInt ∧ z_100.toInt ≤ 600 := by omega
                have j_102 : J6 (upd (F 32) (Int32.toNatClampNeg v1) (vp_nar .boolean 1)) z_100 (n 11) := by unfold J6; omega
                refine lv_aload_n hx hb dX10_asks_147 rfl (lv_at hl 3 rfl) ?_
                refine va_get (D := (dC, dI)) (ci := 10) (v := .ref (X 7)) (C := RX10) (T := TX10) (N := 60) hx hb hg gb_10 hown hK hP 0 rfl rfl 7 (by decide) (hg _ gm_fieldLink_RX10_32_ErrandGuildModel_throwsOn_AZ_) (fun _ h9 => h9) rfl dX10_asks_148 ?_
                refine lv_iload hx hb dX10_asks_151 (lv_at hl 0 rfl) ?_
                refine va_zald hx hb hK hP 8 7 rfl rfl (vp_in_iff.mpr ⟨by omega, by omega⟩) dX10_asks_153 ?_
                refine lv_topi (fun z_103 ez_103 => ?_)
                have qz_103 := congrArg Int32.toInt ez_103
                refine lv_istore_n (lv' := [(2, .int z_103), (4, .int z_96), (3, .int x_33), (0, .ref h0), (1, .int v1)]) hx hb dX10_asks_154 rfl hl (by decide) rfl (fun ls hl => ?_)
                obtain ⟨y_104, ey_104⟩ : ∃ q : Int32, q = x_33 + (1) := ⟨_, rfl⟩
                refine lv_iinc (v := y_104) (lv' := [(3, .int y_104), (2, .int z_103), (4, .int z_96), (0, .ref h0), (1, .int v1)]) hx hb dX10_asks_155 hl (k := 2) rfl (by rw [ey_104]; rfl) (by decide) rfl (fun ls hl => ?_)
                have ty_104 : y_104.toInt = x_33.toInt + (1) := ar_add rfl ti_1 ey_104 (by omega)
                refine lv_goto (tgt := 11) hx hb dX10_asks_158 (by decide) ?_
                exact ih_41 z_103 y_104 f_34 f_35 f_36 f_37 z_100 i_101 j_102 H locs ls (by omega) (by omega) (by show z_100.toInt + 3 - y_104.toInt ≤ 3 * (cU (upd (F 32) (Int32.toNatClampNeg v1) (vp_nar .boolean 1)) (n 11).toInt.toNat : Int); omega) hP hD hS (lv_sub hl [0, 1, 3, 4] rfl)
              · simp only [i_lt, i_le, i_eq, ti_600] at c_99
                refine lv_aload_n hx hb dX10_asks_77 rfl (lv_at hl 3 rfl) ?_
                refine va_get (D := (dC, dI)) (ci := 10) (v := .ref (X 55)) (C := RX10) (T := TX10) (N := 60) hx hb hg gb_10 hown hK hP 0 rfl rfl 55 (by decide) (hg _ gm_fieldLink_RX10_157_ErrandGuildModel_handledRun_AI_) (fun _ h9 => h9) rfl dX10_asks_78 ?_
                refine lv_aload_n hx hb dX10_asks_81 rfl (lv_at hl 3 rfl) ?_
                refine va_get (D := (dC, dI)) (ci := 10) (v := .int m_38) (C := RX10) (T := TX10) (N := 60) hx hb hg gb_10 hown hK hP 0 rfl rfl 47 (by decide) (hg _ gm_fieldLink_RX10_195_ErrandGuildModel_handledMany_I_) (fun _ h9 => h9) rfl dX10_asks_82 ?_
                refine lv_iload_n hx hb dX10_asks_85 rfl (lv_at hl 4 rfl) ?_
                refine va_iast hx hb hK hP hD hS 48 47 rfl rfl (vp_in_iff.mpr ⟨by omega, by omega⟩) dX10_asks_86 (fun H locs hP hD hS => ?_)
                have hP : va_P (dC, dI) vwCl (w10 h0 X C (upF (upF (upF (upF (upF F 32 (upd (F 32) (Int32.toNatClampNeg v1) (vp_nar .boolean 1))) 55 (upd f_34 (Int32.toNatClampNeg m_38) v1)) 56 f_35) 57 f_36) 58 f_37) (upn n 47 m_38)) H := hP
                have hD : va_D A (w10 h0 X C (upF (upF (upF (upF (upF F 32 (upd (F 32) (Int32.toNatClampNeg v1) (vp_nar .boolean 1))) 55 (upd f_34 (Int32.toNatClampNeg m_38) v1)) 56 f_35) 57 f_36) 58 f_37) (upn n 47 m_38)) := hD
                refine lv_aload_n hx hb dX10_asks_87 rfl (lv_at hl 3 rfl) ?_
                refine va_get (D := (dC, dI)) (ci := 10) (v := .ref (X 56)) (C := RX10) (T := TX10) (N := 60) hx hb hg gb_10 hown hK hP 0 rfl rfl 56 (by decide) (hg _ gm_fieldLink_RX10_160_ErrandGuildModel_handledLevel_AI_) (fun _ h9 => h9) rfl dX10_asks_88 ?_
                refine lv_aload_n hx hb dX10_asks_91 rfl (lv_at hl 3 rfl) ?_
                refine va_get (D := (dC, dI)) (ci := 10) (v := .int m_38) (C := RX10) (T := TX10) (N := 60) hx hb hg gb_10 hown hK hP 0 rfl rfl 47 (by decide) (hg _ gm_fieldLink_RX10_195_ErrandGuildModel_handledMany_I_) (fun _ h9 => h9) rfl dX10_asks_92 ?_
                refine lv_iload_n hx hb dX10_asks_95 rfl (lv_at hl 1 rfl) ?_
                refine va_iast hx hb hK hP hD hS 49 48 rfl rfl (vp_in_iff.mpr ⟨by omega, by omega⟩) dX10_asks_96 (fun H locs hP hD hS => ?_)
                have hP : va_P (dC, dI) vwCl (w10 h0 X C (upF (upF (upF (upF (upF F 32 (upd (F 32) (Int32.toNatClampNeg v1) (vp_nar .boolean 1))) 55 (upd f_34 (Int32.toNatClampNeg m_38) v1)) 56 (upd f_35 (Int32.toNatClampNeg m_38) x_33)) 57 f_36) 58 f_37) (upn n 47 m_38)) H := hP
                have hD : va_D A (w10 h0 X C (upF (upF (upF (upF (upF F 32 (upd (F 32) (Int32.toNatClampNeg v1) (vp_nar .boolean 1))) 55 (upd f_34 (Int32.toNatClampNeg m_38) v1)) 56 (upd f_35 (Int32.toNatClampNeg m_38) x_33)) 57 f_36) 58 f_37) (upn n 47 m_38)) := hD
                refine lv_aload_n hx hb dX10_asks_97 rfl (lv_at hl 3 rfl) ?_
                refine va_get (D := (dC, dI)) (ci := 10) (v := .ref (X 57)) (C := RX10) (T := TX10) (N := 60) hx hb hg gb_10 hown hK hP 0 rfl rfl 57 (by decide) (hg _ gm_fieldLink_RX10_163_ErrandGuildModel_handledEffect_AI_) (fun _ h9 => h9) rfl dX10_asks_98 ?_
                refine lv_aload_n hx hb dX10_asks_101 rfl (lv_at hl 3 rfl) ?_
                refine va_get (D := (dC, dI)) (ci := 10) (v := .int m_38) (C := RX10) (T := TX10) (N := 60) hx hb hg gb_10 hown hK hP 0 rfl rfl 47 (by decide) (hg _ gm_fieldLink_RX10_195_ErrandGuildModel_handledMany_I_) (fun _ h9 => h9) rfl dX10_asks_102 ?_
                refine lv_aload_n hx hb dX10_asks_105 rfl (lv_at hl 3 rfl) ?_
                refine va_get (D := (dC, dI)) (ci := 10) (v := .ref (X 8)) (C := RX10) (T := TX10) (N := 60) hx hb hg gb_10 hown hK hP 0 rfl rfl 8 (by decide) (hg _ gm_fieldLink_RX10_35_ErrandGuildModel_effect_AI_) (fun _ h9 => h9) rfl dX10_asks_106 ?_
                refine lv_iload hx hb dX10_asks_109 (lv_at hl 0 rfl) ?_
                refine va_iald hx hb hK hP 9 8 rfl rfl (vp_in_iff.mpr ⟨by omega, by omega⟩) dX10_asks_111 ?_
                refine lv_topi (fun z_105 ez_105 => ?_)
                have qz_105 := congrArg Int32.toInt ez_105
                refine va_iast hx hb hK hP hD hS 50 49 rfl rfl (vp_in_iff.mpr ⟨by omega, by omega⟩) dX10_asks_112 (fun H locs hP hD hS => ?_)
                have hP : va_P (dC, dI) vwCl (w10 h0 X C (upF (upF (upF (upF (upF F 32 (upd (F 32) (Int32.toNatClampNeg v1) (vp_nar .boolean 1))) 55 (upd f_34 (Int32.toNatClampNeg m_38) v1)) 56 (upd f_35 (Int32.toNatClampNeg m_38) x_33)) 57 (upd f_36 (Int32.toNatClampNeg m_38) z_105)) 58 f_37) (upn n 47 m_38)) H := hP
                have hD : va_D A (w10 h0 X C (upF (upF (upF (upF (upF F 32 (upd (F 32) (Int32.toNatClampNeg v1) (vp_nar .boolean 1))) 55 (upd f_34 (Int32.toNatClampNeg m_38) v1)) 56 (upd f_35 (Int32.toNatClampNeg m_38) x_33)) 57 (upd f_36 (Int32.toNatClampNeg m_38) z_105)) 58 f_37) (upn n 47 m_38)) := hD
                refine lv_aload_n hx hb dX10_asks_113 rfl (lv_at hl 3 rfl) ?_
                refine va_get (D := (dC, dI)) (ci := 10) (v := .ref (X 58)) (C := RX10) (T := TX10) (N := 60) hx hb hg gb_10 hown hK hP 0 rfl rfl 58 (by decide) (hg _ gm_fieldLink_RX10_166_ErrandGuildModel_handledThrew_AI_) (fun _ h9 => h9) rfl dX10_asks_114 ?_
                refine lv_aload_n hx hb dX10_asks_117 rfl (lv_at hl 3 rfl) ?_
                refine va_get (D := (dC, dI)) (ci := 10) (v := .int m_38) (C := RX10) (T := TX10) (N := 60) hx hb hg gb_10 hown hK hP 0 rfl rfl 47 (by decide) (hg _ gm_fieldLink_RX10_195_ErrandGuildModel_handledMany_I_) (fun _ h9 => h9) rfl dX10_asks_118 ?_
                refine lv_aload_n hx hb dX10_asks_121 rfl (lv_at hl 3 rfl) ?_
                refine va_get (D := (dC, dI)) (ci := 10) (v := .ref (X 7)) (C := RX10) (T := TX10) (N := 60) hx hb hg gb_10 hown hK hP 0 rfl rfl 7 (by decide) (hg _ gm_fieldLink_RX10_32_ErrandGuildModel_throwsOn_AZ_) (fun _ h9 => h9) rfl dX10_asks_122 ?_
                refine lv_iload hx hb dX10_asks_125 (lv_at hl 0 rfl) ?_
                refine va_zald hx hb hK hP 8 7 rfl rfl (vp_in_iff.mpr ⟨by omega, by omega⟩) dX10_asks_127 ?_
                refine lv_topi (fun z_106 ez_106 => ?_)
                have qz_106 := congrArg Int32.toInt ez_106
                refine lv_if_eq (tgt := 135) hx hb dX10_asks_128 (by decide) (fun c_107 => ?_) (fun c_107 => ?_)
                · simp only [i_lt, i_le, i_eq, ti_0] at c_107
                  refine lv_iconst (v := 0) hx hb dX10_asks_135 (by decide) ?_
                  refine va_iast hx hb hK hP hD hS 51 50 rfl rfl (vp_in_iff.mpr ⟨by omega, by omega⟩) dX10_asks_136 (fun H locs hP hD hS => ?_)
                  have hP : va_P (dC, dI) vwCl (w10 h0 X C (upF (upF (upF (upF (upF F 32 (upd (F 32) (Int32.toNatClampNeg v1) (vp_nar .boolean 1))) 55 (upd f_34 (Int32.toNatClampNeg m_38) v1)) 56 (upd f_35 (Int32.toNatClampNeg m_38) x_33)) 57 (upd f_36 (Int32.toNatClampNeg m_38) z_105)) 58 (upd f_37 (Int32.toNatClampNeg m_38) 0)) (upn n 47 m_38)) H := hP
                  have hD : va_D A (w10 h0 X C (upF (upF (upF (upF (upF F 32 (upd (F 32) (Int32.toNatClampNeg v1) (vp_nar .boolean 1))) 55 (upd f_34 (Int32.toNatClampNeg m_38) v1)) 56 (upd f_35 (Int32.toNatClampNeg m_38) x_33)) 57 (upd f_36 (Int32.toNatClampNeg m_38) z_105)) 58 (upd f_37 (Int32.toNatClampNeg m_38) 0)) (upn n 47 m_38)) := hD
                  refine lv_aload_n hx hb dX10_asks_137 rfl (lv_at hl 3 rfl) ?_
                  refine lv_aload_n hx hb dX10_asks_138 rfl (lv_at hl 3 rfl) ?_
                  refine va_get (D := (dC, dI)) (ci := 10) (v := .int m_38) (C := RX10) (T := TX10) (N := 60) hx hb hg gb_10 hown hK hP 0 rfl rfl 47 (by decide) (hg _ gm_fieldLink_RX10_195_ErrandGuildModel_handledMany_I_) (fun _ h9 => h9) rfl dX10_asks_139 ?_
                  refine lv_iconst (v := 1) hx hb dX10_asks_142 (by decide) ?_
                  refine lv_iadd hx hb dX10_asks_143 ?_
                  refine lv_topi (fun z_108 ez_108 => ?_)
                  have tz_108 : z_108.toInt = m_38.toInt + 1 := ar_add rfl ti_1 ez_108 (by omega)
                  refine va_put (D := (dC, dI)) (ci := 10) (v := .int z_108) (ty := .int) (C := RX10) (T := TX10) (N := 60) hx hb hg gb_10 tyX10 tyX10_ok nmX10 hown hK hP hD hS 0 rfl rfl 47 (by decide) (hg _ gm_fieldLink_RX10_195_ErrandGuildModel_handledMany_I_) (fun _ h9 => h9) rfl (by decide +kernel) rfl rfl (Nat.le_of_ble_eq_true rfl) dX10_asks_144 (fun H locs hP hD hS => ?_)
                  have hP : va_P (dC, dI) vwCl (w10 h0 X C (upF (upF (upF (upF (upF F 32 (upd (F 32) (Int32.toNatClampNeg v1) (vp_nar .boolean 1))) 55 (upd f_34 (Int32.toNatClampNeg m_38) v1)) 56 (upd f_35 (Int32.toNatClampNeg m_38) x_33)) 57 (upd f_36 (Int32.toNatClampNeg m_38) z_105)) 58 (upd f_37 (Int32.toNatClampNeg m_38) 0)) (upn n 47 z_108)) H := hP
                  have hD : va_D A (w10 h0 X C (upF (upF (upF (upF (upF F 32 (upd (F 32) (Int32.toNatClampNeg v1) (vp_nar .boolean 1))) 55 (upd f_34 (Int32.toNatClampNeg m_38) v1)) 56 (upd f_35 (Int32.toNatClampNeg m_38) x_33)) 57 (upd f_36 (Int32.toNatClampNeg m_38) z_105)) 58 (upd f_37 (Int32.toNatClampNeg m_38) 0)) (upn n 47 z_108)) := hD
                  have i_109 : 0 ≤ z_108.toInt ∧ z_108.toInt ≤ 600 := by omega
                  have j_110 : J6 (upd (F 32) (Int32.toNatClampNeg v1) (vp_nar .boolean 1)) z_108 (n 11) := by unfold J6; omega
                  refine lv_aload_n hx hb dX10_asks_147 rfl (lv_at hl 3 rfl) ?_
                  refine va_get (D := (dC, dI)) (ci := 10) (v := .ref (X 7)) (C := RX10) (T := TX10) (N := 60) hx hb hg gb_10 hown hK hP 0 rfl rfl 7 (by decide) (hg _ gm_fieldLink_RX10_32_ErrandGuildModel_throwsOn_AZ_) (fun _ h9 => h9) rfl dX10_asks_148 ?_
                  refine lv_iload hx hb dX10_asks_151 (lv_at hl 0 rfl) ?_
                  refine va_zald hx hb hK hP 8 7 rfl rfl (vp_in_iff.mpr ⟨by omega, by omega⟩) dX10_asks_153 ?_
                  refine lv_topi (fun z_111 ez_111 => ?_)
                  obtain rfl : z_106 = z_111 := ez_106.trans ez_111.symm
                  refine lv_istore_n (lv' := [(2, .int z_106), (4, .int z_96), (3, .int x_33), (0, .ref h0), (1, .int v1)]) hx hb dX10_asks_154 rfl hl (by decide) rfl (fun ls hl => ?_)
                  obtain ⟨y_112, ey_112⟩ : ∃ q : Int32, q = x_33 + (1) := ⟨_, rfl⟩
                  refine lv_iinc (v := y_112) (lv' := [(3, .int y_112), (2, .int z_106), (4, .int z_96), (0, .ref h0), (1, .int v1)]) hx hb dX10_asks_155 hl (k := 2) rfl (by rw [ey_112]; rfl) (by decide) rfl (fun ls hl => ?_)
                  have ty_112 : y_112.toInt = x_33.toInt + (1) := ar_add rfl ti_1 ey_112 (by omega)
                  refine lv_goto (tgt := 11) hx hb dX10_asks_158 (by decide) ?_
                  exact ih_41 z_106 y_112 (upd f_34 (Int32.toNatClampNeg m_38) v1) (upd f_35 (Int32.toNatClampNeg m_38) x_33) (upd f_36 (Int32.toNatClampNeg m_38) z_105) (upd f_37 (Int32.toNatClampNeg m_38) 0) z_108 i_109 j_110 H locs ls (by omega) (by omega) (by show z_108.toInt + 3 - y_112.toInt ≤ 3 * (cU (upd (F 32) (Int32.toNatClampNeg v1) (vp_nar .boolean 1)) (n 11).toInt.toNat : Int); omega) hP hD hS (lv_sub hl [0, 1, 3, 4] rfl)
                · simp only [i_lt, i_le, i_eq, ti_0] at c_107
                  refine lv_iconst (v := 1) hx hb dX10_asks_131 (by decide) ?_
                  refine lv_goto (tgt := 136) hx hb dX10_asks_132 (by decide) ?_
                  refine va_iast hx hb hK hP hD hS 51 50 rfl rfl (vp_in_iff.mpr ⟨by omega, by omega⟩) dX10_asks_136 (fun H locs hP hD hS => ?_)
                  have hP : va_P (dC, dI) vwCl (w10 h0 X C (upF (upF (upF (upF (upF F 32 (upd (F 32) (Int32.toNatClampNeg v1) (vp_nar .boolean 1))) 55 (upd f_34 (Int32.toNatClampNeg m_38) v1)) 56 (upd f_35 (Int32.toNatClampNeg m_38) x_33)) 57 (upd f_36 (Int32.toNatClampNeg m_38) z_105)) 58 (upd f_37 (Int32.toNatClampNeg m_38) 1)) (upn n 47 m_38)) H := hP
                  have hD : va_D A (w10 h0 X C (upF (upF (upF (upF (upF F 32 (upd (F 32) (Int32.toNatClampNeg v1) (vp_nar .boolean 1))) 55 (upd f_34 (Int32.toNatClampNeg m_38) v1)) 56 (upd f_35 (Int32.toNatClampNeg m_38) x_33)) 57 (upd f_36 (Int32.toNatClampNeg m_38) z_105)) 58 (upd f_37 (Int32.toNatClampNeg m_38) 1)) (upn n 47 m_38)) := hD
                  refine lv_aload_n hx hb dX10_asks_137 rfl (lv_at hl 3 rfl) ?_
                  refine lv_aload_n hx hb dX10_asks_138 rfl (lv_at hl 3 rfl) ?_
                  refine va_get (D := (dC, dI)) (ci := 10) (v := .int m_38) (C := RX10) (T := TX10) (N := 60) hx hb hg gb_10 hown hK hP 0 rfl rfl 47 (by decide) (hg _ gm_fieldLink_RX10_195_ErrandGuildModel_handledMany_I_) (fun _ h9 => h9) rfl dX10_asks_139 ?_
                  refine lv_iconst (v := 1) hx hb dX10_asks_142 (by decide) ?_
                  refine lv_iadd hx hb dX10_asks_143 ?_
                  refine lv_topi (fun z_113 ez_113 => ?_)
                  have tz_113 : z_113.toInt = m_38.toInt + 1 := ar_add rfl ti_1 ez_113 (by omega)
                  refine va_put (D := (dC, dI)) (ci := 10) (v := .int z_113) (ty := .int) (C := RX10) (T := TX10) (N := 60) hx hb hg gb_10 tyX10 tyX10_ok nmX10 hown hK hP hD hS 0 rfl rfl 47 (by decide) (hg _ gm_fieldLink_RX10_195_ErrandGuildModel_handledMany_I_) (fun _ h9 => h9) rfl (by decide +kernel) rfl rfl (Nat.le_of_ble_eq_true rfl) dX10_asks_144 (fun H locs hP hD hS => ?_)
                  have hP : va_P (dC, dI) vwCl (w10 h0 X C (upF (upF (upF (upF (upF F 32 (upd (F 32) (Int32.toNatClampNeg v1) (vp_nar .boolean 1))) 55 (upd f_34 (Int32.toNatClampNeg m_38) v1)) 56 (upd f_35 (Int32.toNatClampNeg m_38) x_33)) 57 (upd f_36 (Int32.toNatClampNeg m_38) z_105)) 58 (upd f_37 (Int32.toNatClampNeg m_38) 1)) (upn n 47 z_113)) H := hP
                  have hD : va_D A (w10 h0 X C (upF (upF (upF (upF (upF F 32 (upd (F 32) (Int32.toNatClampNeg v1) (vp_nar .boolean 1))) 55 (upd f_34 (Int32.toNatClampNeg m_38) v1)) 56 (upd f_35 (Int32.toNatClampNeg m_38) x_33)) 57 (upd f_36 (Int32.toNatClampNeg m_38) z_105)) 58 (upd f_37 (Int32.toNatClampNeg m_38) 1)) (upn n 47 z_113)) := hD
                  have i_114 : 0 ≤ z_113.toInt ∧ z_113.toInt ≤ 600 := by omega
                  have j_115 : J6 (upd (F 32) (Int32.toNatClampNeg v1) (vp_nar .boolean 1)) z_113 (n 11) := by unfold J6; omega
                  refine lv_aload_n hx hb dX10_asks_147 rfl (lv_at hl 3 rfl) ?_
                  refine va_get (D := (dC, dI)) (ci := 10) (v := .ref (X 7)) (C := RX10) (T := TX10) (N := 60) hx hb hg gb_10 hown hK hP 0 rfl rfl 7 (by decide) (hg _ gm_fieldLink_RX10_32_ErrandGuildModel_throwsOn_AZ_) (fun _ h9 => h9) rfl dX10_asks_148 ?_
                  refine lv_iload hx hb dX10_asks_151 (lv_at hl 0 rfl) ?_
                  refine va_zald hx hb hK hP 8 7 rfl rfl (vp_in_iff.mpr ⟨by omega, by omega⟩) dX10_asks_153 ?_
                  refine lv_topi (fun z_116 ez_116 => ?_)
                  obtain rfl : z_106 = z_116 := ez_106.trans ez_116.symm
                  refine lv_istore_n (lv' := [(2, .int z_106), (4, .int z_96), (3, .int x_33), (0, .ref h0), (1, .int v1)]) hx hb dX10_asks_154 rfl hl (by decide) rfl (fun ls hl => ?_)
                  obtain ⟨y_117, ey_117⟩ : ∃ q : Int32, q = x_33 + (1) := ⟨_, rfl⟩
                  refine lv_iinc (v := y_117) (lv' := [(3, .int y_117), (2, .int z_106), (4, .int z_96), (0, .ref h0), (1, .int v1)]) hx hb dX10_asks_155 hl (k := 2) rfl (by rw [ey_117]; rfl) (by decide) rfl (fun ls hl => ?_)
                  have ty_117 : y_117.toInt = x_33.toInt + (1) := ar_add rfl ti_1 ey_117 (by omega)
                  refine lv_goto (tgt := 11) hx hb dX10_asks_158 (by decide) ?_
                  exact ih_41 z_106 y_117 (upd f_34 (Int32.toNatClampNeg m_38) v1) (upd f_35 (Int32.toNatClampNeg m_38) x_33) (upd f_36 (Int32.toNatClampNeg m_38) z_105) (upd f_37 (Int32.toNatClampNeg m_38) 1) z_113 i_114 j_115 H locs ls (by omega) (by omega) (by show z_113.toInt + 3 - y_117.toInt ≤ 3 * (cU (upd (F 32) (Int32.toNatClampNeg v1) (vp_nar .boolean 1)) (n 11).toInt.toNat : Int); omega) hP hD hS (lv_sub hl [0, 1, 3, 4] rfl)
            · simp only [i_lt, i_le, i_eq, ti_0] at c_98
              refine lv_goto (tgt := 155) hx hb dX10_asks_64 (by decide) ?_
              obtain ⟨y_118, ey_118⟩ : ∃ q : Int32, q = x_33 + (1) := ⟨_, rfl⟩
              refine lv_iinc (v := y_118) (lv' := [(3, .int y_118), (4, .int z_96), (2, .int x_32), (0, .ref h0), (1, .int v1)]) hx hb dX10_asks_155 hl (k := 1) rfl (by rw [ey_118]; rfl) (by decide) rfl (fun ls hl => ?_)
              have ty_118 : y_118.toInt = x_33.toInt + (1) := ar_add rfl ti_1 ey_118 (by omega)
              refine lv_goto (tgt := 11) hx hb dX10_asks_158 (by decide) ?_
              exact ih_41 x_32 y_118 f_34 f_35 f_36 f_37 m_38 h_39 h_40 H locs ls (by omega) (by omega) (by show m_38.toInt + 3 - y_118.toInt ≤ 3 * (cU (upd (F 32) (Int32.toNatClampNeg v1) (vp_nar .boolean 1)) (n 11).toInt.toNat : Int); omega) hP hD hS (lv_sub hl [0, 2, 3, 4] rfl)
  exact L11 _ (1) (0) (F 55) (F 56) (F 57) (F 58) (n 47) i_18 j_31 _ _ _ (Nat.lt_succ_self _) (by have t_0 := ti_1; have t_1 := ti_0; omega) (by have t_0 := ti_1; have t_1 := ti_0; show (n 47).toInt + 3 - (0 : Int32).toInt ≤ 3 * (cU (upd (F 32) (Int32.toNatClampNeg v1) (vp_nar .boolean 1)) (n 11).toInt.toNat : Int); omega) hP hD hS (lv_sub hl [0, 1, 2, 3] rfl)

set_option maxHeartbeats 8000000 in
set_option maxRecDepth 100000 in
theorem c_X10_goes (l : Launch) (dC : Nat → ClassId) (dI : Nat → Nat → Nat) (kp : Int) (h0 : Nat) (X : Nat → Nat) (C : Nat → ClassId) (F : Nat → Nat → Int32) (n : Nat → Int32) (v1 : Int32) (v2 : Int32) (sz : Nat) (hI : I10 kp F n) (hr : 0 ≤ v1.toInt ∧ v1.toInt < 200) (hrn : v1.toInt < (n 11).toInt) (hs1 : (F 13 (Int32.toNatClampNeg v1)).toInt = 1) (hw_ : v2.toInt = 3 ∨ v2.toInt = 4) : Met l yX10_goes (.code yX10_goes cX10_goes 4 none :: gw) ({ frames := 1, cells := 0, slots := 0, locals := 24 }) (va_Pc [.ref h0, .int v1, .int v2] (fun U => U.heap.size = sz ∧ va_P (dC, dI) vwCl (w10 h0 X C F n) U.heap ∧ va_K (dC, dI) vwCl (t10 C) U ∧ va_D (fun _ => True) (w10 h0 X C F n) ∧ nx U)) (va_Qv (fun (u : (Nat → Nat → Int32) × (Nat → Int32)) => True) (fun u t => va_P (dC, dI) vwCl (w10 h0 X C u.1 u.2) t.heap ∧ va_D (va_A (w10 h0 X C F n) sz) (w10 h0 X C u.1 u.2) ∧ I10 kp u.1 u.2) (va_A (w10 h0 X C F n) sz)) 0 0 (va_A (w10 h0 X C F n) sz) := by
  refine Met.ofW (cc := cX10_goes) (maxL := 4) (ret := none) (by decide) rfl ?_
  intro p e s m args below meth c s₁ B hml hv
  obtain ⟨rfl, hsz, hP, hK, hD0, hN⟩ := hv
  have hx := B.exec
  have hb := B.bytes
  have hr := B.returns
  have hts := atoms_spec (ws := .code yX10_goes cX10_goes 4 none :: gw) B.pre
  have hg : ∀ w ∈ gw, w.before _ s = true := fun w h => hts w (List.mem_cons_of_mem _ h)
  have hown : s.vm.findClass RX10 = some m.cls := findClass_of_methodNamed B.named
  have hlocks := B.notSynchronized
  subst hsz
  have hD := hD0.self (sz := s.heap.size)
  generalize hAe : va_A (w10 h0 X C F n) s.heap.size = A at hD ⊢
  have hA : ∀ q : Nat, s.heap.size ≤ q → A q := fun q h => by rw [← hAe]; exact Or.inr h
  have hS : va_S A s.heap s.heap [] := va_S.rf
  have hP : va_P (dC, dI) vwCl (w10 h0 X C F n) s.heap := hP
  have hl := lv_entry ([.ref h0, .int v1, .int v2]) (n := 4) (Nat.le_of_ble_eq_true rfl)
  rw [lg_entry_eq]
  generalize (lg_sl ([.ref h0, .int v1, .int v2]) ++ List.replicate (4 - (lg_sl ([.ref h0, .int v1, .int v2])).length) Slot.unset).toArray = ls at hl ⊢
  have hl : lv_has ls 4 [(0, .ref h0), (1, .int v1), (2, .int v2)] := hl
  obtain ⟨b_1, b_2, b_3, b_4, b_5, b_6, b_7, b_8, b_9, b_10, b_11, b_12, i_13, i_14, i_15, i_16, i_17, i_18, i_19, j_20, j_21, j_22, j_23, j_24, j_25, j_26, j_27, j_28, j_29⟩ := id hI
  have h18 := j_21 (Int32.toNatClampNeg v1) hs1
  have h32 : (F 32 (Int32.toNatClampNeg v1)).toInt = 0 := Classical.byContradiction (fun h => by have h2 := j_28 (Int32.toNatClampNeg v1) h; omega)
  refine lv_aload_n hx hb dX10_goes_0 rfl (lv_at hl 0 rfl) ?_
  refine va_get (D := (dC, dI)) (ci := 10) (v := .ref (X 13)) (C := RX10) (T := TX10) (N := 60) hx hb hg gb_10 hown hK hP 0 rfl rfl 13 (by decide) (hg _ gm_fieldLink_RX10_45_ErrandGuildModel_state_AI_) (fun _ h9 => h9) rfl dX10_goes_1 ?_
  refine lv_iload_n hx hb dX10_goes_4 rfl (lv_at hl 1 rfl) ?_
  refine lv_iload_n hx hb dX10_goes_5 rfl (lv_at hl 2 rfl) ?_
  refine va_iast hx hb hK hP hD hS 11 10 rfl rfl (vp_in_iff.mpr ⟨by omega, by omega⟩) dX10_goes_6 (fun H locs hP hD hS => ?_)
  have hP : va_P (dC, dI) vwCl (w10 h0 X C (upF F 13 (upd (F 13) (Int32.toNatClampNeg v1) v2)) n) H := hP
  have hD : va_D A (w10 h0 X C (upF F 13 (upd (F 13) (Int32.toNatClampNeg v1) v2)) n) := hD
  have b_30 := bd_upd b_3 (Int32.toNatClampNeg v1) (x := v2) (by omega) (by omega)
  have j_31 : J1 (upd (F 13) (Int32.toNatClampNeg v1) v2) (F 18) := J1_sa j_21 (Int32.toNatClampNeg v1) (fun h => by omega)
  have j_32 : J8 (F 32) (upd (F 13) (Int32.toNatClampNeg v1) v2) := J8_sa j_28 (Int32.toNatClampNeg v1) (Or.inl h32)
  refine lv_aload_n hx hb dX10_goes_7 rfl (lv_at hl 0 rfl) ?_
  refine va_get (D := (dC, dI)) (ci := 10) (v := .ref (X 22)) (C := RX10) (T := TX10) (N := 60) hx hb hg gb_10 hown hK hP 0 rfl rfl 22 (by decide) (hg _ gm_fieldLink_RX10_72_ErrandGuildModel_endedAt_AI_) (fun _ h9 => h9) rfl dX10_goes_8 ?_
  refine lv_iload_n hx hb dX10_goes_11 rfl (lv_at hl 1 rfl) ?_
  refine lv_aload_n hx hb dX10_goes_12 rfl (lv_at hl 0 rfl) ?_
  refine va_get (D := (dC, dI)) (ci := 10) (v := .int (n 12)) (C := RX10) (T := TX10) (N := 60) hx hb hg gb_10 hown hK hP 0 rfl rfl 12 (by decide) (hg _ gm_fieldLink_RX10_186_ErrandGuildModel_beats_I_) (fun _ h9 => h9) rfl dX10_goes_13 ?_
  refine va_iast hx hb hK hP hD hS 20 19 rfl rfl (vp_in_iff.mpr ⟨by omega, by omega⟩) dX10_goes_16 (fun H locs hP hD hS => ?_)
  have hP : va_P (dC, dI) vwCl (w10 h0 X C (upF (upF F 13 (upd (F 13) (Int32.toNatClampNeg v1) v2)) 22 (upd (F 22) (Int32.toNatClampNeg v1) (n 12))) n) H := hP
  have hD : va_D A (w10 h0 X C (upF (upF F 13 (upd (F 13) (Int32.toNatClampNeg v1) v2)) 22 (upd (F 22) (Int32.toNatClampNeg v1) (n 12))) n) := hD
  refine lv_aload_n hx hb dX10_goes_17 rfl (lv_at hl 0 rfl) ?_
  refine va_get (D := (dC, dI)) (ci := 10) (v := .ref (X 36)) (C := RX10) (T := TX10) (N := 60) hx hb hg gb_10 hown hK hP 0 rfl rfl 36 (by decide) (hg _ gm_fieldLink_RX10_114_ErrandGuildModel_bindMany_AI_) (fun _ h9 => h9) rfl dX10_goes_18 ?_
  refine lv_iload_n hx hb dX10_goes_21 rfl (lv_at hl 1 rfl) ?_
  refine lv_iconst (v := 0) hx hb dX10_goes_22 (by decide) ?_
  refine va_iast hx hb hK hP hD hS 34 33 rfl rfl (vp_in_iff.mpr ⟨by omega, by omega⟩) dX10_goes_23 (fun H locs hP hD hS => ?_)
  have hP : va_P (dC, dI) vwCl (w10 h0 X C (upF (upF (upF F 13 (upd (F 13) (Int32.toNatClampNeg v1) v2)) 22 (upd (F 22) (Int32.toNatClampNeg v1) (n 12))) 36 (upd (F 36) (Int32.toNatClampNeg v1) 0)) n) H := hP
  have hD : va_D A (w10 h0 X C (upF (upF (upF F 13 (upd (F 13) (Int32.toNatClampNeg v1) v2)) 22 (upd (F 22) (Int32.toNatClampNeg v1) (n 12))) 36 (upd (F 36) (Int32.toNatClampNeg v1) 0)) n) := hD
  have b_33 := bd_upd b_10 (Int32.toNatClampNeg v1) (x := 0) (by have t_ := ti_0; omega) (by have t_ := ti_0; omega)
  have j_34 : J2 (upd (F 36) (Int32.toNatClampNeg v1) 0) (F 20) := J2_tm j_23 (Int32.toNatClampNeg v1) (by have := (b_8 (Int32.toNatClampNeg v1)).1; have t_0 := ti_0; omega)
  have j_35 : J5 (F 39) (upd (F 36) (Int32.toNatClampNeg v1) 0) (F 41) (F 43) (F 42) := J5_bm j_25 (Int32.toNatClampNeg v1) (Or.inr (by have t_0 := ti_0; omega))
  refine lv_aload_n hx hb dX10_goes_24 rfl (lv_at hl 0 rfl) ?_
  refine va_get (D := (dC, dI)) (ci := 10) (v := .ref (X 39)) (C := RX10) (T := TX10) (N := 60) hx hb hg gb_10 hown hK hP 0 rfl rfl 39 (by decide) (hg _ gm_fieldLink_RX10_123_ErrandGuildModel_tryMany_AI_) (fun _ h9 => h9) rfl dX10_goes_25 ?_
  refine lv_iload_n hx hb dX10_goes_28 rfl (lv_at hl 1 rfl) ?_
  refine lv_iconst (v := 0) hx hb dX10_goes_29 (by decide) ?_
  refine va_iast hx hb hK hP hD hS 37 36 rfl rfl (vp_in_iff.mpr ⟨by omega, by omega⟩) dX10_goes_30 (fun H locs hP hD hS => ?_)
  have hP : va_P (dC, dI) vwCl (w10 h0 X C (upF (upF (upF (upF F 13 (upd (F 13) (Int32.toNatClampNeg v1) v2)) 22 (upd (F 22) (Int32.toNatClampNeg v1) (n 12))) 36 (upd (F 36) (Int32.toNatClampNeg v1) 0)) 39 (upd (F 39) (Int32.toNatClampNeg v1) 0)) n) H := hP
  have hD : va_D A (w10 h0 X C (upF (upF (upF (upF F 13 (upd (F 13) (Int32.toNatClampNeg v1) v2)) 22 (upd (F 22) (Int32.toNatClampNeg v1) (n 12))) 36 (upd (F 36) (Int32.toNatClampNeg v1) 0)) 39 (upd (F 39) (Int32.toNatClampNeg v1) 0)) n) := hD
  have b_36 := bd_upd b_11 (Int32.toNatClampNeg v1) (x := 0) (by have t_ := ti_0; omega) (by have t_ := ti_0; omega)
  have j_37 : J2 (upd (F 39) (Int32.toNatClampNeg v1) 0) (F 20) := J2_tm j_22 (Int32.toNatClampNeg v1) (by have := (b_8 (Int32.toNatClampNeg v1)).1; have t_0 := ti_0; omega)
  have j_38 : J4 (upd (F 39) (Int32.toNatClampNeg v1) 0) (F 41) := J4_tm j_24 (Int32.toNatClampNeg v1) (Or.inr (by have t_0 := ti_0; omega))
  have j_39 : J5 (upd (F 39) (Int32.toNatClampNeg v1) 0) (upd (F 36) (Int32.toNatClampNeg v1) 0) (F 41) (F 43) (F 42) := J5_tm j_35 (Int32.toNatClampNeg v1) (Or.inr (by have t_0 := ti_0; omega))
  refine lv_aload_n hx hb dX10_goes_31 rfl (lv_at hl 0 rfl) ?_
  refine lv_iload_n hx hb dX10_goes_32 rfl (lv_at hl 1 rfl) ?_
  have hFc := free_all hD hS hA
  refine va_callv (va_runV (As := [.int v1]) (rest := []) ⟨hx, hb, hml, hown, hg⟩ (c_X10_leaves l dC dI kp h0 X C (upF (upF (upF (upF F 13 (upd (F 13) (Int32.toNatClampNeg v1) v2)) 22 (upd (F 22) (Int32.toNatClampNeg v1) (n 12))) 36 (upd (F 36) (Int32.toNatClampNeg v1) 0)) 39 (upd (F 39) (Int32.toNatClampNeg v1) 0)) n v1 H.size ⟨b_1, b_2, b_30, b_4, b_5, b_6, b_7, b_8, b_9, b_33, b_36, b_12, i_13, i_14, i_15, i_16, i_17, i_18, i_19, j_20, j_31, j_37, j_34, j_38, j_39, j_26, j_27, j_32, j_29⟩ (by omega) (by show ¬ ((upd (F 13) (Int32.toNatClampNeg v1) v2) (Int32.toNatClampNeg v1)).toInt = 1; rw [upd_eq]; have t_2 := ti_2; have t_3 := ti_3; have t_4 := ti_4; omega) (by show 0 ≤ (F 18 (Int32.toNatClampNeg v1)).toInt; exact h18)) (cwV 1 hg (gw_V gm_methodLink_RX10_211_yX10_leaves gm_instanceMethod_yX10_leaves gm_selects_RX10_yX10_leaves_yX10_leaves gm_initialized_RX10 gm_code_yX10_leaves_cX10_leaves_2_none) rfl rfl rfl (by decide +kernel) ⟨Nat.le_of_ble_eq_true rfl, Nat.le_of_ble_eq_true rfl⟩) ⟨fun a U g mk q => by obtain ⟨q0, q1, qP, qK, qD, qN⟩ := q; exact ⟨q0, q1, qP, va_K.moved (u := U) (U := U.calling g mk a) (Vm.Alike.refl U.vm) qK, qD, nx_same (u := U) (U := U.calling g mk a) rfl qN⟩, va_recv hK hP (ci := 10) (q0 := 0) rfl rfl, fun U hU hW => ⟨rfl, by rw [hU], by rw [hU]; exact hP, va_K.moved hW.alike hK, hD.weaken (fun _ _ _ _ => trivial), nx_warm hW hN⟩⟩ rfl rfl hl.1 rfl (lv_room (Nat.le_of_ble_eq_true rfl)) dX10_goes_33 ⟨Nat.le_of_ble_eq_true rfl, Nat.le_of_ble_eq_true rfl⟩) hS (fun q _ h => hFc q h) hFc (fun u_41 t H1 locs ht hvm hw hB hz1 hk1 hS => ?_)
  obtain ⟨F_42, n_43⟩ := u_41
  obtain ⟨hP, hD, hI_44⟩ := hB
  have hI_44 : I10 kp F_42 n_43 := hI_44
  obtain ⟨b_45, b_46, b_47, b_48, b_49, b_50, b_51, b_52, b_53, b_54, b_55, b_56, i_57, i_58, i_59, i_60, i_61, i_62, i_63, j_64, j_65, j_66, j_67, j_68, j_69, j_70, j_71, j_72, j_73⟩ := id hI_44
  rw [ht] at hP
  have hD := hD.weaken (fun k q _ h => hFc _ h)
  generalize H1 = H at hP hS ⊢
  have hP : va_P (dC, dI) vwCl (w10 h0 X C F_42 n_43) H := hP
  have hD : va_D A (w10 h0 X C F_42 n_43) := hD
  have w_74 : (F_42 13 (Int32.toNatClampNeg v1)).toInt = ((upd (F 13) (Int32.toNatClampNeg v1) v2) (Int32.toNatClampNeg v1)).toInt ∧ (F_42 32 (Int32.toNatClampNeg v1)).toInt = ((F 32) (Int32.toNatClampNeg v1)).toInt ∧ (n_43 11).toInt = ((n 11)).toInt := hw
  try simp only [upd_eq] at w_74
  refine lv_iload_n hx hb dX10_goes_36 rfl (lv_at hl 2 rfl) ?_
  refine lv_iconst (v := 4) hx hb dX10_goes_37 (by decide) ?_
  refine lv_icmp_ne (tgt := 78) hx hb dX10_goes_38 (by decide) (fun c_75 => ?_) (fun c_75 => ?_)
  · simp only [i_lt, i_le, i_eq, ti_4] at c_75
    refine lv_iload_n hx hb dX10_goes_78 rfl (lv_at hl 1 rfl) ?_
    refine lv_iconst (v := 1) hx hb dX10_goes_79 (by decide) ?_
    refine lv_iadd hx hb dX10_goes_80 ?_
    refine lv_topi (fun z_76 ez_76 => ?_)
    have tz_76 : z_76.toInt = v1.toInt + 1 := ar_add rfl ti_1 ez_76 (by omega)
    refine lv_istore_n (lv' := [(3, .int z_76), (0, .ref h0), (1, .int v1), (2, .int v2)]) hx hb dX10_goes_81 rfl hl (by decide) rfl (fun ls hl => ?_)
    have L82 : ∀ (fuel : Nat) (x_77 : Int32) (F_78 : Nat → Nat → Int32) (n_79 : Nat → Int32) (hI_80 : I10 kp F_78 n_79) (H : Heap) (locs : List Loc) (ls : Array Slot), (201 - x_77.toInt).toNat < fuel → 1 ≤ x_77.toInt ∧ x_77.toInt ≤ 200 → va_P (dC, dI) vwCl (w10 h0 X C F_78 n_79) H → va_D A (w10 h0 X C F_78 n_79) → va_S A s.heap H locs → lv_has ls 4 [(3, .int x_77), (0, .ref h0), (1, .int v1), (2, .int v2)] → W p l e (headSpec (.code yX10_goes cX10_goes 4 none :: gw) ({ frames := 1, cells := 0, slots := 0, locals := 24 })).room s m ([.ref h0, .int v1, .int v2] : List Value).toArray below meth c H locs 0 0 (MQ below (va_Qv (fun (u : (Nat → Nat → Int32) × (Nat → Int32)) => True) (fun u t => va_P (dC, dI) vwCl (w10 h0 X C u.1 u.2) t.heap ∧ va_D A (w10 h0 X C u.1 u.2) ∧ I10 kp u.1 u.2) A) ([.ref h0, .int v1, .int v2] : List Value).toArray s 0 0 A) (F0 m 82 ls []) := by
      intro fuel
      induction fuel with
      | zero => intro x_77 F_78 n_79 hI_80 H locs ls hm; exact absurd hm (Nat.not_lt_zero _)
      | succ fuel_82 ih_81 =>
        intro x_77 F_78 n_79 hI_80 H locs ls hm_84 v_83 hP hD hS hl
        obtain ⟨b_85, b_86, b_87, b_88, b_89, b_90, b_91, b_92, b_93, b_94, b_95, b_96, i_97, i_98, i_99, i_100, i_101, i_102, i_103, j_104, j_105, j_106, j_107, j_108, j_109, j_110, j_111, j_112, j_113⟩ := id hI_80
        refine lv_iload_n hx hb dX10_goes_82 rfl (lv_at hl 0 rfl) ?_
        refine lv_aload_n hx hb dX10_goes_83 rfl (lv_at hl 1 rfl) ?_
        refine va_get (D := (dC, dI)) (ci := 10) (v := .int (n_79 11)) (C := RX10) (T := TX10) (N := 60) hx hb hg gb_10 hown hK hP 0 rfl rfl 11 (by decide) (hg _ gm_fieldLink_RX10_176_ErrandGuildModel_runs_I_) (fun _ h9 => h9) rfl dX10_goes_84 ?_
        refine lv_icmp_ge (tgt := 139) hx hb dX10_goes_87 (by decide) (fun c_114 => ?_) (fun c_114 => ?_)
        · simp only [i_lt, i_le, i_eq] at c_114
          exact W.vret hx hb hr (fun t ht hW => ⟨⟨(F_78, n_79), rfl, trivial, by rw [ht]; exact hP, hD, ⟨b_85, b_86, b_87, b_88, b_89, b_90, b_91, b_92, b_93, b_94, b_95, b_96, i_97, i_98, i_99, i_100, i_101, i_102, i_103, j_104, j_105, j_106, j_107, j_108, j_109, j_110, j_111, j_112, j_113⟩⟩, hS.F ht⟩) hS.2.2 dX10_goes_139
        · simp only [i_lt, i_le, i_eq] at c_114
          refine lv_aload_n hx hb dX10_goes_90 rfl (lv_at hl 1 rfl) ?_
          refine va_get (D := (dC, dI)) (ci := 10) (v := .ref (X 15)) (C := RX10) (T := TX10) (N := 60) hx hb hg gb_10 hown hK hP 0 rfl rfl 15 (by decide) (hg _ gm_fieldLink_RX10_51_ErrandGuildModel_giver_AI_) (fun _ h9 => h9) rfl dX10_goes_91 ?_
          refine lv_iload_n hx hb dX10_goes_94 rfl (lv_at hl 0 rfl) ?_
          refine va_iald hx hb hK hP 13 12 rfl rfl (vp_in_iff.mpr ⟨by omega, by omega⟩) dX10_goes_95 ?_
          refine lv_topi (fun z_115 ez_115 => ?_)
          have qz_115 := congrArg Int32.toInt ez_115
          have bz_115 := bd_at b_89 ez_115
          refine lv_iload_n hx hb dX10_goes_96 rfl (lv_at hl 2 rfl) ?_
          refine lv_icmp_ne (tgt := 133) hx hb dX10_goes_97 (by decide) (fun c_116 => ?_) (fun c_116 => ?_)
          · simp only [i_lt, i_le, i_eq] at c_116
            obtain ⟨y_117, ey_117⟩ : ∃ q : Int32, q = x_77 + (1) := ⟨_, rfl⟩
            refine lv_iinc (v := y_117) (lv' := [(3, .int y_117), (0, .ref h0), (1, .int v1), (2, .int v2)]) hx hb dX10_goes_133 hl (k := 0) rfl (by rw [ey_117]; rfl) (by decide) rfl (fun ls hl => ?_)
            have ty_117 : y_117.toInt = x_77.toInt + (1) := ar_add rfl ti_1 ey_117 (by omega)
            refine lv_goto (tgt := 82) hx hb dX10_goes_136 (by decide) ?_
            exact ih_81 y_117 F_78 n_79 (I10_mono (k := kp) ⟨b_85, b_86, b_87, b_88, b_89, b_90, b_91, b_92, b_93, b_94, b_95, b_96, i_97, i_98, i_99, i_100, i_101, i_102, i_103, j_104, j_105, j_106, j_107, j_108, j_109, j_110, j_111, j_112, j_113⟩ (by omega)) H locs ls (by omega) (by omega) hP hD hS (lv_sub hl [0, 1, 2, 3] rfl)
          · simp only [i_lt, i_le, i_eq] at c_116
            refine lv_aload_n hx hb dX10_goes_100 rfl (lv_at hl 1 rfl) ?_
            refine va_get (D := (dC, dI)) (ci := 10) (v := .ref (X 13)) (C := RX10) (T := TX10) (N := 60) hx hb hg gb_10 hown hK hP 0 rfl rfl 13 (by decide) (hg _ gm_fieldLink_RX10_45_ErrandGuildModel_state_AI_) (fun _ h9 => h9) rfl dX10_goes_101 ?_
            refine lv_iload_n hx hb dX10_goes_104 rfl (lv_at hl 0 rfl) ?_
            refine va_iald hx hb hK hP 11 10 rfl rfl (vp_in_iff.mpr ⟨by omega, by omega⟩) dX10_goes_105 ?_
            refine lv_topi (fun z_118 ez_118 => ?_)
            have qz_118 := congrArg Int32.toInt ez_118
            have bz_118 := bd_at b_87 ez_118
            refine lv_iconst (v := 4) hx hb dX10_goes_106 (by decide) ?_
            refine lv_icmp_ne (tgt := 133) hx hb dX10_goes_107 (by decide) (fun c_119 => ?_) (fun c_119 => ?_)
            · simp only [i_lt, i_le, i_eq, ti_4] at c_119
              obtain ⟨y_120, ey_120⟩ : ∃ q : Int32, q = x_77 + (1) := ⟨_, rfl⟩
              refine lv_iinc (v := y_120) (lv' := [(3, .int y_120), (0, .ref h0), (1, .int v1), (2, .int v2)]) hx hb dX10_goes_133 hl (k := 0) rfl (by rw [ey_120]; rfl) (by decide) rfl (fun ls hl => ?_)
              have ty_120 : y_120.toInt = x_77.toInt + (1) := ar_add rfl ti_1 ey_120 (by omega)
              refine lv_goto (tgt := 82) hx hb dX10_goes_136 (by decide) ?_
              exact ih_81 y_120 F_78 n_79 (I10_mono (k := kp) ⟨b_85, b_86, b_87, b_88, b_89, b_90, b_91, b_92, b_93, b_94, b_95, b_96, i_97, i_98, i_99, i_100, i_101, i_102, i_103, j_104, j_105, j_106, j_107, j_108, j_109, j_110, j_111, j_112, j_113⟩ (by omega)) H locs ls (by omega) (by omega) hP hD hS (lv_sub hl [0, 1, 2, 3] rfl)
            · simp only [i_lt, i_le, i_eq, ti_4] at c_119
              refine lv_aload_n hx hb dX10_goes_110 rfl (lv_at hl 1 rfl) ?_
              refine va_get (D := (dC, dI)) (ci := 10) (v := .ref (X 26)) (C := RX10) (T := TX10) (N := 60) hx hb hg gb_10 hown hK hP 0 rfl rfl 26 (by decide) (hg _ gm_fieldLink_RX10_84_ErrandGuildModel_wasWaited_AZ_) (fun _ h9 => h9) rfl dX10_goes_111 ?_
              refine lv_iload_n hx hb dX10_goes_114 rfl (lv_at hl 0 rfl) ?_
              refine va_zald hx hb hK hP 24 23 rfl rfl (vp_in_iff.mpr ⟨by omega, by omega⟩) dX10_goes_115 ?_
              refine lv_topi (fun z_121 ez_121 => ?_)
              have qz_121 := congrArg Int32.toInt ez_121
              refine lv_if_ne (tgt := 133) hx hb dX10_goes_116 (by decide) (fun c_122 => ?_) (fun c_122 => ?_)
              · simp only [i_lt, i_le, i_eq, ti_0] at c_122
                obtain ⟨y_123, ey_123⟩ : ∃ q : Int32, q = x_77 + (1) := ⟨_, rfl⟩
                refine lv_iinc (v := y_123) (lv' := [(3, .int y_123), (0, .ref h0), (1, .int v1), (2, .int v2)]) hx hb dX10_goes_133 hl (k := 0) rfl (by rw [ey_123]; rfl) (by decide) rfl (fun ls hl => ?_)
                have ty_123 : y_123.toInt = x_77.toInt + (1) := ar_add rfl ti_1 ey_123 (by omega)
                refine lv_goto (tgt := 82) hx hb dX10_goes_136 (by decide) ?_
                exact ih_81 y_123 F_78 n_79 (I10_mono (k := kp) ⟨b_85, b_86, b_87, b_88, b_89, b_90, b_91, b_92, b_93, b_94, b_95, b_96, i_97, i_98, i_99, i_100, i_101, i_102, i_103, j_104, j_105, j_106, j_107, j_108, j_109, j_110, j_111, j_112, j_113⟩ (by omega)) H locs ls (by omega) (by omega) hP hD hS (lv_sub hl [0, 1, 2, 3] rfl)
              · simp only [i_lt, i_le, i_eq, ti_0] at c_122
                refine lv_aload_n hx hb dX10_goes_119 rfl (lv_at hl 1 rfl) ?_
                refine va_get (D := (dC, dI)) (ci := 10) (v := .ref (X 32)) (C := RX10) (T := TX10) (N := 60) hx hb hg gb_10 hown hK hP 0 rfl rfl 32 (by decide) (hg _ gm_fieldLink_RX10_102_ErrandGuildModel_isUncaught_AZ_) (fun _ h9 => h9) rfl dX10_goes_120 ?_
                refine lv_iload_n hx hb dX10_goes_123 rfl (lv_at hl 0 rfl) ?_
                refine va_zald hx hb hK hP 30 29 rfl rfl (vp_in_iff.mpr ⟨by omega, by omega⟩) dX10_goes_124 ?_
                refine lv_topi (fun z_124 ez_124 => ?_)
                have qz_124 := congrArg Int32.toInt ez_124
                refine lv_if_ne (tgt := 133) hx hb dX10_goes_125 (by decide) (fun c_125 => ?_) (fun c_125 => ?_)
                · simp only [i_lt, i_le, i_eq, ti_0] at c_125
                  obtain ⟨y_126, ey_126⟩ : ∃ q : Int32, q = x_77 + (1) := ⟨_, rfl⟩
                  refine lv_iinc (v := y_126) (lv' := [(3, .int y_126), (0, .ref h0), (1, .int v1), (2, .int v2)]) hx hb dX10_goes_133 hl (k := 0) rfl (by rw [ey_126]; rfl) (by decide) rfl (fun ls hl => ?_)
                  have ty_126 : y_126.toInt = x_77.toInt + (1) := ar_add rfl ti_1 ey_126 (by omega)
                  refine lv_goto (tgt := 82) hx hb dX10_goes_136 (by decide) ?_
                  exact ih_81 y_126 F_78 n_79 (I10_mono (k := kp) ⟨b_85, b_86, b_87, b_88, b_89, b_90, b_91, b_92, b_93, b_94, b_95, b_96, i_97, i_98, i_99, i_100, i_101, i_102, i_103, j_104, j_105, j_106, j_107, j_108, j_109, j_110, j_111, j_112, j_113⟩ (by omega)) H locs ls (by omega) (by omega) hP hD hS (lv_sub hl [0, 1, 2, 3] rfl)
                · simp only [i_lt, i_le, i_eq, ti_0] at c_125
                  refine lv_aload_n hx hb dX10_goes_128 rfl (lv_at hl 1 rfl) ?_
                  refine lv_iload_n hx hb dX10_goes_129 rfl (lv_at hl 0 rfl) ?_
                  have hFc := free_all hD hS hA
                  refine va_callv (va_runV (As := [.int x_77]) (rest := []) ⟨hx, hb, hml, hown, hg⟩ (c_X10_asks l dC dI kp h0 X C F_78 n_79 x_77 H.size ⟨b_85, b_86, b_87, b_88, b_89, b_90, b_91, b_92, b_93, b_94, b_95, b_96, i_97, i_98, i_99, i_100, i_101, i_102, i_103, j_104, j_105, j_106, j_107, j_108, j_109, j_110, j_111, j_112, j_113⟩ (by omega) (by show x_77.toInt < ((n_79 11)).toInt; omega) (by show ((F_78 32) (Int32.toNatClampNeg x_77)).toInt = 0; omega) (by show ((F_78 13) (Int32.toNatClampNeg x_77)).toInt = 4; omega)) (cwV 1 hg (gw_V gm_methodLink_RX10_218_yX10_asks gm_instanceMethod_yX10_asks gm_selects_RX10_yX10_asks_yX10_asks gm_initialized_RX10 gm_code_yX10_asks_cX10_asks_5_none) rfl rfl rfl (by decide +kernel) ⟨Nat.le_of_ble_eq_true rfl, Nat.le_of_ble_eq_true rfl⟩) ⟨fun a U g mk q => by obtain ⟨q0, q1, qP, qK, qD, qN⟩ := q; exact ⟨q0, q1, qP, va_K.moved (u := U) (U := U.calling g mk a) (Vm.Alike.refl U.vm) qK, qD, nx_same (u := U) (U := U.calling g mk a) rfl qN⟩, va_recv hK hP (ci := 10) (q0 := 0) rfl rfl, fun U hU hW => ⟨rfl, by rw [hU], by rw [hU]; exact hP, va_K.moved hW.alike hK, hD.weaken (fun _ _ _ _ => trivial), nx_warm hW hN⟩⟩ rfl rfl hl.1 rfl (lv_room (Nat.le_of_ble_eq_true rfl)) dX10_goes_130 ⟨Nat.le_of_ble_eq_true rfl, Nat.le_of_ble_eq_true rfl⟩) hS (fun q _ h => hFc q h) hFc (fun u_128 t H1 locs ht hvm hw hB hz1 hk1 hS => ?_)
                  obtain ⟨F_129, n_130⟩ := u_128
                  obtain ⟨hP, hD, hI_131⟩ := hB
                  have hI_131 : I10 kp F_129 n_130 := hI_131
                  obtain ⟨b_132, b_133, b_134, b_135, b_136, b_137, b_138, b_139, b_140, b_141, b_142, b_143, i_144, i_145, i_146, i_147, i_148, i_149, i_150, j_151, j_152, j_153, j_154, j_155, j_156, j_157, j_158, j_159, j_160⟩ := id hI_131
                  rw [ht] at hP
                  have hD := hD.weaken (fun k q _ h => hFc _ h)
                  generalize H1 = H at hP hS ⊢
                  have hP : va_P (dC, dI) vwCl (w10 h0 X C F_129 n_130) H := hP
                  have hD : va_D A (w10 h0 X C F_129 n_130) := hD
                  obtain ⟨y_161, ey_161⟩ : ∃ q : Int32, q = x_77 + (1) := ⟨_, rfl⟩
                  refine lv_iinc (v := y_161) (lv' := [(3, .int y_161), (0, .ref h0), (1, .int v1), (2, .int v2)]) hx hb dX10_goes_133 hl (k := 0) rfl (by rw [ey_161]; rfl) (by decide) rfl (fun ls hl => ?_)
                  have ty_161 : y_161.toInt = x_77.toInt + (1) := ar_add rfl ti_1 ey_161 (by omega)
                  refine lv_goto (tgt := 82) hx hb dX10_goes_136 (by decide) ?_
                  exact ih_81 y_161 F_129 n_130 (I10_mono (k := kp) ⟨b_132, b_133, b_134, b_135, b_136, b_137, b_138, b_139, b_140, b_141, b_142, b_143, i_144, i_145, i_146, i_147, i_148, i_149, i_150, j_151, j_152, j_153, j_154, j_155, j_156, j_157, j_158, j_159, j_160⟩ (by omega)) H locs ls (by omega) (by omega) hP hD hS (lv_sub hl [0, 1, 2, 3] rfl)
    exact L82 _ z_76 F_42 n_43 (I10_mono (k := kp) ⟨b_45, b_46, b_47, b_48, b_49, b_50, b_51, b_52, b_53, b_54, b_55, b_56, i_57, i_58, i_59, i_60, i_61, i_62, i_63, j_64, j_65, j_66, j_67, j_68, j_69, j_70, j_71, j_72, j_73⟩ (by omega)) _ _ _ (Nat.lt_succ_self _) (by omega) hP hD hS (lv_sub hl [0, 1, 2, 3] rfl)
  · simp only [i_lt, i_le, i_eq, ti_4] at c_75
    refine lv_aload_n hx hb dX10_goes_41 rfl (lv_at hl 0 rfl) ?_
    refine va_get (D := (dC, dI)) (ci := 10) (v := .ref (X 15)) (C := RX10) (T := TX10) (N := 60) hx hb hg gb_10 hown hK hP 0 rfl rfl 15 (by decide) (hg _ gm_fieldLink_RX10_51_ErrandGuildModel_giver_AI_) (fun _ h9 => h9) rfl dX10_goes_42 ?_
    refine lv_iload_n hx hb dX10_goes_45 rfl (lv_at hl 1 rfl) ?_
    refine va_iald hx hb hK hP 13 12 rfl rfl (vp_in_iff.mpr ⟨by omega, by omega⟩) dX10_goes_46 ?_
    refine lv_topi (fun z_162 ez_162 => ?_)
    have qz_162 := congrArg Int32.toInt ez_162
    have bz_162 := bd_at b_49 ez_162
    refine lv_iconst (v := -1) hx hb dX10_goes_47 (by decide) ?_
    refine lv_icmp_eq (tgt := 73) hx hb dX10_goes_48 (by decide) (fun c_163 => ?_) (fun c_163 => ?_)
    · simp only [i_lt, i_le, i_eq, ti_m1] at c_163
      refine lv_aload_n hx hb dX10_goes_73 rfl (lv_at hl 0 rfl) ?_
      refine lv_iload_n hx hb dX10_goes_74 rfl (lv_at hl 1 rfl) ?_
      have hFc := free_all hD hS hA
      refine va_callv (va_runV (As := [.int v1]) (rest := []) ⟨hx, hb, hml, hown, hg⟩ (c_X10_asks l dC dI kp h0 X C F_42 n_43 v1 H.size ⟨b_45, b_46, b_47, b_48, b_49, b_50, b_51, b_52, b_53, b_54, b_55, b_56, i_57, i_58, i_59, i_60, i_61, i_62, i_63, j_64, j_65, j_66, j_67, j_68, j_69, j_70, j_71, j_72, j_73⟩ (by omega) (by show v1.toInt < ((n_43 11)).toInt; omega) (by show ((F_42 32) (Int32.toNatClampNeg v1)).toInt = 0; omega) (by show ((F_42 13) (Int32.toNatClampNeg v1)).toInt = 4; omega)) (cwV 1 hg (gw_V gm_methodLink_RX10_218_yX10_asks gm_instanceMethod_yX10_asks gm_selects_RX10_yX10_asks_yX10_asks gm_initialized_RX10 gm_code_yX10_asks_cX10_asks_5_none) rfl rfl rfl (by decide +kernel) ⟨Nat.le_of_ble_eq_true rfl, Nat.le_of_ble_eq_true rfl⟩) ⟨fun a U g mk q => by obtain ⟨q0, q1, qP, qK, qD, qN⟩ := q; exact ⟨q0, q1, qP, va_K.moved (u := U) (U := U.calling g mk a) (Vm.Alike.refl U.vm) qK, qD, nx_same (u := U) (U := U.calling g mk a) rfl qN⟩, va_recv hK hP (ci := 10) (q0 := 0) rfl rfl, fun U hU hW => ⟨rfl, by rw [hU], by rw [hU]; exact hP, va_K.moved hW.alike hK, hD.weaken (fun _ _ _ _ => trivial), nx_warm hW hN⟩⟩ rfl rfl hl.1 rfl (lv_room (Nat.le_of_ble_eq_true rfl)) dX10_goes_75 ⟨Nat.le_of_ble_eq_true rfl, Nat.le_of_ble_eq_true rfl⟩) hS (fun q _ h => hFc q h) hFc (fun u_165 t H1 locs ht hvm hw hB hz1 hk1 hS => ?_)
      obtain ⟨F_166, n_167⟩ := u_165
      obtain ⟨hP, hD, hI_168⟩ := hB
      have hI_168 : I10 kp F_166 n_167 := hI_168
      obtain ⟨b_169, b_170, b_171, b_172, b_173, b_174, b_175, b_176, b_177, b_178, b_179, b_180, i_181, i_182, i_183, i_184, i_185, i_186, i_187, j_188, j_189, j_190, j_191, j_192, j_193, j_194, j_195, j_196, j_197⟩ := id hI_168
      rw [ht] at hP
      have hD := hD.weaken (fun k q _ h => hFc _ h)
      generalize H1 = H at hP hS ⊢
      have hP : va_P (dC, dI) vwCl (w10 h0 X C F_166 n_167) H := hP
      have hD : va_D A (w10 h0 X C F_166 n_167) := hD
      refine lv_iload_n hx hb dX10_goes_78 rfl (lv_at hl 1 rfl) ?_
      refine lv_iconst (v := 1) hx hb dX10_goes_79 (by decide) ?_
      refine lv_iadd hx hb dX10_goes_80 ?_
      refine lv_topi (fun z_198 ez_198 => ?_)
      have tz_198 : z_198.toInt = v1.toInt + 1 := ar_add rfl ti_1 ez_198 (by omega)
      refine lv_istore_n (lv' := [(3, .int z_198), (0, .ref h0), (1, .int v1), (2, .int v2)]) hx hb dX10_goes_81 rfl hl (by decide) rfl (fun ls hl => ?_)
      have L82 : ∀ (fuel : Nat) (x_199 : Int32) (F_200 : Nat → Nat → Int32) (n_201 : Nat → Int32) (hI_202 : I10 kp F_200 n_201) (H : Heap) (locs : List Loc) (ls : Array Slot), (201 - x_199.toInt).toNat < fuel → 1 ≤ x_199.toInt ∧ x_199.toInt ≤ 200 → va_P (dC, dI) vwCl (w10 h0 X C F_200 n_201) H → va_D A (w10 h0 X C F_200 n_201) → va_S A s.heap H locs → lv_has ls 4 [(3, .int x_199), (0, .ref h0), (1, .int v1), (2, .int v2)] → W p l e (headSpec (.code yX10_goes cX10_goes 4 none :: gw) ({ frames := 1, cells := 0, slots := 0, locals := 24 })).room s m ([.ref h0, .int v1, .int v2] : List Value).toArray below meth c H locs 0 0 (MQ below (va_Qv (fun (u : (Nat → Nat → Int32) × (Nat → Int32)) => True) (fun u t => va_P (dC, dI) vwCl (w10 h0 X C u.1 u.2) t.heap ∧ va_D A (w10 h0 X C u.1 u.2) ∧ I10 kp u.1 u.2) A) ([.ref h0, .int v1, .int v2] : List Value).toArray s 0 0 A) (F0 m 82 ls []) := by
        intro fuel
        induction fuel with
        | zero => intro x_199 F_200 n_201 hI_202 H locs ls hm; exact absurd hm (Nat.not_lt_zero _)
        | succ fuel_204 ih_203 =>
          intro x_199 F_200 n_201 hI_202 H locs ls hm_206 v_205 hP hD hS hl
          obtain ⟨b_207, b_208, b_209, b_210, b_211, b_212, b_213, b_214, b_215, b_216, b_217, b_218, i_219, i_220, i_221, i_222, i_223, i_224, i_225, j_226, j_227, j_228, j_229, j_230, j_231, j_232, j_233, j_234, j_235⟩ := id hI_202
          refine lv_iload_n hx hb dX10_goes_82 rfl (lv_at hl 0 rfl) ?_
          refine lv_aload_n hx hb dX10_goes_83 rfl (lv_at hl 1 rfl) ?_
          refine va_get (D := (dC, dI)) (ci := 10) (v := .int (n_201 11)) (C := RX10) (T := TX10) (N := 60) hx hb hg gb_10 hown hK hP 0 rfl rfl 11 (by decide) (hg _ gm_fieldLink_RX10_176_ErrandGuildModel_runs_I_) (fun _ h9 => h9) rfl dX10_goes_84 ?_
          refine lv_icmp_ge (tgt := 139) hx hb dX10_goes_87 (by decide) (fun c_236 => ?_) (fun c_236 => ?_)
          · simp only [i_lt, i_le, i_eq] at c_236
            exact W.vret hx hb hr (fun t ht hW => ⟨⟨(F_200, n_201), rfl, trivial, by rw [ht]; exact hP, hD, ⟨b_207, b_208, b_209, b_210, b_211, b_212, b_213, b_214, b_215, b_216, b_217, b_218, i_219, i_220, i_221, i_222, i_223, i_224, i_225, j_226, j_227, j_228, j_229, j_230, j_231, j_232, j_233, j_234, j_235⟩⟩, hS.F ht⟩) hS.2.2 dX10_goes_139
          · simp only [i_lt, i_le, i_eq] at c_236
            refine lv_aload_n hx hb dX10_goes_90 rfl (lv_at hl 1 rfl) ?_
            refine va_get (D := (dC, dI)) (ci := 10) (v := .ref (X 15)) (C := RX10) (T := TX10) (N := 60) hx hb hg gb_10 hown hK hP 0 rfl rfl 15 (by decide) (hg _ gm_fieldLink_RX10_51_ErrandGuildModel_giver_AI_) (fun _ h9 => h9) rfl dX10_goes_91 ?_
            refine lv_iload_n hx hb dX10_goes_94 rfl (lv_at hl 0 rfl) ?_
            refine va_iald hx hb hK hP 13 12 rfl rfl (vp_in_iff.mpr ⟨by omega, by omega⟩) dX10_goes_95 ?_
            refine lv_topi (fun z_237 ez_237 => ?_)
            have qz_237 := congrArg Int32.toInt ez_237
            have bz_237 := bd_at b_211 ez_237
            refine lv_iload_n hx hb dX10_goes_96 rfl (lv_at hl 2 rfl) ?_
            refine lv_icmp_ne (tgt := 133) hx hb dX10_goes_97 (by decide) (fun c_238 => ?_) (fun c_238 => ?_)
            · simp only [i_lt, i_le, i_eq] at c_238
              obtain ⟨y_239, ey_239⟩ : ∃ q : Int32, q = x_199 + (1) := ⟨_, rfl⟩
              refine lv_iinc (v := y_239) (lv' := [(3, .int y_239), (0, .ref h0), (1, .int v1), (2, .int v2)]) hx hb dX10_goes_133 hl (k := 0) rfl (by rw [ey_239]; rfl) (by decide) rfl (fun ls hl => ?_)
              have ty_239 : y_239.toInt = x_199.toInt + (1) := ar_add rfl ti_1 ey_239 (by omega)
              refine lv_goto (tgt := 82) hx hb dX10_goes_136 (by decide) ?_
              exact ih_203 y_239 F_200 n_201 (I10_mono (k := kp) ⟨b_207, b_208, b_209, b_210, b_211, b_212, b_213, b_214, b_215, b_216, b_217, b_218, i_219, i_220, i_221, i_222, i_223, i_224, i_225, j_226, j_227, j_228, j_229, j_230, j_231, j_232, j_233, j_234, j_235⟩ (by omega)) H locs ls (by omega) (by omega) hP hD hS (lv_sub hl [0, 1, 2, 3] rfl)
            · simp only [i_lt, i_le, i_eq] at c_238
              refine lv_aload_n hx hb dX10_goes_100 rfl (lv_at hl 1 rfl) ?_
              refine va_get (D := (dC, dI)) (ci := 10) (v := .ref (X 13)) (C := RX10) (T := TX10) (N := 60) hx hb hg gb_10 hown hK hP 0 rfl rfl 13 (by decide) (hg _ gm_fieldLink_RX10_45_ErrandGuildModel_state_AI_) (fun _ h9 => h9) rfl dX10_goes_101 ?_
              refine lv_iload_n hx hb dX10_goes_104 rfl (lv_at hl 0 rfl) ?_
              refine va_iald hx hb hK hP 11 10 rfl rfl (vp_in_iff.mpr ⟨by omega, by omega⟩) dX10_goes_105 ?_
              refine lv_topi (fun z_240 ez_240 => ?_)
              have qz_240 := congrArg Int32.toInt ez_240
              have bz_240 := bd_at b_209 ez_240
              refine lv_iconst (v := 4) hx hb dX10_goes_106 (by decide) ?_
              refine lv_icmp_ne (tgt := 133) hx hb dX10_goes_107 (by decide) (fun c_241 => ?_) (fun c_241 => ?_)
              · simp only [i_lt, i_le, i_eq, ti_4] at c_241
                obtain ⟨y_242, ey_242⟩ : ∃ q : Int32, q = x_199 + (1) := ⟨_, rfl⟩
                refine lv_iinc (v := y_242) (lv' := [(3, .int y_242), (0, .ref h0), (1, .int v1), (2, .int v2)]) hx hb dX10_goes_133 hl (k := 0) rfl (by rw [ey_242]; rfl) (by decide) rfl (fun ls hl => ?_)
                have ty_242 : y_242.toInt = x_199.toInt + (1) := ar_add rfl ti_1 ey_242 (by omega)
                refine lv_goto (tgt := 82) hx hb dX10_goes_136 (by decide) ?_
                exact ih_203 y_242 F_200 n_201 (I10_mono (k := kp) ⟨b_207, b_208, b_209, b_210, b_211, b_212, b_213, b_214, b_215, b_216, b_217, b_218, i_219, i_220, i_221, i_222, i_223, i_224, i_225, j_226, j_227, j_228, j_229, j_230, j_231, j_232, j_233, j_234, j_235⟩ (by omega)) H locs ls (by omega) (by omega) hP hD hS (lv_sub hl [0, 1, 2, 3] rfl)
              · simp only [i_lt, i_le, i_eq, ti_4] at c_241
                refine lv_aload_n hx hb dX10_goes_110 rfl (lv_at hl 1 rfl) ?_
                refine va_get (D := (dC, dI)) (ci := 10) (v := .ref (X 26)) (C := RX10) (T := TX10) (N := 60) hx hb hg gb_10 hown hK hP 0 rfl rfl 26 (by decide) (hg _ gm_fieldLink_RX10_84_ErrandGuildModel_wasWaited_AZ_) (fun _ h9 => h9) rfl dX10_goes_111 ?_
                refine lv_iload_n hx hb dX10_goes_114 rfl (lv_at hl 0 rfl) ?_
                refine va_zald hx hb hK hP 24 23 rfl rfl (vp_in_iff.mpr ⟨by omega, by omega⟩) dX10_goes_115 ?_
                refine lv_topi (fun z_243 ez_243 => ?_)
                have qz_243 := congrArg Int32.toInt ez_243
                refine lv_if_ne (tgt := 133) hx hb dX10_goes_116 (by decide) (fun c_244 => ?_) (fun c_244 => ?_)
                · simp only [i_lt, i_le, i_eq, ti_0] at c_244
                  obtain ⟨y_245, ey_245⟩ : ∃ q : Int32, q = x_199 + (1) := ⟨_, rfl⟩
                  refine lv_iinc (v := y_245) (lv' := [(3, .int y_245), (0, .ref h0), (1, .int v1), (2, .int v2)]) hx hb dX10_goes_133 hl (k := 0) rfl (by rw [ey_245]; rfl) (by decide) rfl (fun ls hl => ?_)
                  have ty_245 : y_245.toInt = x_199.toInt + (1) := ar_add rfl ti_1 ey_245 (by omega)
                  refine lv_goto (tgt := 82) hx hb dX10_goes_136 (by decide) ?_
                  exact ih_203 y_245 F_200 n_201 (I10_mono (k := kp) ⟨b_207, b_208, b_209, b_210, b_211, b_212, b_213, b_214, b_215, b_216, b_217, b_218, i_219, i_220, i_221, i_222, i_223, i_224, i_225, j_226, j_227, j_228, j_229, j_230, j_231, j_232, j_233, j_234, j_235⟩ (by omega)) H locs ls (by omega) (by omega) hP hD hS (lv_sub hl [0, 1, 2, 3] rfl)
                · simp only [i_lt, i_le, i_eq, ti_0] at c_244
                  refine lv_aload_n hx hb dX10_goes_119 rfl (lv_at hl 1 rfl) ?_
                  refine va_get (D := (dC, dI)) (ci := 10) (v := .ref (X 32)) (C := RX10) (T := TX10) (N := 60) hx hb hg gb_10 hown hK hP 0 rfl rfl 32 (by decide) (hg _ gm_fieldLink_RX10_102_ErrandGuildModel_isUncaught_AZ_) (fun _ h9 => h9) rfl dX10_goes_120 ?_
                  refine lv_iload_n hx hb dX10_goes_123 rfl (lv_at hl 0 rfl) ?_
                  refine va_zald hx hb hK hP 30 29 rfl rfl (vp_in_iff.mpr ⟨by omega, by omega⟩) dX10_goes_124 ?_
                  refine lv_topi (fun z_246 ez_246 => ?_)
                  have qz_246 := congrArg Int32.toInt ez_246
                  refine lv_if_ne (tgt := 133) hx hb dX10_goes_125 (by decide) (fun c_247 => ?_) (fun c_247 => ?_)
                  · simp only [i_lt, i_le, i_eq, ti_0] at c_247
                    obtain ⟨y_248, ey_248⟩ : ∃ q : Int32, q = x_199 + (1) := ⟨_, rfl⟩
                    refine lv_iinc (v := y_248) (lv' := [(3, .int y_248), (0, .ref h0), (1, .int v1), (2, .int v2)]) hx hb dX10_goes_133 hl (k := 0) rfl (by rw [ey_248]; rfl) (by decide) rfl (fun ls hl => ?_)
                    have ty_248 : y_248.toInt = x_199.toInt + (1) := ar_add rfl ti_1 ey_248 (by omega)
                    refine lv_goto (tgt := 82) hx hb dX10_goes_136 (by decide) ?_
                    exact ih_203 y_248 F_200 n_201 (I10_mono (k := kp) ⟨b_207, b_208, b_209, b_210, b_211, b_212, b_213, b_214, b_215, b_216, b_217, b_218, i_219, i_220, i_221, i_222, i_223, i_224, i_225, j_226, j_227, j_228, j_229, j_230, j_231, j_232, j_233, j_234, j_235⟩ (by omega)) H locs ls (by omega) (by omega) hP hD hS (lv_sub hl [0, 1, 2, 3] rfl)
                  · simp only [i_lt, i_le, i_eq, ti_0] at c_247
                    refine lv_aload_n hx hb dX10_goes_128 rfl (lv_at hl 1 rfl) ?_
                    refine lv_iload_n hx hb dX10_goes_129 rfl (lv_at hl 0 rfl) ?_
                    have hFc := free_all hD hS hA
                    refine va_callv (va_runV (As := [.int x_199]) (rest := []) ⟨hx, hb, hml, hown, hg⟩ (c_X10_asks l dC dI kp h0 X C F_200 n_201 x_199 H.size ⟨b_207, b_208, b_209, b_210, b_211, b_212, b_213, b_214, b_215, b_216, b_217, b_218, i_219, i_220, i_221, i_222, i_223, i_224, i_225, j_226, j_227, j_228, j_229, j_230, j_231, j_232, j_233, j_234, j_235⟩ (by omega) (by show x_199.toInt < ((n_201 11)).toInt; omega) (by show ((F_200 32) (Int32.toNatClampNeg x_199)).toInt = 0; omega) (by show ((F_200 13) (Int32.toNatClampNeg x_199)).toInt = 4; omega)) (cwV 1 hg (gw_V gm_methodLink_RX10_218_yX10_asks gm_instanceMethod_yX10_asks gm_selects_RX10_yX10_asks_yX10_asks gm_initialized_RX10 gm_code_yX10_asks_cX10_asks_5_none) rfl rfl rfl (by decide +kernel) ⟨Nat.le_of_ble_eq_true rfl, Nat.le_of_ble_eq_true rfl⟩) ⟨fun a U g mk q => by obtain ⟨q0, q1, qP, qK, qD, qN⟩ := q; exact ⟨q0, q1, qP, va_K.moved (u := U) (U := U.calling g mk a) (Vm.Alike.refl U.vm) qK, qD, nx_same (u := U) (U := U.calling g mk a) rfl qN⟩, va_recv hK hP (ci := 10) (q0 := 0) rfl rfl, fun U hU hW => ⟨rfl, by rw [hU], by rw [hU]; exact hP, va_K.moved hW.alike hK, hD.weaken (fun _ _ _ _ => trivial), nx_warm hW hN⟩⟩ rfl rfl hl.1 rfl (lv_room (Nat.le_of_ble_eq_true rfl)) dX10_goes_130 ⟨Nat.le_of_ble_eq_true rfl, Nat.le_of_ble_eq_true rfl⟩) hS (fun q _ h => hFc q h) hFc (fun u_250 t H1 locs ht hvm hw hB hz1 hk1 hS => ?_)
                    obtain ⟨F_251, n_252⟩ := u_250
                    obtain ⟨hP, hD, hI_253⟩ := hB
                    have hI_253 : I10 kp F_251 n_252 := hI_253
                    obtain ⟨b_254, b_255, b_256, b_257, b_258, b_259, b_260, b_261, b_262, b_263, b_264, b_265, i_266, i_267, i_268, i_269, i_270, i_271, i_272, j_273, j_274, j_275, j_276, j_277, j_278, j_279, j_280, j_281, j_282⟩ := id hI_253
                    rw [ht] at hP
                    have hD := hD.weaken (fun k q _ h => hFc _ h)
                    generalize H1 = H at hP hS ⊢
                    have hP : va_P (dC, dI) vwCl (w10 h0 X C F_251 n_252) H := hP
                    have hD : va_D A (w10 h0 X C F_251 n_252) := hD
                    obtain ⟨y_283, ey_283⟩ : ∃ q : Int32, q = x_199 + (1) := ⟨_, rfl⟩
                    refine lv_iinc (v := y_283) (lv' := [(3, .int y_283), (0, .ref h0), (1, .int v1), (2, .int v2)]) hx hb dX10_goes_133 hl (k := 0) rfl (by rw [ey_283]; rfl) (by decide) rfl (fun ls hl => ?_)
                    have ty_283 : y_283.toInt = x_199.toInt + (1) := ar_add rfl ti_1 ey_283 (by omega)
                    refine lv_goto (tgt := 82) hx hb dX10_goes_136 (by decide) ?_
                    exact ih_203 y_283 F_251 n_252 (I10_mono (k := kp) ⟨b_254, b_255, b_256, b_257, b_258, b_259, b_260, b_261, b_262, b_263, b_264, b_265, i_266, i_267, i_268, i_269, i_270, i_271, i_272, j_273, j_274, j_275, j_276, j_277, j_278, j_279, j_280, j_281, j_282⟩ (by omega)) H locs ls (by omega) (by omega) hP hD hS (lv_sub hl [0, 1, 2, 3] rfl)
      exact L82 _ z_198 F_166 n_167 (I10_mono (k := kp) ⟨b_169, b_170, b_171, b_172, b_173, b_174, b_175, b_176, b_177, b_178, b_179, b_180, i_181, i_182, i_183, i_184, i_185, i_186, i_187, j_188, j_189, j_190, j_191, j_192, j_193, j_194, j_195, j_196, j_197⟩ (by omega)) _ _ _ (Nat.lt_succ_self _) (by omega) hP hD hS (lv_sub hl [0, 1, 2, 3] rfl)
    · simp only [i_lt, i_le, i_eq, ti_m1] at c_163
      refine lv_aload_n hx hb dX10_goes_51 rfl (lv_at hl 0 rfl) ?_
      refine lv_aload_n hx hb dX10_goes_52 rfl (lv_at hl 0 rfl) ?_
      refine va_get (D := (dC, dI)) (ci := 10) (v := .ref (X 15)) (C := RX10) (T := TX10) (N := 60) hx hb hg gb_10 hown hK hP 0 rfl rfl 15 (by decide) (hg _ gm_fieldLink_RX10_51_ErrandGuildModel_giver_AI_) (fun _ h9 => h9) rfl dX10_goes_53 ?_
      refine lv_iload_n hx hb dX10_goes_56 rfl (lv_at hl 1 rfl) ?_
      refine va_iald hx hb hK hP 13 12 rfl rfl (vp_in_iff.mpr ⟨by omega, by omega⟩) dX10_goes_57 ?_
      refine lv_topi (fun z_284 ez_284 => ?_)
      obtain rfl : z_162 = z_284 := ez_162.trans ez_284.symm
      have hFc := free_all hD hS hA
      refine va_calli (va_runV (As := [.int z_162]) (rest := []) ⟨hx, hb, hml, hown, hg⟩ (c_X10_isOver l dC dI kp h0 X C F_42 n_43 z_162 H.size ⟨b_45, b_46, b_47, b_48, b_49, b_50, b_51, b_52, b_53, b_54, b_55, b_56, i_57, i_58, i_59, i_60, i_61, i_62, i_63, j_64, j_65, j_66, j_67, j_68, j_69, j_70, j_71, j_72, j_73⟩ (by omega)) (cwV 1 hg (gw_V gm_methodLink_RX10_215_yX10_isOver gm_instanceMethod_yX10_isOver gm_selects_RX10_yX10_isOver_yX10_isOver gm_initialized_RX10 gm_code_yX10_isOver_cX10_isOver_2_some_boolean_) rfl rfl rfl (by decide +kernel) ⟨Nat.le_of_ble_eq_true rfl, Nat.le_of_ble_eq_true rfl⟩) ⟨fun a U g mk q => by obtain ⟨q0, q1, qP, qK, qD, qN⟩ := q; exact ⟨q0, q1, qP, va_K.moved (u := U) (U := U.calling g mk a) (Vm.Alike.refl U.vm) qK, qD, nx_same (u := U) (U := U.calling g mk a) rfl qN⟩, va_recv hK hP (ci := 10) (q0 := 0) rfl rfl, fun U hU hW => ⟨rfl, by rw [hU], by rw [hU]; exact hP, va_K.moved hW.alike hK, hD.weaken (fun _ _ _ _ => trivial), nx_warm hW hN⟩⟩ rfl rfl hl.1 rfl (lv_room (Nat.le_of_ble_eq_true rfl)) dX10_goes_58 ⟨Nat.le_of_ble_eq_true rfl, Nat.le_of_ble_eq_true rfl⟩) hS (fun q _ h => hFc q h) hFc (fun r_285 u_286 t H1 locs ht hvm hw hB hz1 hk1 hS => ?_)
      obtain ⟨hP, hD⟩ := hB
      rw [ht] at hP
      have hD := hD.weaken (fun k q _ h => hFc _ h)
      generalize H1 = H at hP hS ⊢
      have hP : va_P (dC, dI) vwCl (w10 h0 X C F_42 n_43) H := hP
      have hD : va_D A (w10 h0 X C F_42 n_43) := hD
      rcases hw with ⟨rfl, w_287⟩ | ⟨rfl, w_287⟩
      · refine lv_if_eq (tgt := 78) hx hb dX10_goes_61 (by decide) (fun c_288 => absurd c_288 (by decide)) (fun _ => ?_)
        refine lv_aload_n hx hb dX10_goes_64 rfl (lv_at hl 0 rfl) ?_
        refine va_get (D := (dC, dI)) (ci := 10) (v := .ref (X 26)) (C := RX10) (T := TX10) (N := 60) hx hb hg gb_10 hown hK hP 0 rfl rfl 26 (by decide) (hg _ gm_fieldLink_RX10_84_ErrandGuildModel_wasWaited_AZ_) (fun _ h9 => h9) rfl dX10_goes_65 ?_
        refine lv_iload_n hx hb dX10_goes_68 rfl (lv_at hl 1 rfl) ?_
        refine va_zald hx hb hK hP 24 23 rfl rfl (vp_in_iff.mpr ⟨by omega, by omega⟩) dX10_goes_69 ?_
        refine lv_topi (fun z_289 ez_289 => ?_)
        have qz_289 := congrArg Int32.toInt ez_289
        refine lv_if_ne (tgt := 78) hx hb dX10_goes_70 (by decide) (fun c_290 => ?_) (fun c_290 => ?_)
        · simp only [i_lt, i_le, i_eq, ti_0] at c_290
          refine lv_iload_n hx hb dX10_goes_78 rfl (lv_at hl 1 rfl) ?_
          refine lv_iconst (v := 1) hx hb dX10_goes_79 (by decide) ?_
          refine lv_iadd hx hb dX10_goes_80 ?_
          refine lv_topi (fun z_291 ez_291 => ?_)
          have tz_291 : z_291.toInt = v1.toInt + 1 := ar_add rfl ti_1 ez_291 (by omega)
          refine lv_istore_n (lv' := [(3, .int z_291), (0, .ref h0), (1, .int v1), (2, .int v2)]) hx hb dX10_goes_81 rfl hl (by decide) rfl (fun ls hl => ?_)
          have L82 : ∀ (fuel : Nat) (x_292 : Int32) (F_293 : Nat → Nat → Int32) (n_294 : Nat → Int32) (hI_295 : I10 kp F_293 n_294) (H : Heap) (locs : List Loc) (ls : Array Slot), (201 - x_292.toInt).toNat < fuel → 1 ≤ x_292.toInt ∧ x_292.toInt ≤ 200 → va_P (dC, dI) vwCl (w10 h0 X C F_293 n_294) H → va_D A (w10 h0 X C F_293 n_294) → va_S A s.heap H locs → lv_has ls 4 [(3, .int x_292), (0, .ref h0), (1, .int v1), (2, .int v2)] → W p l e (headSpec (.code yX10_goes cX10_goes 4 none :: gw) ({ frames := 1, cells := 0, slots := 0, locals := 24 })).room s m ([.ref h0, .int v1, .int v2] : List Value).toArray below meth c H locs 0 0 (MQ below (va_Qv (fun (u : (Nat → Nat → Int32) × (Nat → Int32)) => True) (fun u t => va_P (dC, dI) vwCl (w10 h0 X C u.1 u.2) t.heap ∧ va_D A (w10 h0 X C u.1 u.2) ∧ I10 kp u.1 u.2) A) ([.ref h0, .int v1, .int v2] : List Value).toArray s 0 0 A) (F0 m 82 ls []) := by
            intro fuel
            induction fuel with
            | zero => intro x_292 F_293 n_294 hI_295 H locs ls hm; exact absurd hm (Nat.not_lt_zero _)
            | succ fuel_297 ih_296 =>
              intro x_292 F_293 n_294 hI_295 H locs ls hm_299 v_298 hP hD hS hl
              obtain ⟨b_300, b_301, b_302, b_303, b_304, b_305, b_306, b_307, b_308, b_309, b_310, b_311, i_312, i_313, i_314, i_315, i_316, i_317, i_318, j_319, j_320, j_321, j_322, j_323, j_324, j_325, j_326, j_327, j_328⟩ := id hI_295
              refine lv_iload_n hx hb dX10_goes_82 rfl (lv_at hl 0 rfl) ?_
              refine lv_aload_n hx hb dX10_goes_83 rfl (lv_at hl 1 rfl) ?_
              refine va_get (D := (dC, dI)) (ci := 10) (v := .int (n_294 11)) (C := RX10) (T := TX10) (N := 60) hx hb hg gb_10 hown hK hP 0 rfl rfl 11 (by decide) (hg _ gm_fieldLink_RX10_176_ErrandGuildModel_runs_I_) (fun _ h9 => h9) rfl dX10_goes_84 ?_
              refine lv_icmp_ge (tgt := 139) hx hb dX10_goes_87 (by decide) (fun c_329 => ?_) (fun c_329 => ?_)
              · simp only [i_lt, i_le, i_eq] at c_329
                exact W.vret hx hb hr (fun t ht hW => ⟨⟨(F_293, n_294), rfl, trivial, by rw [ht]; exact hP, hD, ⟨b_300, b_301, b_302, b_303, b_304, b_305, b_306, b_307, b_308, b_309, b_310, b_311, i_312, i_313, i_314, i_315, i_316, i_317, i_318, j_319, j_320, j_321, j_322, j_323, j_324, j_325, j_326, j_327, j_328⟩⟩, hS.F ht⟩) hS.2.2 dX10_goes_139
              · simp only [i_lt, i_le, i_eq] at c_329
                refine lv_aload_n hx hb dX10_goes_90 rfl (lv_at hl 1 rfl) ?_
                refine va_get (D := (dC, dI)) (ci := 10) (v := .ref (X 15)) (C := RX10) (T := TX10) (N := 60) hx hb hg gb_10 hown hK hP 0 rfl rfl 15 (by decide) (hg _ gm_fieldLink_RX10_51_ErrandGuildModel_giver_AI_) (fun _ h9 => h9) rfl dX10_goes_91 ?_
                refine lv_iload_n hx hb dX10_goes_94 rfl (lv_at hl 0 rfl) ?_
                refine va_iald hx hb hK hP 13 12 rfl rfl (vp_in_iff.mpr ⟨by omega, by omega⟩) dX10_goes_95 ?_
                refine lv_topi (fun z_330 ez_330 => ?_)
                have qz_330 := congrArg Int32.toInt ez_330
                have bz_330 := bd_at b_304 ez_330
                refine lv_iload_n hx hb dX10_goes_96 rfl (lv_at hl 2 rfl) ?_
                refine lv_icmp_ne (tgt := 133) hx hb dX10_goes_97 (by decide) (fun c_331 => ?_) (fun c_331 => ?_)
                · simp only [i_lt, i_le, i_eq] at c_331
                  obtain ⟨y_332, ey_332⟩ : ∃ q : Int32, q = x_292 + (1) := ⟨_, rfl⟩
                  refine lv_iinc (v := y_332) (lv' := [(3, .int y_332), (0, .ref h0), (1, .int v1), (2, .int v2)]) hx hb dX10_goes_133 hl (k := 0) rfl (by rw [ey_332]; rfl) (by decide) rfl (fun ls hl => ?_)
                  have ty_332 : y_332.toInt = x_292.toInt + (1) := ar_add rfl ti_1 ey_332 (by omega)
                  refine lv_goto (tgt := 82) hx hb dX10_goes_136 (by decide) ?_
                  exact ih_296 y_332 F_293 n_294 (I10_mono (k := kp) ⟨b_300, b_301, b_302, b_303, b_304, b_305, b_306, b_307, b_308, b_309, b_310, b_311, i_312, i_313, i_314, i_315, i_316, i_317, i_318, j_319, j_320, j_321, j_322, j_323, j_324, j_325, j_326, j_327, j_328⟩ (by omega)) H locs ls (by omega) (by omega) hP hD hS (lv_sub hl [0, 1, 2, 3] rfl)
                · simp only [i_lt, i_le, i_eq] at c_331
                  refine lv_aload_n hx hb dX10_goes_100 rfl (lv_at hl 1 rfl) ?_
                  refine va_get (D := (dC, dI)) (ci := 10) (v := .ref (X 13)) (C := RX10) (T := TX10) (N := 60) hx hb hg gb_10 hown hK hP 0 rfl rfl 13 (by decide) (hg _ gm_fieldLink_RX10_45_ErrandGuildModel_state_AI_) (fun _ h9 => h9) rfl dX10_goes_101 ?_
                  refine lv_iload_n hx hb dX10_goes_104 rfl (lv_at hl 0 rfl) ?_
                  refine va_iald hx hb hK hP 11 10 rfl rfl (vp_in_iff.mpr ⟨by omega, by omega⟩) dX10_goes_105 ?_
                  refine lv_topi (fun z_333 ez_333 => ?_)
                  have qz_333 := congrArg Int32.toInt ez_333
                  have bz_333 := bd_at b_302 ez_333
                  refine lv_iconst (v := 4) hx hb dX10_goes_106 (by decide) ?_
                  refine lv_icmp_ne (tgt := 133) hx hb dX10_goes_107 (by decide) (fun c_334 => ?_) (fun c_334 => ?_)
                  · simp only [i_lt, i_le, i_eq, ti_4] at c_334
                    obtain ⟨y_335, ey_335⟩ : ∃ q : Int32, q = x_292 + (1) := ⟨_, rfl⟩
                    refine lv_iinc (v := y_335) (lv' := [(3, .int y_335), (0, .ref h0), (1, .int v1), (2, .int v2)]) hx hb dX10_goes_133 hl (k := 0) rfl (by rw [ey_335]; rfl) (by decide) rfl (fun ls hl => ?_)
                    have ty_335 : y_335.toInt = x_292.toInt + (1) := ar_add rfl ti_1 ey_335 (by omega)
                    refine lv_goto (tgt := 82) hx hb dX10_goes_136 (by decide) ?_
                    exact ih_296 y_335 F_293 n_294 (I10_mono (k := kp) ⟨b_300, b_301, b_302, b_303, b_304, b_305, b_306, b_307, b_308, b_309, b_310, b_311, i_312, i_313, i_314, i_315, i_316, i_317, i_318, j_319, j_320, j_321, j_322, j_323, j_324, j_325, j_326, j_327, j_328⟩ (by omega)) H locs ls (by omega) (by omega) hP hD hS (lv_sub hl [0, 1, 2, 3] rfl)
                  · simp only [i_lt, i_le, i_eq, ti_4] at c_334
                    refine lv_aload_n hx hb dX10_goes_110 rfl (lv_at hl 1 rfl) ?_
                    refine va_get (D := (dC, dI)) (ci := 10) (v := .ref (X 26)) (C := RX10) (T := TX10) (N := 60) hx hb hg gb_10 hown hK hP 0 rfl rfl 26 (by decide) (hg _ gm_fieldLink_RX10_84_ErrandGuildModel_wasWaited_AZ_) (fun _ h9 => h9) rfl dX10_goes_111 ?_
                    refine lv_iload_n hx hb dX10_goes_114 rfl (lv_at hl 0 rfl) ?_
                    refine va_zald hx hb hK hP 24 23 rfl rfl (vp_in_iff.mpr ⟨by omega, by omega⟩) dX10_goes_115 ?_
                    refine lv_topi (fun z_336 ez_336 => ?_)
                    have qz_336 := congrArg Int32.toInt ez_336
                    refine lv_if_ne (tgt := 133) hx hb dX10_goes_116 (by decide) (fun c_337 => ?_) (fun c_337 => ?_)
                    · simp only [i_lt, i_le, i_eq, ti_0] at c_337
                      obtain ⟨y_338, ey_338⟩ : ∃ q : Int32, q = x_292 + (1) := ⟨_, rfl⟩
                      refine lv_iinc (v := y_338) (lv' := [(3, .int y_338), (0, .ref h0), (1, .int v1), (2, .int v2)]) hx hb dX10_goes_133 hl (k := 0) rfl (by rw [ey_338]; rfl) (by decide) rfl (fun ls hl => ?_)
                      have ty_338 : y_338.toInt = x_292.toInt + (1) := ar_add rfl ti_1 ey_338 (by omega)
                      refine lv_goto (tgt := 82) hx hb dX10_goes_136 (by decide) ?_
                      exact ih_296 y_338 F_293 n_294 (I10_mono (k := kp) ⟨b_300, b_301, b_302, b_303, b_304, b_305, b_306, b_307, b_308, b_309, b_310, b_311, i_312, i_313, i_314, i_315, i_316, i_317, i_318, j_319, j_320, j_321, j_322, j_323, j_324, j_325, j_326, j_327, j_328⟩ (by omega)) H locs ls (by omega) (by omega) hP hD hS (lv_sub hl [0, 1, 2, 3] rfl)
                    · simp only [i_lt, i_le, i_eq, ti_0] at c_337
                      refine lv_aload_n hx hb dX10_goes_119 rfl (lv_at hl 1 rfl) ?_
                      refine va_get (D := (dC, dI)) (ci := 10) (v := .ref (X 32)) (C := RX10) (T := TX10) (N := 60) hx hb hg gb_10 hown hK hP 0 rfl rfl 32 (by decide) (hg _ gm_fieldLink_RX10_102_ErrandGuildModel_isUncaught_AZ_) (fun _ h9 => h9) rfl dX10_goes_120 ?_
                      refine lv_iload_n hx hb dX10_goes_123 rfl (lv_at hl 0 rfl) ?_
                      refine va_zald hx hb hK hP 30 29 rfl rfl (vp_in_iff.mpr ⟨by omega, by omega⟩) dX10_goes_124 ?_
                      refine lv_topi (fun z_339 ez_339 => ?_)
                      have qz_339 := congrArg Int32.toInt ez_339
                      refine lv_if_ne (tgt := 133) hx hb dX10_goes_125 (by decide) (fun c_340 => ?_) (fun c_340 => ?_)
                      · simp only [i_lt, i_le, i_eq, ti_0] at c_340
                        obtain ⟨y_341, ey_341⟩ : ∃ q : Int32, q = x_292 + (1) := ⟨_, rfl⟩
                        refine lv_iinc (v := y_341) (lv' := [(3, .int y_341), (0, .ref h0), (1, .int v1), (2, .int v2)]) hx hb dX10_goes_133 hl (k := 0) rfl (by rw [ey_341]; rfl) (by decide) rfl (fun ls hl => ?_)
                        have ty_341 : y_341.toInt = x_292.toInt + (1) := ar_add rfl ti_1 ey_341 (by omega)
                        refine lv_goto (tgt := 82) hx hb dX10_goes_136 (by decide) ?_
                        exact ih_296 y_341 F_293 n_294 (I10_mono (k := kp) ⟨b_300, b_301, b_302, b_303, b_304, b_305, b_306, b_307, b_308, b_309, b_310, b_311, i_312, i_313, i_314, i_315, i_316, i_317, i_318, j_319, j_320, j_321, j_322, j_323, j_324, j_325, j_326, j_327, j_328⟩ (by omega)) H locs ls (by omega) (by omega) hP hD hS (lv_sub hl [0, 1, 2, 3] rfl)
                      · simp only [i_lt, i_le, i_eq, ti_0] at c_340
                        refine lv_aload_n hx hb dX10_goes_128 rfl (lv_at hl 1 rfl) ?_
                        refine lv_iload_n hx hb dX10_goes_129 rfl (lv_at hl 0 rfl) ?_
                        have hFc := free_all hD hS hA
                        refine va_callv (va_runV (As := [.int x_292]) (rest := []) ⟨hx, hb, hml, hown, hg⟩ (c_X10_asks l dC dI kp h0 X C F_293 n_294 x_292 H.size ⟨b_300, b_301, b_302, b_303, b_304, b_305, b_306, b_307, b_308, b_309, b_310, b_311, i_312, i_313, i_314, i_315, i_316, i_317, i_318, j_319, j_320, j_321, j_322, j_323, j_324, j_325, j_326, j_327, j_328⟩ (by omega) (by show x_292.toInt < ((n_294 11)).toInt; omega) (by show ((F_293 32) (Int32.toNatClampNeg x_292)).toInt = 0; omega) (by show ((F_293 13) (Int32.toNatClampNeg x_292)).toInt = 4; omega)) (cwV 1 hg (gw_V gm_methodLink_RX10_218_yX10_asks gm_instanceMethod_yX10_asks gm_selects_RX10_yX10_asks_yX10_asks gm_initialized_RX10 gm_code_yX10_asks_cX10_asks_5_none) rfl rfl rfl (by decide +kernel) ⟨Nat.le_of_ble_eq_true rfl, Nat.le_of_ble_eq_true rfl⟩) ⟨fun a U g mk q => by obtain ⟨q0, q1, qP, qK, qD, qN⟩ := q; exact ⟨q0, q1, qP, va_K.moved (u := U) (U := U.calling g mk a) (Vm.Alike.refl U.vm) qK, qD, nx_same (u := U) (U := U.calling g mk a) rfl qN⟩, va_recv hK hP (ci := 10) (q0 := 0) rfl rfl, fun U hU hW => ⟨rfl, by rw [hU], by rw [hU]; exact hP, va_K.moved hW.alike hK, hD.weaken (fun _ _ _ _ => trivial), nx_warm hW hN⟩⟩ rfl rfl hl.1 rfl (lv_room (Nat.le_of_ble_eq_true rfl)) dX10_goes_130 ⟨Nat.le_of_ble_eq_true rfl, Nat.le_of_ble_eq_true rfl⟩) hS (fun q _ h => hFc q h) hFc (fun u_343 t H1 locs ht hvm hw hB hz1 hk1 hS => ?_)
                        obtain ⟨F_344, n_345⟩ := u_343
                        obtain ⟨hP, hD, hI_346⟩ := hB
                        have hI_346 : I10 kp F_344 n_345 := hI_346
                        obtain ⟨b_347, b_348, b_349, b_350, b_351, b_352, b_353, b_354, b_355, b_356, b_357, b_358, i_359, i_360, i_361, i_362, i_363, i_364, i_365, j_366, j_367, j_368, j_369, j_370, j_371, j_372, j_373, j_374, j_375⟩ := id hI_346
                        rw [ht] at hP
                        have hD := hD.weaken (fun k q _ h => hFc _ h)
                        generalize H1 = H at hP hS ⊢
                        have hP : va_P (dC, dI) vwCl (w10 h0 X C F_344 n_345) H := hP
                        have hD : va_D A (w10 h0 X C F_344 n_345) := hD
                        obtain ⟨y_376, ey_376⟩ : ∃ q : Int32, q = x_292 + (1) := ⟨_, rfl⟩
                        refine lv_iinc (v := y_376) (lv' := [(3, .int y_376), (0, .ref h0), (1, .int v1), (2, .int v2)]) hx hb dX10_goes_133 hl (k := 0) rfl (by rw [ey_376]; rfl) (by decide) rfl (fun ls hl => ?_)
                        have ty_376 : y_376.toInt = x_292.toInt + (1) := ar_add rfl ti_1 ey_376 (by omega)
                        refine lv_goto (tgt := 82) hx hb dX10_goes_136 (by decide) ?_
                        exact ih_296 y_376 F_344 n_345 (I10_mono (k := kp) ⟨b_347, b_348, b_349, b_350, b_351, b_352, b_353, b_354, b_355, b_356, b_357, b_358, i_359, i_360, i_361, i_362, i_363, i_364, i_365, j_366, j_367, j_368, j_369, j_370, j_371, j_372, j_373, j_374, j_375⟩ (by omega)) H locs ls (by omega) (by omega) hP hD hS (lv_sub hl [0, 1, 2, 3] rfl)
          exact L82 _ z_291 F_42 n_43 (I10_mono (k := kp) ⟨b_45, b_46, b_47, b_48, b_49, b_50, b_51, b_52, b_53, b_54, b_55, b_56, i_57, i_58, i_59, i_60, i_61, i_62, i_63, j_64, j_65, j_66, j_67, j_68, j_69, j_70, j_71, j_72, j_73⟩ (by omega)) _ _ _ (Nat.lt_succ_self _) (by omega) hP hD hS (lv_sub hl [0, 1, 2, 3] rfl)
        · simp only [i_lt, i_le, i_eq, ti_0] at c_290
          refine lv_aload_n hx hb dX10_goes_73 rfl (lv_at hl 0 rfl) ?_
          refine lv_iload_n hx hb dX10_goes_74 rfl (lv_at hl 1 rfl) ?_
          have hFc := free_all hD hS hA
          refine va_callv (va_runV (As := [.int v1]) (rest := []) ⟨hx, hb, hml, hown, hg⟩ (c_X10_asks l dC dI kp h0 X C F_42 n_43 v1 H.size ⟨b_45, b_46, b_47, b_48, b_49, b_50, b_51, b_52, b_53, b_54, b_55, b_56, i_57, i_58, i_59, i_60, i_61, i_62, i_63, j_64, j_65, j_66, j_67, j_68, j_69, j_70, j_71, j_72, j_73⟩ (by omega) (by show v1.toInt < ((n_43 11)).toInt; omega) (by show ((F_42 32) (Int32.toNatClampNeg v1)).toInt = 0; omega) (by show ((F_42 13) (Int32.toNatClampNeg v1)).toInt = 4; omega)) (cwV 1 hg (gw_V gm_methodLink_RX10_218_yX10_asks gm_instanceMethod_yX10_asks gm_selects_RX10_yX10_asks_yX10_asks gm_initialized_RX10 gm_code_yX10_asks_cX10_asks_5_none) rfl rfl rfl (by decide +kernel) ⟨Nat.le_of_ble_eq_true rfl, Nat.le_of_ble_eq_true rfl⟩) ⟨fun a U g mk q => by obtain ⟨q0, q1, qP, qK, qD, qN⟩ := q; exact ⟨q0, q1, qP, va_K.moved (u := U) (U := U.calling g mk a) (Vm.Alike.refl U.vm) qK, qD, nx_same (u := U) (U := U.calling g mk a) rfl qN⟩, va_recv hK hP (ci := 10) (q0 := 0) rfl rfl, fun U hU hW => ⟨rfl, by rw [hU], by rw [hU]; exact hP, va_K.moved hW.alike hK, hD.weaken (fun _ _ _ _ => trivial), nx_warm hW hN⟩⟩ rfl rfl hl.1 rfl (lv_room (Nat.le_of_ble_eq_true rfl)) dX10_goes_75 ⟨Nat.le_of_ble_eq_true rfl, Nat.le_of_ble_eq_true rfl⟩) hS (fun q _ h => hFc q h) hFc (fun u_378 t H1 locs ht hvm hw hB hz1 hk1 hS => ?_)
          obtain ⟨F_379, n_380⟩ := u_378
          obtain ⟨hP, hD, hI_381⟩ := hB
          have hI_381 : I10 kp F_379 n_380 := hI_381
          obtain ⟨b_382, b_383, b_384, b_385, b_386, b_387, b_388, b_389, b_390, b_391, b_392, b_393, i_394, i_395, i_396, i_397, i_398, i_399, i_400, j_401, j_402, j_403, j_404, j_405, j_406, j_407, j_408, j_409, j_410⟩ := id hI_381
          rw [ht] at hP
          have hD := hD.weaken (fun k q _ h => hFc _ h)
          generalize H1 = H at hP hS ⊢
          have hP : va_P (dC, dI) vwCl (w10 h0 X C F_379 n_380) H := hP
          have hD : va_D A (w10 h0 X C F_379 n_380) := hD
          refine lv_iload_n hx hb dX10_goes_78 rfl (lv_at hl 1 rfl) ?_
          refine lv_iconst (v := 1) hx hb dX10_goes_79 (by decide) ?_
          refine lv_iadd hx hb dX10_goes_80 ?_
          refine lv_topi (fun z_411 ez_411 => ?_)
          have tz_411 : z_411.toInt = v1.toInt + 1 := ar_add rfl ti_1 ez_411 (by omega)
          refine lv_istore_n (lv' := [(3, .int z_411), (0, .ref h0), (1, .int v1), (2, .int v2)]) hx hb dX10_goes_81 rfl hl (by decide) rfl (fun ls hl => ?_)
          have L82 : ∀ (fuel : Nat) (x_412 : Int32) (F_413 : Nat → Nat → Int32) (n_414 : Nat → Int32) (hI_415 : I10 kp F_413 n_414) (H : Heap) (locs : List Loc) (ls : Array Slot), (201 - x_412.toInt).toNat < fuel → 1 ≤ x_412.toInt ∧ x_412.toInt ≤ 200 → va_P (dC, dI) vwCl (w10 h0 X C F_413 n_414) H → va_D A (w10 h0 X C F_413 n_414) → va_S A s.heap H locs → lv_has ls 4 [(3, .int x_412), (0, .ref h0), (1, .int v1), (2, .int v2)] → W p l e (headSpec (.code yX10_goes cX10_goes 4 none :: gw) ({ frames := 1, cells := 0, slots := 0, locals := 24 })).room s m ([.ref h0, .int v1, .int v2] : List Value).toArray below meth c H locs 0 0 (MQ below (va_Qv (fun (u : (Nat → Nat → Int32) × (Nat → Int32)) => True) (fun u t => va_P (dC, dI) vwCl (w10 h0 X C u.1 u.2) t.heap ∧ va_D A (w10 h0 X C u.1 u.2) ∧ I10 kp u.1 u.2) A) ([.ref h0, .int v1, .int v2] : List Value).toArray s 0 0 A) (F0 m 82 ls []) := by
            intro fuel
            induction fuel with
            | zero => intro x_412 F_413 n_414 hI_415 H locs ls hm; exact absurd hm (Nat.not_lt_zero _)
            | succ fuel_417 ih_416 =>
              intro x_412 F_413 n_414 hI_415 H locs ls hm_419 v_418 hP hD hS hl
              obtain ⟨b_420, b_421, b_422, b_423, b_424, b_425, b_426, b_427, b_428, b_429, b_430, b_431, i_432, i_433, i_434, i_435, i_436, i_437, i_438, j_439, j_440, j_441, j_442, j_443, j_444, j_445, j_446, j_447, j_448⟩ := id hI_415
              refine lv_iload_n hx hb dX10_goes_82 rfl (lv_at hl 0 rfl) ?_
              refine lv_aload_n hx hb dX10_goes_83 rfl (lv_at hl 1 rfl) ?_
              refine va_get (D := (dC, dI)) (ci := 10) (v := .int (n_414 11)) (C := RX10) (T := TX10) (N := 60) hx hb hg gb_10 hown hK hP 0 rfl rfl 11 (by decide) (hg _ gm_fieldLink_RX10_176_ErrandGuildModel_runs_I_) (fun _ h9 => h9) rfl dX10_goes_84 ?_
              refine lv_icmp_ge (tgt := 139) hx hb dX10_goes_87 (by decide) (fun c_449 => ?_) (fun c_449 => ?_)
              · simp only [i_lt, i_le, i_eq] at c_449
                exact W.vret hx hb hr (fun t ht hW => ⟨⟨(F_413, n_414), rfl, trivial, by rw [ht]; exact hP, hD, ⟨b_420, b_421, b_422, b_423, b_424, b_425, b_426, b_427, b_428, b_429, b_430, b_431, i_432, i_433, i_434, i_435, i_436, i_437, i_438, j_439, j_440, j_441, j_442, j_443, j_444, j_445, j_446, j_447, j_448⟩⟩, hS.F ht⟩) hS.2.2 dX10_goes_139
              · simp only [i_lt, i_le, i_eq] at c_449
                refine lv_aload_n hx hb dX10_goes_90 rfl (lv_at hl 1 rfl) ?_
                refine va_get (D := (dC, dI)) (ci := 10) (v := .ref (X 15)) (C := RX10) (T := TX10) (N := 60) hx hb hg gb_10 hown hK hP 0 rfl rfl 15 (by decide) (hg _ gm_fieldLink_RX10_51_ErrandGuildModel_giver_AI_) (fun _ h9 => h9) rfl dX10_goes_91 ?_
                refine lv_iload_n hx hb dX10_goes_94 rfl (lv_at hl 0 rfl) ?_
                refine va_iald hx hb hK hP 13 12 rfl rfl (vp_in_iff.mpr ⟨by omega, by omega⟩) dX10_goes_95 ?_
                refine lv_topi (fun z_450 ez_450 => ?_)
                have qz_450 := congrArg Int32.toInt ez_450
                have bz_450 := bd_at b_424 ez_450
                refine lv_iload_n hx hb dX10_goes_96 rfl (lv_at hl 2 rfl) ?_
                refine lv_icmp_ne (tgt := 133) hx hb dX10_goes_97 (by decide) (fun c_451 => ?_) (fun c_451 => ?_)
                · simp only [i_lt, i_le, i_eq] at c_451
                  obtain ⟨y_452, ey_452⟩ : ∃ q : Int32, q = x_412 + (1) := ⟨_, rfl⟩
                  refine lv_iinc (v := y_452) (lv' := [(3, .int y_452), (0, .ref h0), (1, .int v1), (2, .int v2)]) hx hb dX10_goes_133 hl (k := 0) rfl (by rw [ey_452]; rfl) (by decide) rfl (fun ls hl => ?_)
                  have ty_452 : y_452.toInt = x_412.toInt + (1) := ar_add rfl ti_1 ey_452 (by omega)
                  refine lv_goto (tgt := 82) hx hb dX10_goes_136 (by decide) ?_
                  exact ih_416 y_452 F_413 n_414 (I10_mono (k := kp) ⟨b_420, b_421, b_422, b_423, b_424, b_425, b_426, b_427, b_428, b_429, b_430, b_431, i_432, i_433, i_434, i_435, i_436, i_437, i_438, j_439, j_440, j_441, j_442, j_443, j_444, j_445, j_446, j_447, j_448⟩ (by omega)) H locs ls (by omega) (by omega) hP hD hS (lv_sub hl [0, 1, 2, 3] rfl)
                · simp only [i_lt, i_le, i_eq] at c_451
                  refine lv_aload_n hx hb dX10_goes_100 rfl (lv_at hl 1 rfl) ?_
                  refine va_get (D := (dC, dI)) (ci := 10) (v := .ref (X 13)) (C := RX10) (T := TX10) (N := 60) hx hb hg gb_10 hown hK hP 0 rfl rfl 13 (by decide) (hg _ gm_fieldLink_RX10_45_ErrandGuildModel_state_AI_) (fun _ h9 => h9) rfl dX10_goes_101 ?_
                  refine lv_iload_n hx hb dX10_goes_104 rfl (lv_at hl 0 rfl) ?_
                  refine va_iald hx hb hK hP 11 10 rfl rfl (vp_in_iff.mpr ⟨by omega, by omega⟩) dX10_goes_105 ?_
                  refine lv_topi (fun z_453 ez_453 => ?_)
                  have qz_453 := congrArg Int32.toInt ez_453
                  have bz_453 := bd_at b_422 ez_453
                  refine lv_iconst (v := 4) hx hb dX10_goes_106 (by decide) ?_
                  refine lv_icmp_ne (tgt := 133) hx hb dX10_goes_107 (by decide) (fun c_454 => ?_) (fun c_454 => ?_)
                  · simp only [i_lt, i_le, i_eq, ti_4] at c_454
                    obtain ⟨y_455, ey_455⟩ : ∃ q : Int32, q = x_412 + (1) := ⟨_, rfl⟩
                    refine lv_iinc (v := y_455) (lv' := [(3, .int y_455), (0, .ref h0), (1, .int v1), (2, .int v2)]) hx hb dX10_goes_133 hl (k := 0) rfl (by rw [ey_455]; rfl) (by decide) rfl (fun ls hl => ?_)
                    have ty_455 : y_455.toInt = x_412.toInt + (1) := ar_add rfl ti_1 ey_455 (by omega)
                    refine lv_goto (tgt := 82) hx hb dX10_goes_136 (by decide) ?_
                    exact ih_416 y_455 F_413 n_414 (I10_mono (k := kp) ⟨b_420, b_421, b_422, b_423, b_424, b_425, b_426, b_427, b_428, b_429, b_430, b_431, i_432, i_433, i_434, i_435, i_436, i_437, i_438, j_439, j_440, j_441, j_442, j_443, j_444, j_445, j_446, j_447, j_448⟩ (by omega)) H locs ls (by omega) (by omega) hP hD hS (lv_sub hl [0, 1, 2, 3] rfl)
                  · simp only [i_lt, i_le, i_eq, ti_4] at c_454
                    refine lv_aload_n hx hb dX10_goes_110 rfl (lv_at hl 1 rfl) ?_
                    refine va_get (D := (dC, dI)) (ci := 10) (v := .ref (X 26)) (C := RX10) (T := TX10) (N := 60) hx hb hg gb_10 hown hK hP 0 rfl rfl 26 (by decide) (hg _ gm_fieldLink_RX10_84_ErrandGuildModel_wasWaited_AZ_) (fun _ h9 => h9) rfl dX10_goes_111 ?_
                    refine lv_iload_n hx hb dX10_goes_114 rfl (lv_at hl 0 rfl) ?_
                    refine va_zald hx hb hK hP 24 23 rfl rfl (vp_in_iff.mpr ⟨by omega, by omega⟩) dX10_goes_115 ?_
                    refine lv_topi (fun z_456 ez_456 => ?_)
                    have qz_456 := congrArg Int32.toInt ez_456
                    refine lv_if_ne (tgt := 133) hx hb dX10_goes_116 (by decide) (fun c_457 => ?_) (fun c_457 => ?_)
                    · simp only [i_lt, i_le, i_eq, ti_0] at c_457
                      obtain ⟨y_458, ey_458⟩ : ∃ q : Int32, q = x_412 + (1) := ⟨_, rfl⟩
                      refine lv_iinc (v := y_458) (lv' := [(3, .int y_458), (0, .ref h0), (1, .int v1), (2, .int v2)]) hx hb dX10_goes_133 hl (k := 0) rfl (by rw [ey_458]; rfl) (by decide) rfl (fun ls hl => ?_)
                      have ty_458 : y_458.toInt = x_412.toInt + (1) := ar_add rfl ti_1 ey_458 (by omega)
                      refine lv_goto (tgt := 82) hx hb dX10_goes_136 (by decide) ?_
                      exact ih_416 y_458 F_413 n_414 (I10_mono (k := kp) ⟨b_420, b_421, b_422, b_423, b_424, b_425, b_426, b_427, b_428, b_429, b_430, b_431, i_432, i_433, i_434, i_435, i_436, i_437, i_438, j_439, j_440, j_441, j_442, j_443, j_444, j_445, j_446, j_447, j_448⟩ (by omega)) H locs ls (by omega) (by omega) hP hD hS (lv_sub hl [0, 1, 2, 3] rfl)
                    · simp only [i_lt, i_le, i_eq, ti_0] at c_457
                      refine lv_aload_n hx hb dX10_goes_119 rfl (lv_at hl 1 rfl) ?_
                      refine va_get (D := (dC, dI)) (ci := 10) (v := .ref (X 32)) (C := RX10) (T := TX10) (N := 60) hx hb hg gb_10 hown hK hP 0 rfl rfl 32 (by decide) (hg _ gm_fieldLink_RX10_102_ErrandGuildModel_isUncaught_AZ_) (fun _ h9 => h9) rfl dX10_goes_120 ?_
                      refine lv_iload_n hx hb dX10_goes_123 rfl (lv_at hl 0 rfl) ?_
                      refine va_zald hx hb hK hP 30 29 rfl rfl (vp_in_iff.mpr ⟨by omega, by omega⟩) dX10_goes_124 ?_
                      refine lv_topi (fun z_459 ez_459 => ?_)
                      have qz_459 := congrArg Int32.toInt ez_459
                      refine lv_if_ne (tgt := 133) hx hb dX10_goes_125 (by decide) (fun c_460 => ?_) (fun c_460 => ?_)
                      · simp only [i_lt, i_le, i_eq, ti_0] at c_460
                        obtain ⟨y_461, ey_461⟩ : ∃ q : Int32, q = x_412 + (1) := ⟨_, rfl⟩
                        refine lv_iinc (v := y_461) (lv' := [(3, .int y_461), (0, .ref h0), (1, .int v1), (2, .int v2)]) hx hb dX10_goes_133 hl (k := 0) rfl (by rw [ey_461]; rfl) (by decide) rfl (fun ls hl => ?_)
                        have ty_461 : y_461.toInt = x_412.toInt + (1) := ar_add rfl ti_1 ey_461 (by omega)
                        refine lv_goto (tgt := 82) hx hb dX10_goes_136 (by decide) ?_
                        exact ih_416 y_461 F_413 n_414 (I10_mono (k := kp) ⟨b_420, b_421, b_422, b_423, b_424, b_425, b_426, b_427, b_428, b_429, b_430, b_431, i_432, i_433, i_434, i_435, i_436, i_437, i_438, j_439, j_440, j_441, j_442, j_443, j_444, j_445, j_446, j_447, j_448⟩ (by omega)) H locs ls (by omega) (by omega) hP hD hS (lv_sub hl [0, 1, 2, 3] rfl)
                      · simp only [i_lt, i_le, i_eq, ti_0] at c_460
                        refine lv_aload_n hx hb dX10_goes_128 rfl (lv_at hl 1 rfl) ?_
                        refine lv_iload_n hx hb dX10_goes_129 rfl (lv_at hl 0 rfl) ?_
                        have hFc := free_all hD hS hA
                        refine va_callv (va_runV (As := [.int x_412]) (rest := []) ⟨hx, hb, hml, hown, hg⟩ (c_X10_asks l dC dI kp h0 X C F_413 n_414 x_412 H.size ⟨b_420, b_421, b_422, b_423, b_424, b_425, b_426, b_427, b_428, b_429, b_430, b_431, i_432, i_433, i_434, i_435, i_436, i_437, i_438, j_439, j_440, j_441, j_442, j_443, j_444, j_445, j_446, j_447, j_448⟩ (by omega) (by show x_412.toInt < ((n_414 11)).toInt; omega) (by show ((F_413 32) (Int32.toNatClampNeg x_412)).toInt = 0; omega) (by show ((F_413 13) (Int32.toNatClampNeg x_412)).toInt = 4; omega)) (cwV 1 hg (gw_V gm_methodLink_RX10_218_yX10_asks gm_instanceMethod_yX10_asks gm_selects_RX10_yX10_asks_yX10_asks gm_initialized_RX10 gm_code_yX10_asks_cX10_asks_5_none) rfl rfl rfl (by decide +kernel) ⟨Nat.le_of_ble_eq_true rfl, Nat.le_of_ble_eq_true rfl⟩) ⟨fun a U g mk q => by obtain ⟨q0, q1, qP, qK, qD, qN⟩ := q; exact ⟨q0, q1, qP, va_K.moved (u := U) (U := U.calling g mk a) (Vm.Alike.refl U.vm) qK, qD, nx_same (u := U) (U := U.calling g mk a) rfl qN⟩, va_recv hK hP (ci := 10) (q0 := 0) rfl rfl, fun U hU hW => ⟨rfl, by rw [hU], by rw [hU]; exact hP, va_K.moved hW.alike hK, hD.weaken (fun _ _ _ _ => trivial), nx_warm hW hN⟩⟩ rfl rfl hl.1 rfl (lv_room (Nat.le_of_ble_eq_true rfl)) dX10_goes_130 ⟨Nat.le_of_ble_eq_true rfl, Nat.le_of_ble_eq_true rfl⟩) hS (fun q _ h => hFc q h) hFc (fun u_463 t H1 locs ht hvm hw hB hz1 hk1 hS => ?_)
                        obtain ⟨F_464, n_465⟩ := u_463
                        obtain ⟨hP, hD, hI_466⟩ := hB
                        have hI_466 : I10 kp F_464 n_465 := hI_466
                        obtain ⟨b_467, b_468, b_469, b_470, b_471, b_472, b_473, b_474, b_475, b_476, b_477, b_478, i_479, i_480, i_481, i_482, i_483, i_484, i_485, j_486, j_487, j_488, j_489, j_490, j_491, j_492, j_493, j_494, j_495⟩ := id hI_466
                        rw [ht] at hP
                        have hD := hD.weaken (fun k q _ h => hFc _ h)
                        generalize H1 = H at hP hS ⊢
                        have hP : va_P (dC, dI) vwCl (w10 h0 X C F_464 n_465) H := hP
                        have hD : va_D A (w10 h0 X C F_464 n_465) := hD
                        obtain ⟨y_496, ey_496⟩ : ∃ q : Int32, q = x_412 + (1) := ⟨_, rfl⟩
                        refine lv_iinc (v := y_496) (lv' := [(3, .int y_496), (0, .ref h0), (1, .int v1), (2, .int v2)]) hx hb dX10_goes_133 hl (k := 0) rfl (by rw [ey_496]; rfl) (by decide) rfl (fun ls hl => ?_)
                        have ty_496 : y_496.toInt = x_412.toInt + (1) := ar_add rfl ti_1 ey_496 (by omega)
                        refine lv_goto (tgt := 82) hx hb dX10_goes_136 (by decide) ?_
                        exact ih_416 y_496 F_464 n_465 (I10_mono (k := kp) ⟨b_467, b_468, b_469, b_470, b_471, b_472, b_473, b_474, b_475, b_476, b_477, b_478, i_479, i_480, i_481, i_482, i_483, i_484, i_485, j_486, j_487, j_488, j_489, j_490, j_491, j_492, j_493, j_494, j_495⟩ (by omega)) H locs ls (by omega) (by omega) hP hD hS (lv_sub hl [0, 1, 2, 3] rfl)
          exact L82 _ z_411 F_379 n_380 (I10_mono (k := kp) ⟨b_382, b_383, b_384, b_385, b_386, b_387, b_388, b_389, b_390, b_391, b_392, b_393, i_394, i_395, i_396, i_397, i_398, i_399, i_400, j_401, j_402, j_403, j_404, j_405, j_406, j_407, j_408, j_409, j_410⟩ (by omega)) _ _ _ (Nat.lt_succ_self _) (by omega) hP hD hS (lv_sub hl [0, 1, 2, 3] rfl)
      · refine lv_if_eq (tgt := 78) hx hb dX10_goes_61 (by decide) (fun _ => ?_) (fun c_497 => absurd c_497 (by decide))
        refine lv_iload_n hx hb dX10_goes_78 rfl (lv_at hl 1 rfl) ?_
        refine lv_iconst (v := 1) hx hb dX10_goes_79 (by decide) ?_
        refine lv_iadd hx hb dX10_goes_80 ?_
        refine lv_topi (fun z_498 ez_498 => ?_)
        have tz_498 : z_498.toInt = v1.toInt + 1 := ar_add rfl ti_1 ez_498 (by omega)
        refine lv_istore_n (lv' := [(3, .int z_498), (0, .ref h0), (1, .int v1), (2, .int v2)]) hx hb dX10_goes_81 rfl hl (by decide) rfl (fun ls hl => ?_)
        have L82 : ∀ (fuel : Nat) (x_499 : Int32) (F_500 : Nat → Nat → Int32) (n_501 : Nat → Int32) (hI_502 : I10 kp F_500 n_501) (H : Heap) (locs : List Loc) (ls : Array Slot), (201 - x_499.toInt).toNat < fuel → 1 ≤ x_499.toInt ∧ x_499.toInt ≤ 200 → va_P (dC, dI) vwCl (w10 h0 X C F_500 n_501) H → va_D A (w10 h0 X C F_500 n_501) → va_S A s.heap H locs → lv_has ls 4 [(3, .int x_499), (0, .ref h0), (1, .int v1), (2, .int v2)] → W p l e (headSpec (.code yX10_goes cX10_goes 4 none :: gw) ({ frames := 1, cells := 0, slots := 0, locals := 24 })).room s m ([.ref h0, .int v1, .int v2] : List Value).toArray below meth c H locs 0 0 (MQ below (va_Qv (fun (u : (Nat → Nat → Int32) × (Nat → Int32)) => True) (fun u t => va_P (dC, dI) vwCl (w10 h0 X C u.1 u.2) t.heap ∧ va_D A (w10 h0 X C u.1 u.2) ∧ I10 kp u.1 u.2) A) ([.ref h0, .int v1, .int v2] : List Value).toArray s 0 0 A) (F0 m 82 ls []) := by
          intro fuel
          induction fuel with
          | zero => intro x_499 F_500 n_501 hI_502 H locs ls hm; exact absurd hm (Nat.not_lt_zero _)
          | succ fuel_504 ih_503 =>
            intro x_499 F_500 n_501 hI_502 H locs ls hm_506 v_505 hP hD hS hl
            obtain ⟨b_507, b_508, b_509, b_510, b_511, b_512, b_513, b_514, b_515, b_516, b_517, b_518, i_519, i_520, i_521, i_522, i_523, i_524, i_525, j_526, j_527, j_528, j_529, j_530, j_531, j_532, j_533, j_534, j_535⟩ := id hI_502
            refine lv_iload_n hx hb dX10_goes_82 rfl (lv_at hl 0 rfl) ?_
            refine lv_aload_n hx hb dX10_goes_83 rfl (lv_at hl 1 rfl) ?_
            refine va_get (D := (dC, dI)) (ci := 10) (v := .int (n_501 11)) (C := RX10) (T := TX10) (N := 60) hx hb hg gb_10 hown hK hP 0 rfl rfl 11 (by decide) (hg _ gm_fieldLink_RX10_176_ErrandGuildModel_runs_I_) (fun _ h9 => h9) rfl dX10_goes_84 ?_
            refine lv_icmp_ge (tgt := 139) hx hb dX10_goes_87 (by decide) (fun c_536 => ?_) (fun c_536 => ?_)
            · simp only [i_lt, i_le, i_eq] at c_536
              exact W.vret hx hb hr (fun t ht hW => ⟨⟨(F_500, n_501), rfl, trivial, by rw [ht]; exact hP, hD, ⟨b_507, b_508, b_509, b_510, b_511, b_512, b_513, b_514, b_515, b_516, b_517, b_518, i_519, i_520, i_521, i_522, i_523, i_524, i_525, j_526, j_527, j_528, j_529, j_530, j_531, j_532, j_533, j_534, j_535⟩⟩, hS.F ht⟩) hS.2.2 dX10_goes_139
            · simp only [i_lt, i_le, i_eq] at c_536
              refine lv_aload_n hx hb dX10_goes_90 rfl (lv_at hl 1 rfl) ?_
              refine va_get (D := (dC, dI)) (ci := 10) (v := .ref (X 15)) (C := RX10) (T := TX10) (N := 60) hx hb hg gb_10 hown hK hP 0 rfl rfl 15 (by decide) (hg _ gm_fieldLink_RX10_51_ErrandGuildModel_giver_AI_) (fun _ h9 => h9) rfl dX10_goes_91 ?_
              refine lv_iload_n hx hb dX10_goes_94 rfl (lv_at hl 0 rfl) ?_
              refine va_iald hx hb hK hP 13 12 rfl rfl (vp_in_iff.mpr ⟨by omega, by omega⟩) dX10_goes_95 ?_
              refine lv_topi (fun z_537 ez_537 => ?_)
              have qz_537 := congrArg Int32.toInt ez_537
              have bz_537 := bd_at b_511 ez_537
              refine lv_iload_n hx hb dX10_goes_96 rfl (lv_at hl 2 rfl) ?_
              refine lv_icmp_ne (tgt := 133) hx hb dX10_goes_97 (by decide) (fun c_538 => ?_) (fun c_538 => ?_)
              · simp only [i_lt, i_le, i_eq] at c_538
                obtain ⟨y_539, ey_539⟩ : ∃ q : Int32, q = x_499 + (1) := ⟨_, rfl⟩
                refine lv_iinc (v := y_539) (lv' := [(3, .int y_539), (0, .ref h0), (1, .int v1), (2, .int v2)]) hx hb dX10_goes_133 hl (k := 0) rfl (by rw [ey_539]; rfl) (by decide) rfl (fun ls hl => ?_)
                have ty_539 : y_539.toInt = x_499.toInt + (1) := ar_add rfl ti_1 ey_539 (by omega)
                refine lv_goto (tgt := 82) hx hb dX10_goes_136 (by decide) ?_
                exact ih_503 y_539 F_500 n_501 (I10_mono (k := kp) ⟨b_507, b_508, b_509, b_510, b_511, b_512, b_513, b_514, b_515, b_516, b_517, b_518, i_519, i_520, i_521, i_522, i_523, i_524, i_525, j_526, j_527, j_528, j_529, j_530, j_531, j_532, j_533, j_534, j_535⟩ (by omega)) H locs ls (by omega) (by omega) hP hD hS (lv_sub hl [0, 1, 2, 3] rfl)
              · simp only [i_lt, i_le, i_eq] at c_538
                refine lv_aload_n hx hb dX10_goes_100 rfl (lv_at hl 1 rfl) ?_
                refine va_get (D := (dC, dI)) (ci := 10) (v := .ref (X 13)) (C := RX10) (T := TX10) (N := 60) hx hb hg gb_10 hown hK hP 0 rfl rfl 13 (by decide) (hg _ gm_fieldLink_RX10_45_ErrandGuildModel_state_AI_) (fun _ h9 => h9) rfl dX10_goes_101 ?_
                refine lv_iload_n hx hb dX10_goes_104 rfl (lv_at hl 0 rfl) ?_
                refine va_iald hx hb hK hP 11 10 rfl rfl (vp_in_iff.mpr ⟨by omega, by omega⟩) dX10_goes_105 ?_
                refine lv_topi (fun z_540 ez_540 => ?_)
                have qz_540 := congrArg Int32.toInt ez_540
                have bz_540 := bd_at b_509 ez_540
                refine lv_iconst (v := 4) hx hb dX10_goes_106 (by decide) ?_
                refine lv_icmp_ne (tgt := 133) hx hb dX10_goes_107 (by decide) (fun c_541 => ?_) (fun c_541 => ?_)
                · simp only [i_lt, i_le, i_eq, ti_4] at c_541
                  obtain ⟨y_542, ey_542⟩ : ∃ q : Int32, q = x_499 + (1) := ⟨_, rfl⟩
                  refine lv_iinc (v := y_542) (lv' := [(3, .int y_542), (0, .ref h0), (1, .int v1), (2, .int v2)]) hx hb dX10_goes_133 hl (k := 0) rfl (by rw [ey_542]; rfl) (by decide) rfl (fun ls hl => ?_)
                  have ty_542 : y_542.toInt = x_499.toInt + (1) := ar_add rfl ti_1 ey_542 (by omega)
                  refine lv_goto (tgt := 82) hx hb dX10_goes_136 (by decide) ?_
                  exact ih_503 y_542 F_500 n_501 (I10_mono (k := kp) ⟨b_507, b_508, b_509, b_510, b_511, b_512, b_513, b_514, b_515, b_516, b_517, b_518, i_519, i_520, i_521, i_522, i_523, i_524, i_525, j_526, j_527, j_528, j_529, j_530, j_531, j_532, j_533, j_534, j_535⟩ (by omega)) H locs ls (by omega) (by omega) hP hD hS (lv_sub hl [0, 1, 2, 3] rfl)
                · simp only [i_lt, i_le, i_eq, ti_4] at c_541
                  refine lv_aload_n hx hb dX10_goes_110 rfl (lv_at hl 1 rfl) ?_
                  refine va_get (D := (dC, dI)) (ci := 10) (v := .ref (X 26)) (C := RX10) (T := TX10) (N := 60) hx hb hg gb_10 hown hK hP 0 rfl rfl 26 (by decide) (hg _ gm_fieldLink_RX10_84_ErrandGuildModel_wasWaited_AZ_) (fun _ h9 => h9) rfl dX10_goes_111 ?_
                  refine lv_iload_n hx hb dX10_goes_114 rfl (lv_at hl 0 rfl) ?_
                  refine va_zald hx hb hK hP 24 23 rfl rfl (vp_in_iff.mpr ⟨by omega, by omega⟩) dX10_goes_115 ?_
                  refine lv_topi (fun z_543 ez_543 => ?_)
                  have qz_543 := congrArg Int32.toInt ez_543
                  refine lv_if_ne (tgt := 133) hx hb dX10_goes_116 (by decide) (fun c_544 => ?_) (fun c_544 => ?_)
                  · simp only [i_lt, i_le, i_eq, ti_0] at c_544
                    obtain ⟨y_545, ey_545⟩ : ∃ q : Int32, q = x_499 + (1) := ⟨_, rfl⟩
                    refine lv_iinc (v := y_545) (lv' := [(3, .int y_545), (0, .ref h0), (1, .int v1), (2, .int v2)]) hx hb dX10_goes_133 hl (k := 0) rfl (by rw [ey_545]; rfl) (by decide) rfl (fun ls hl => ?_)
                    have ty_545 : y_545.toInt = x_499.toInt + (1) := ar_add rfl ti_1 ey_545 (by omega)
                    refine lv_goto (tgt := 82) hx hb dX10_goes_136 (by decide) ?_
                    exact ih_503 y_545 F_500 n_501 (I10_mono (k := kp) ⟨b_507, b_508, b_509, b_510, b_511, b_512, b_513, b_514, b_515, b_516, b_517, b_518, i_519, i_520, i_521, i_522, i_523, i_524, i_525, j_526, j_527, j_528, j_529, j_530, j_531, j_532, j_533, j_534, j_535⟩ (by omega)) H locs ls (by omega) (by omega) hP hD hS (lv_sub hl [0, 1, 2, 3] rfl)
                  · simp only [i_lt, i_le, i_eq, ti_0] at c_544
                    refine lv_aload_n hx hb dX10_goes_119 rfl (lv_at hl 1 rfl) ?_
                    refine va_get (D := (dC, dI)) (ci := 10) (v := .ref (X 32)) (C := RX10) (T := TX10) (N := 60) hx hb hg gb_10 hown hK hP 0 rfl rfl 32 (by decide) (hg _ gm_fieldLink_RX10_102_ErrandGuildModel_isUncaught_AZ_) (fun _ h9 => h9) rfl dX10_goes_120 ?_
                    refine lv_iload_n hx hb dX10_goes_123 rfl (lv_at hl 0 rfl) ?_
                    refine va_zald hx hb hK hP 30 29 rfl rfl (vp_in_iff.mpr ⟨by omega, by omega⟩) dX10_goes_124 ?_
                    refine lv_topi (fun z_546 ez_546 => ?_)
                    have qz_546 := congrArg Int32.toInt ez_546
                    refine lv_if_ne (tgt := 133) hx hb dX10_goes_125 (by decide) (fun c_547 => ?_) (fun c_547 => ?_)
                    · simp only [i_lt, i_le, i_eq, ti_0] at c_547
                      obtain ⟨y_548, ey_548⟩ : ∃ q : Int32, q = x_499 + (1) := ⟨_, rfl⟩
                      refine lv_iinc (v := y_548) (lv' := [(3, .int y_548), (0, .ref h0), (1, .int v1), (2, .int v2)]) hx hb dX10_goes_133 hl (k := 0) rfl (by rw [ey_548]; rfl) (by decide) rfl (fun ls hl => ?_)
                      have ty_548 : y_548.toInt = x_499.toInt + (1) := ar_add rfl ti_1 ey_548 (by omega)
                      refine lv_goto (tgt := 82) hx hb dX10_goes_136 (by decide) ?_
                      exact ih_503 y_548 F_500 n_501 (I10_mono (k := kp) ⟨b_507, b_508, b_509, b_510, b_511, b_512, b_513, b_514, b_515, b_516, b_517, b_518, i_519, i_520, i_521, i_522, i_523, i_524, i_525, j_526, j_527, j_528, j_529, j_530, j_531, j_532, j_533, j_534, j_535⟩ (by omega)) H locs ls (by omega) (by omega) hP hD hS (lv_sub hl [0, 1, 2, 3] rfl)
                    · simp only [i_lt, i_le, i_eq, ti_0] at c_547
                      refine lv_aload_n hx hb dX10_goes_128 rfl (lv_at hl 1 rfl) ?_
                      refine lv_iload_n hx hb dX10_goes_129 rfl (lv_at hl 0 rfl) ?_
                      have hFc := free_all hD hS hA
                      refine va_callv (va_runV (As := [.int x_499]) (rest := []) ⟨hx, hb, hml, hown, hg⟩ (c_X10_asks l dC dI kp h0 X C F_500 n_501 x_499 H.size ⟨b_507, b_508, b_509, b_510, b_511, b_512, b_513, b_514, b_515, b_516, b_517, b_518, i_519, i_520, i_521, i_522, i_523, i_524, i_525, j_526, j_527, j_528, j_529, j_530, j_531, j_532, j_533, j_534, j_535⟩ (by omega) (by show x_499.toInt < ((n_501 11)).toInt; omega) (by show ((F_500 32) (Int32.toNatClampNeg x_499)).toInt = 0; omega) (by show ((F_500 13) (Int32.toNatClampNeg x_499)).toInt = 4; omega)) (cwV 1 hg (gw_V gm_methodLink_RX10_218_yX10_asks gm_instanceMethod_yX10_asks gm_selects_RX10_yX10_asks_yX10_asks gm_initialized_RX10 gm_code_yX10_asks_cX10_asks_5_none) rfl rfl rfl (by decide +kernel) ⟨Nat.le_of_ble_eq_true rfl, Nat.le_of_ble_eq_true rfl⟩) ⟨fun a U g mk q => by obtain ⟨q0, q1, qP, qK, qD, qN⟩ := q; exact ⟨q0, q1, qP, va_K.moved (u := U) (U := U.calling g mk a) (Vm.Alike.refl U.vm) qK, qD, nx_same (u := U) (U := U.calling g mk a) rfl qN⟩, va_recv hK hP (ci := 10) (q0 := 0) rfl rfl, fun U hU hW => ⟨rfl, by rw [hU], by rw [hU]; exact hP, va_K.moved hW.alike hK, hD.weaken (fun _ _ _ _ => trivial), nx_warm hW hN⟩⟩ rfl rfl hl.1 rfl (lv_room (Nat.le_of_ble_eq_true rfl)) dX10_goes_130 ⟨Nat.le_of_ble_eq_true rfl, Nat.le_of_ble_eq_true rfl⟩) hS (fun q _ h => hFc q h) hFc (fun u_550 t H1 locs ht hvm hw hB hz1 hk1 hS => ?_)
                      obtain ⟨F_551, n_552⟩ := u_550
                      obtain ⟨hP, hD, hI_553⟩ := hB
                      have hI_553 : I10 kp F_551 n_552 := hI_553
                      obtain ⟨b_554, b_555, b_556, b_557, b_558, b_559, b_560, b_561, b_562, b_563, b_564, b_565, i_566, i_567, i_568, i_569, i_570, i_571, i_572, j_573, j_574, j_575, j_576, j_577, j_578, j_579, j_580, j_581, j_582⟩ := id hI_553
                      rw [ht] at hP
                      have hD := hD.weaken (fun k q _ h => hFc _ h)
                      generalize H1 = H at hP hS ⊢
                      have hP : va_P (dC, dI) vwCl (w10 h0 X C F_551 n_552) H := hP
                      have hD : va_D A (w10 h0 X C F_551 n_552) := hD
                      obtain ⟨y_583, ey_583⟩ : ∃ q : Int32, q = x_499 + (1) := ⟨_, rfl⟩
                      refine lv_iinc (v := y_583) (lv' := [(3, .int y_583), (0, .ref h0), (1, .int v1), (2, .int v2)]) hx hb dX10_goes_133 hl (k := 0) rfl (by rw [ey_583]; rfl) (by decide) rfl (fun ls hl => ?_)
                      have ty_583 : y_583.toInt = x_499.toInt + (1) := ar_add rfl ti_1 ey_583 (by omega)
                      refine lv_goto (tgt := 82) hx hb dX10_goes_136 (by decide) ?_
                      exact ih_503 y_583 F_551 n_552 (I10_mono (k := kp) ⟨b_554, b_555, b_556, b_557, b_558, b_559, b_560, b_561, b_562, b_563, b_564, b_565, i_566, i_567, i_568, i_569, i_570, i_571, i_572, j_573, j_574, j_575, j_576, j_577, j_578, j_579, j_580, j_581, j_582⟩ (by omega)) H locs ls (by omega) (by omega) hP hD hS (lv_sub hl [0, 1, 2, 3] rfl)
        exact L82 _ z_498 F_42 n_43 (I10_mono (k := kp) ⟨b_45, b_46, b_47, b_48, b_49, b_50, b_51, b_52, b_53, b_54, b_55, b_56, i_57, i_58, i_59, i_60, i_61, i_62, i_63, j_64, j_65, j_66, j_67, j_68, j_69, j_70, j_71, j_72, j_73⟩ (by omega)) _ _ _ (Nat.lt_succ_self _) (by omega) hP hD hS (lv_sub hl [0, 1, 2, 3] rfl)
