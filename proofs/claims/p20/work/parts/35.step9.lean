set_option maxHeartbeats 8000000 in
set_option maxRecDepth 100000 in
theorem c_X9_doStep (l : Launch) (dC : Nat → ClassId) (dI : Nat → Nat → Nat) (kc : Nat → ClassId) (ws : va_W) (ad : Nat → Nat) (ga : Nat → Nat) (gc : Nat → Nat) (M : Nat) (n : Nat → Int32) (f : Nat → Nat → Int32) (T : Nat → Option Nat) (G : Nat → Nat → Int32) (K : Nat → Nat → Option Nat) (F : Nat → Nat → Nat → Int32) (R : Nat) (i : Nat) (sz hz : Nat) (hQ : Pic9 kc ws ad ga gc M n f T G K F) (hI : I9 M n f T gc G K F R) (hi : i < M) (hin : (i : Int) < (n 0).toInt) (hR : R + 1 ≤ 310000) : Met l yX9_doStep (.code yX9_doStep cX9_doStep 6 (some .int) :: gw) ({ frames := 5, cells := 40000, slots := 1250000, locals := 149 }) (va_Pc [.ref (ad 0), .ref (ad (50 + 16 * i))] (fun U => U.heap.size = sz ∧ hpS U.heap = hz ∧ va_P (dC, dI) vwCl ws U.heap ∧ va_K (dC, dI) vwCl (t9 kc) U ∧ va_D (fun _ => True) ws ∧ nx U)) (va_Qi (fun (r : Int32) (u : (Nat → Nat) × (Nat → Nat) × (Nat → Nat) × Nat × (Nat → Int32) × (Nat → Nat → Int32) × (Nat → Option Nat) × (Nat → Nat → Int32) × (Nat → Nat → Option Nat) × (Nat → Nat → Nat → Int32)) => ((C9.mk u.2.2.2.2.1 u.2.2.2.2.2.1 T u.2.2.2.2.2.2.2.1 u.2.2.2.2.2.2.2.2.1 u.2.2.2.2.2.2.2.2.2), r) = kh_step i (C9.mk n f T G K F)) (fun u t => ∃ w : va_W, va_P (dC, dI) vwCl w t.heap ∧ va_D (va_A ws sz) w ∧ Pic9 kc w u.1 u.2.1 u.2.2.1 u.2.2.2.1 u.2.2.2.2.1 u.2.2.2.2.2.1 T u.2.2.2.2.2.2.2.1 u.2.2.2.2.2.2.2.2.1 u.2.2.2.2.2.2.2.2.2 ∧ I9 u.2.2.2.1 u.2.2.2.2.1 u.2.2.2.2.2.1 T u.2.2.1 u.2.2.2.2.2.2.2.1 u.2.2.2.2.2.2.2.2.1 u.2.2.2.2.2.2.2.2.2 (R + 1) ∧ hpS t.heap + (260 * M + 2 * S9 M gc) ≤ hz + (260 * u.2.2.2.1 + 2 * S9 u.2.2.2.1 u.2.2.1) ∧ 16 * t.heap.size + (256 * M + S9 M gc) ≤ 16 * sz + (256 * u.2.2.2.1 + S9 u.2.2.2.1 u.2.2.1) ∧ (n 0).toInt ≤ (u.2.2.2.2.1 0).toInt ∧ (∀ q : Nat, q < 50 + 16 * M → u.1 q = ad q) ∧ M ≤ u.2.2.2.1) (va_A ws sz)) 40000 1250000 (va_A ws sz) := by
  refine Met.ofW (cc := cX9_doStep) (maxL := 6) (ret := (some .int)) (by decide) rfl ?_
  intro p e s m args below meth c s₁ B hml hv
  obtain ⟨rfl, hsz, rfl, hP, hK, hD0, hN⟩ := hv
  have hx := B.exec
  have hb := B.bytes
  have hr := B.returns
  have hts := atoms_spec (ws := .code yX9_doStep cX9_doStep 6 (some .int) :: gw) B.pre
  have hg : ∀ w ∈ gw, w.before _ s = true := fun w h => hts w (List.mem_cons_of_mem _ h)
  have hown : s.vm.findClass RX9 = some m.cls := findClass_of_methodNamed B.named
  have hlocks := B.notSynchronized
  subst hsz
  have hD := hD0.self (sz := s.heap.size)
  generalize hAe : va_A ws s.heap.size = A at hD ⊢
  have hA : ∀ q : Nat, s.heap.size ≤ q → A q := fun q h => by rw [← hAe]; exact Or.inr h
  clear hAe
  have hS : va_S A s.heap s.heap [] := va_S.rf
  have hl := lv_entry ([.ref (ad 0), .ref (ad (50 + 16 * i))]) (n := 6) (Nat.le_of_ble_eq_true rfl)
  rw [lg_entry_eq]
  generalize (lg_sl ([.ref (ad 0), .ref (ad (50 + 16 * i))]) ++ List.replicate (6 - (lg_sl ([.ref (ad 0), .ref (ad (50 + 16 * i))])).length) Slot.unset).toArray = ls at hl ⊢
  have hl : lv_has ls 6 [(0, .ref (ad 0)), (1, .ref (ad (50 + 16 * i)))] := hl
  obtain ⟨h_i1, h_i2, h_i3, h_i4, h_i5, h_i6, h_i7, h_i8, h_i9, h_i10, h_i11⟩ := id hI
  have q1_ := h_i1
  unfold i1 at q1_
  have hSl0 := S9_le h_i8 h_i9
  have hb0_ := h_i8.2.1 0 (by omega)
  have hb1_ := h_i8.2.1 1 (by omega)
  have hb2_ := h_i8.2.1 2 (by omega)
  have hr1 : 0 + (260 * M + 2 * S9 M gc) ≤ (260 * M + 2 * S9 M gc) := by omega
  have hr2 : 16 * 0 + (256 * M + S9 M gc) ≤ (256 * M + S9 M gc) := by omega
  obtain ⟨ce, hce⟩ : ∃ q : Nat, q = 0 := ⟨_, rfl⟩
  obtain ⟨se, hse⟩ : ∃ q : Nat, q = 0 := ⟨_, rfl⟩
  rw [← hse] at hr1
  have hr2 : 16 * ce + (256 * M + S9 M gc) ≤ (256 * M + S9 M gc) := by omega
  refine W.widen (k := ce) (n := se) (Nat.zero_le _) (Nat.zero_le _) ?_
  exact by
   refine lv_aload_n hx hb dX9_doStep_0 rfl (lv_at hl 0 rfl) ?_
   refine lv_aload_n hx hb dX9_doStep_1 rfl (lv_at hl 1 rfl) ?_
   refine va_get (D := (dC, dI)) (ci := 7) (v := .int (G i 1)) (C := RX7) (T := TX7) (N := 15) hx hb hg gb_7 hown hK hP (50 + 16 * i) (hQ.b0 hi) rfl 1 (by decide) (hg _ gm_fieldLink_RX9_148_ErrandGuild_Run_errand_I_) (fun _ h9 => h9) rfl dX9_doStep_2 ?_
   have hFc := free_all hD hS hA
   refine W_msr2 (fun hm1 hm2 hm3 => ?_)
   refine va_callq (va_runV (As := [.int (G i 1)]) (rest := []) ⟨hx, hb, hml, hown, hg⟩ (c9_X9_errandAt l dC dI kc ws ad ga gc M n f T G K F R (G i 1) s.heap.size (hpS s.heap) hQ ⟨h_i1, h_i2, h_i3, h_i4, h_i5, h_i6, h_i7, h_i8, h_i9, h_i10, h_i11⟩) (cwV 1 hg (gw_V gm_methodLink_RX9_69_yX9_errandAt gm_instanceMethod_yX9_errandAt gm_selects_RX9_yX9_errandAt_yX9_errandAt gm_initialized_RX9 gm_code_yX9_errandAt_cX9_errandAt_2_some_object_ErrandGuild_Errand_) rfl rfl rfl (by decide +kernel) ⟨Nat.le_of_ble_eq_true rfl, Nat.le_of_ble_eq_true rfl⟩) ⟨fun a U g mk q => by obtain ⟨q0, q1, q2, qP, qK, qD, qN⟩ := q; exact ⟨q0, q1, q2, qP, va_K.moved (u := U) (U := U.calling g mk a) (Vm.Alike.refl U.vm) qK, qD, nx_same (u := U) (U := U.calling g mk a) rfl qN⟩, va_recv hK hP (ci := 9) (q0 := 0) rfl hQ.x0, fun U hU hW => ⟨rfl, by rw [hU], by rw [hU], by rw [hU]; exact hP, va_K.moved hW.alike hK, hD.weaken (fun _ _ _ _ => trivial), nx_warm hW hN⟩⟩ rfl rfl hl.1 rfl (lv_room (Nat.le_of_ble_eq_true rfl)) dX9_doStep_5 ⟨by show ce + 0 ≤ 40000; omega, by show se + 0 ≤ 1250000; omega⟩) hS (fun q _ h => hFc q h) hFc (fun r_1 u_2 t H1 locs ht hvm hw hB hz1 hk1 hS => ?_)
   obtain ⟨hP, hD, hy1, hy2⟩ := hB
   rw [ht] at hP hy1 hy2
   have hD := hD.weaken (fun k q _ h => hFc _ h)
   refine W.widen (k := ce) (n := se) (Nat.le_refl _) (Nat.le_refl _) ?_
   have q1_ := h_i1
   unfold i1 at q1_
   generalize H1 = H at hP hS ⊢
   rcases hw with ⟨rfl, w_3⟩ | ⟨rfl, w_3⟩
   · have w_3 : (0 ≤ (G i 1).toInt ∧ (G i 1).toInt < 8) := w_3
     have hl_4 : (G i 1).toInt.toNat < 8 := by omega
     refine W.eq (g2 := F0 m 8 ls [.ref (ad (4 + 4 * ((G i 1).toInt.toNat)))]) rfl ?_
     exact by
      refine lv_astore_n (lv' := [(2, .ref (ad (4 + 4 * ((G i 1).toInt.toNat)))), (0, .ref (ad 0)), (1, .ref (ad (50 + 16 * i)))]) hx hb dX9_doStep_8 rfl hl (by decide) rfl (fun ls hl => ?_)
      refine lv_aload_n hx hb dX9_doStep_9 rfl (lv_at hl 2 rfl) ?_
      refine va_get (D := (dC, dI)) (ci := 7) (v := .int (G i 6)) (C := RX7) (T := TX7) (N := 15) hx hb hg gb_7 hown hK hP (50 + 16 * i) (hQ.b0 hi) rfl 6 (by decide) (hg _ gm_fieldLink_RX9_174_ErrandGuild_Run_place_I_) (fun _ h9 => h9) rfl dX9_doStep_10 ?_
      refine lv_istore_n (lv' := [(3, .int (G i 6)), (2, .ref (ad (4 + 4 * ((G i 1).toInt.toNat)))), (0, .ref (ad 0)), (1, .ref (ad (50 + 16 * i)))]) hx hb dX9_doStep_13 rfl hl (by decide) rfl (fun ls hl => ?_)
      refine lv_aload_n hx hb dX9_doStep_14 rfl (lv_at hl 1 rfl) ?_
      refine lv_ifnull hx hb dX9_doStep_15 ?_
      refine lv_iload_n hx hb dX9_doStep_18 rfl (lv_at hl 0 rfl) ?_
      refine lv_if_lt (tgt := 36) hx hb dX9_doStep_19 (by decide) (fun c_5 => ?_) (fun c_5 => ?_)
      · simp only [i_lt, i_le, i_eq, ti_0] at c_5
        refine lv_aload_n hx hb dX9_doStep_36 rfl (lv_at hl 2 rfl) ?_
        refine lv_aload_n hx hb dX9_doStep_37 rfl (lv_at hl 3 rfl) ?_
        have hFc := free_all hD hS hA
        refine W_msr2 (fun hm1 hm2 hm3 => ?_)
        exact by
         refine va_calli (va_runV (As := [.ref (ad (50 + 16 * i))]) (rest := []) ⟨hx, hb, hml, hown, hg⟩ (c_X9_end l dC dI kc ws ad ga gc M n f T G K F R i H.size (hpS H) hQ ⟨h_i1, h_i2, h_i3, h_i4, h_i5, h_i6, h_i7, h_i8, h_i9, h_i10, h_i11⟩ (by show i < M; omega)) (cwV 1 hg (gw_V gm_methodLink_RX9_328_yX9_end gm_instanceMethod_yX9_end gm_selects_RX9_yX9_end_yX9_end gm_initialized_RX9 gm_code_yX9_end_cX9_end_2_some_int_) rfl rfl rfl (by decide +kernel) ⟨Nat.le_of_ble_eq_true rfl, Nat.le_of_ble_eq_true rfl⟩) ⟨fun a U g mk q => by obtain ⟨q0, q1, q2, qP, qK, qD, qN⟩ := q; exact ⟨q0, q1, q2, qP, va_K.moved (u := U) (U := U.calling g mk a) (Vm.Alike.refl U.vm) qK, qD, nx_same (u := U) (U := U.calling g mk a) rfl qN⟩, va_recv hK hP (ci := 9) (q0 := 0) rfl hQ.x0, fun U hU hW => ⟨rfl, by rw [hU], by rw [hU], by rw [hU]; exact hP, va_K.moved hW.alike hK, hD.weaken (fun _ _ _ _ => trivial), nx_warm hW hN⟩⟩ rfl rfl hl.1 rfl (lv_room (Nat.le_of_ble_eq_true rfl)) dX9_doStep_38 ⟨by show ce + 0 ≤ 40000; omega, by show se + 0 ≤ 1250000; omega⟩) hS (fun q _ h => hFc q h) hFc (fun r_6 u_7 t H1 locs ht hvm hw hB hz1 hk1 hS => ?_)
         obtain ⟨ad_8, ga_9, gc_10, M_11, n_12, f_13, T_14, G_15, K_16, F_17⟩ := u_7
         have hB : ∃ w : va_W, va_P (dC, dI) vwCl w t.heap ∧ va_D (va_A ws H.size) w ∧ Pic9 kc w ad ga gc M n f T G_15 K F ∧ I9 M n f T gc G_15 K F R ∧ hpS t.heap + (260 * M + 2 * S9 M gc) ≤ hpS H + (260 * M + 2 * S9 M gc) ∧ 16 * t.heap.size + (256 * M + S9 M gc) ≤ 16 * H.size + (256 * M + S9 M gc) := hB
         rw [ht] at hB
         obtain ⟨ws_18, hP, hD, hQ, hI_19, hy1, hy2⟩ := hB
         have hD := hD.weaken (fun k q _ h => hFc _ h)
         obtain ⟨i1_20, i2_21, i3_22, i4_23, i5_24, i6_25, i7_26, i8_27, i9_28, i10_29, i11_30⟩ := id hI_19
         have q1_ := i1_20
         unfold i1 at q1_
         have hSl := S9_le i8_27 i9_28
         have hb0_ := i8_27.2.1 0 (by omega)
         have hb1_ := i8_27.2.1 1 (by omega)
         have hb2_ := i8_27.2.1 2 (by omega)
         refine W_msr2 (fun hn1 hn2 hn3 => ?_)
         obtain ⟨ce2, se2, hk3, hk4, hr1, hr2⟩ : ∃ c2 s2 : Nat, H1.size ≤ s.heap.size + c2 ∧ hpS H1 ≤ hpS s.heap + s2 ∧ s2 + (260 * M + 2 * S9 M gc) ≤ (260 * M + 2 * S9 M gc) ∧ 16 * c2 + (256 * M + S9 M gc) ≤ (256 * M + S9 M gc) := ⟨H1.size - s.heap.size, hpS H1 - hpS s.heap, by omega, by omega, by have := hS.1; omega, by have := hS.1; omega⟩
         refine W_tightP hk3 hk4 ?_
         clear hm1 hm2 hm3 hn1 hn2 hn3 hk3 hk4
         clear hk1 hz1
         generalize ce2 = ce, se2 = se at hr1 hr2 ⊢
         generalize H1 = H at hP hS ⊢
         have hc_32 : ((C9.mk n f T G_15 K F), r_6) = k_end i (C9.mk n f T G K F) := hw
         refine W_msr2 (fun hm1 hm2 hm3 => ?_)
         have hSl := S9_le i8_27 i9_28
         have hb0_ := i8_27.2.1 0 (by omega)
         have hb1_ := i8_27.2.1 1 (by omega)
         have hb2_ := i8_27.2.1 2 (by omega)
         refine W.widen (k := 40000) (n := 1250000) (by omega) (by omega) ?_
         exact W.iret (v := r_6) hx hb hr (fun t ht hW => ⟨⟨r_6, (ad, ga, gc, M, n, f, T, G_15, K, F), rfl, (by show ((C9.mk n f T G_15 K F), r_6) = kh_step i (C9.mk n f T G K F); have hX := (kh_step.eq_1 i (C9.mk n f T G K F)).symm; (repeat (first | dsimp +instances only [c9n, c9f, c9T, c9G, c9K, c9F, b_come, b_leave, b_fill, awB, b_settle, b_wake, b_take, f_take, b_gather, f_gather, b_ask, a_ask, b_tell, c_close, d_close, k_add, k_rem, sco, k_clrF, k_mem, k_rebind, k_bnd, k_beg0, k_beg1, b_giveN, b_giveR, f_open, b_hand, k_op, b_turn, wlB, b_beat, f_anew, b_wipe, b_off, k_sadd, fits, frP, cntB, b_trace, b_child, k_lat, cond_true, cond_false, Option.elim_none, Option.elim_some, Option.getD_none, Option.getD_some, f_hand, kh_op, bh_turn, bh_beat] at hX | rw [← hc_32] at hX | rw [if_pos (by first | with_reducible assumption | omega)] at hX | rw [if_neg (by first | with_reducible assumption | omega)] at hX | rw [jx_of (by omega)] at hX)); first | exact hX | (exfalso; omega) | exact hX), ws_18, by rw [ht]; exact hP, hD, hQ, I9.mono (R := R) ⟨i1_20, i2_21, i3_22, i4_23, i5_24, i6_25, i7_26, i8_27, i9_28, i10_29, i11_30⟩ (by omega), by rw [ht]; show hpS H + (260 * M + 2 * S9 M gc) ≤ hpS s.heap + (260 * M + 2 * S9 M gc); omega, by rw [ht]; show 16 * H.size + (256 * M + S9 M gc) ≤ 16 * s.heap.size + (256 * M + S9 M gc); omega, by show (n 0).toInt ≤ (n 0).toInt; omega, (fun _ _ => rfl), by show M ≤ M; omega⟩, hS.F ht⟩) hS.2.2 dX9_doStep_41
      · simp only [i_lt, i_le, i_eq, ti_0] at c_5
        refine lv_iload_n hx hb dX9_doStep_22 rfl (lv_at hl 0 rfl) ?_
        refine lv_aload_n hx hb dX9_doStep_23 rfl (lv_at hl 1 rfl) ?_
        refine va_get (D := (dC, dI)) (ci := 1) (v := .int (n (6 + ((G i 1).toInt.toNat)))) (C := RX1) (T := TX1) (N := 4) hx hb hg gb_1 hown hK hP (4 + 4 * ((G i 1).toInt.toNat)) (hQ.e0 hl_4) rfl 3 (by decide) (hg _ gm_fieldLink_RX9_73_ErrandGuild_Errand_count_I_) (fun _ h9 => h9) rfl dX9_doStep_24 ?_
        refine lv_icmp_ge (tgt := 36) hx hb dX9_doStep_27 (by decide) (fun c_33 => ?_) (fun c_33 => ?_)
        · simp only [i_lt, i_le, i_eq] at c_33
          refine lv_aload_n hx hb dX9_doStep_36 rfl (lv_at hl 2 rfl) ?_
          refine lv_aload_n hx hb dX9_doStep_37 rfl (lv_at hl 3 rfl) ?_
          have hFc := free_all hD hS hA
          refine W_msr2 (fun hm1 hm2 hm3 => ?_)
          refine va_calli (va_runV (As := [.ref (ad (50 + 16 * i))]) (rest := []) ⟨hx, hb, hml, hown, hg⟩ (c_X9_end l dC dI kc ws ad ga gc M n f T G K F R i H.size (hpS H) hQ ⟨h_i1, h_i2, h_i3, h_i4, h_i5, h_i6, h_i7, h_i8, h_i9, h_i10, h_i11⟩ (by show i < M; omega)) (cwV 1 hg (gw_V gm_methodLink_RX9_328_yX9_end gm_instanceMethod_yX9_end gm_selects_RX9_yX9_end_yX9_end gm_initialized_RX9 gm_code_yX9_end_cX9_end_2_some_int_) rfl rfl rfl (by decide +kernel) ⟨Nat.le_of_ble_eq_true rfl, Nat.le_of_ble_eq_true rfl⟩) ⟨fun a U g mk q => by obtain ⟨q0, q1, q2, qP, qK, qD, qN⟩ := q; exact ⟨q0, q1, q2, qP, va_K.moved (u := U) (U := U.calling g mk a) (Vm.Alike.refl U.vm) qK, qD, nx_same (u := U) (U := U.calling g mk a) rfl qN⟩, va_recv hK hP (ci := 9) (q0 := 0) rfl hQ.x0, fun U hU hW => ⟨rfl, by rw [hU], by rw [hU], by rw [hU]; exact hP, va_K.moved hW.alike hK, hD.weaken (fun _ _ _ _ => trivial), nx_warm hW hN⟩⟩ rfl rfl hl.1 rfl (lv_room (Nat.le_of_ble_eq_true rfl)) dX9_doStep_38 ⟨by show ce + 0 ≤ 40000; omega, by show se + 0 ≤ 1250000; omega⟩) hS (fun q _ h => hFc q h) hFc (fun r_34 u_35 t H1 locs ht hvm hw hB hz1 hk1 hS => ?_)
          obtain ⟨ad_36, ga_37, gc_38, M_39, n_40, f_41, T_42, G_43, K_44, F_45⟩ := u_35
          have hB : ∃ w : va_W, va_P (dC, dI) vwCl w t.heap ∧ va_D (va_A ws H.size) w ∧ Pic9 kc w ad ga gc M n f T G_43 K F ∧ I9 M n f T gc G_43 K F R ∧ hpS t.heap + (260 * M + 2 * S9 M gc) ≤ hpS H + (260 * M + 2 * S9 M gc) ∧ 16 * t.heap.size + (256 * M + S9 M gc) ≤ 16 * H.size + (256 * M + S9 M gc) := hB
          rw [ht] at hB
          obtain ⟨ws_46, hP, hD, hQ, hI_47, hy1, hy2⟩ := hB
          have hD := hD.weaken (fun k q _ h => hFc _ h)
          obtain ⟨i1_48, i2_49, i3_50, i4_51, i5_52, i6_53, i7_54, i8_55, i9_56, i10_57, i11_58⟩ := id hI_47
          have q1_ := i1_48
          unfold i1 at q1_
          have hSl := S9_le i8_55 i9_56
          have hb0_ := i8_55.2.1 0 (by omega)
          have hb1_ := i8_55.2.1 1 (by omega)
          have hb2_ := i8_55.2.1 2 (by omega)
          refine W_msr2 (fun hn1 hn2 hn3 => ?_)
          obtain ⟨ce2, se2, hk3, hk4, hr1, hr2⟩ : ∃ c2 s2 : Nat, H1.size ≤ s.heap.size + c2 ∧ hpS H1 ≤ hpS s.heap + s2 ∧ s2 + (260 * M + 2 * S9 M gc) ≤ (260 * M + 2 * S9 M gc) ∧ 16 * c2 + (256 * M + S9 M gc) ≤ (256 * M + S9 M gc) := ⟨H1.size - s.heap.size, hpS H1 - hpS s.heap, by omega, by omega, by have := hS.1; omega, by have := hS.1; omega⟩
          refine W_tightP hk3 hk4 ?_
          clear hm1 hm2 hm3 hn1 hn2 hn3 hk3 hk4
          clear hk1 hz1
          generalize ce2 = ce, se2 = se at hr1 hr2 ⊢
          generalize H1 = H at hP hS ⊢
          have hc_60 : ((C9.mk n f T G_43 K F), r_34) = k_end i (C9.mk n f T G K F) := hw
          refine W_msr2 (fun hm1 hm2 hm3 => ?_)
          have hSl := S9_le i8_55 i9_56
          have hb0_ := i8_55.2.1 0 (by omega)
          have hb1_ := i8_55.2.1 1 (by omega)
          have hb2_ := i8_55.2.1 2 (by omega)
          refine W.widen (k := 40000) (n := 1250000) (by omega) (by omega) ?_
          exact W.iret (v := r_34) hx hb hr (fun t ht hW => ⟨⟨r_34, (ad, ga, gc, M, n, f, T, G_43, K, F), rfl, (by show ((C9.mk n f T G_43 K F), r_34) = kh_step i (C9.mk n f T G K F); have hX := (kh_step.eq_1 i (C9.mk n f T G K F)).symm; (repeat (first | dsimp +instances only [c9n, c9f, c9T, c9G, c9K, c9F, b_come, b_leave, b_fill, awB, b_settle, b_wake, b_take, f_take, b_gather, f_gather, b_ask, a_ask, b_tell, c_close, d_close, k_add, k_rem, sco, k_clrF, k_mem, k_rebind, k_bnd, k_beg0, k_beg1, b_giveN, b_giveR, f_open, b_hand, k_op, b_turn, wlB, b_beat, f_anew, b_wipe, b_off, k_sadd, fits, frP, cntB, b_trace, b_child, k_lat, cond_true, cond_false, Option.elim_none, Option.elim_some, Option.getD_none, Option.getD_some, f_hand, kh_op, bh_turn, bh_beat] at hX | rw [← hc_60] at hX | rw [if_pos (by first | with_reducible assumption | omega)] at hX | rw [if_neg (by first | with_reducible assumption | omega)] at hX | rw [jx_of (by omega)] at hX)); first | exact hX | (exfalso; omega) | exact hX), ws_46, by rw [ht]; exact hP, hD, hQ, I9.mono (R := R) ⟨i1_48, i2_49, i3_50, i4_51, i5_52, i6_53, i7_54, i8_55, i9_56, i10_57, i11_58⟩ (by omega), by rw [ht]; show hpS H + (260 * M + 2 * S9 M gc) ≤ hpS s.heap + (260 * M + 2 * S9 M gc); omega, by rw [ht]; show 16 * H.size + (256 * M + S9 M gc) ≤ 16 * s.heap.size + (256 * M + S9 M gc); omega, by show (n 0).toInt ≤ (n 0).toInt; omega, (fun _ _ => rfl), by show M ≤ M; omega⟩, hS.F ht⟩) hS.2.2 dX9_doStep_41
        · simp only [i_lt, i_le, i_eq] at c_33
          exact by
           refine lv_iload_n hx hb dX9_doStep_30 rfl (lv_at hl 0 rfl) ?_
           refine lv_bipush (v := 24) hx hb dX9_doStep_31 (by decide) ?_
           refine lv_icmp_lt (tgt := 42) hx hb dX9_doStep_33 (by decide) (fun c_61 => ?_) (fun c_61 => ?_)
           · simp only [i_lt, i_le, i_eq, ti_24] at c_61
             refine lv_aload_n hx hb dX9_doStep_42 rfl (lv_at hl 1 rfl) ?_
             refine va_get (D := (dC, dI)) (ci := 1) (v := .ref (ad (4 + 4 * ((G i 1).toInt.toNat) + 2))) (C := RX1) (T := TX1) (N := 4) hx hb hg gb_1 hown hK hP (4 + 4 * ((G i 1).toInt.toNat)) (hQ.e0 hl_4) rfl 1 (by decide) (hg _ gm_fieldLink_RX9_331_ErrandGuild_Errand_as_AI_) (fun _ h9 => h9) rfl dX9_doStep_43 ?_
             refine lv_iload_n hx hb dX9_doStep_46 rfl (lv_at hl 0 rfl) ?_
             refine va_iald (f := f (3 + 3 * ((G i 1).toInt.toNat))) hx hb hK hP (4 + 4 * ((G i 1).toInt.toNat) + 2) 0 (hQ.e2 hl_4) rfl (vp_in_iff.mpr ⟨by omega, by omega⟩) dX9_doStep_47 ?_
             refine lv_topi (fun z_62 ez_62 => ?_)
             have ez_62 : z_62 = f (3 + 3 * ((G i 1).toInt.toNat)) (G i 6).toInt.toNat := ez_62
             have qz_62 := congrArg Int32.toInt ez_62
             refine lv_istore (lv' := [(4, .int z_62), (3, .int (G i 6)), (2, .ref (ad (4 + 4 * ((G i 1).toInt.toNat)))), (0, .ref (ad 0)), (1, .ref (ad (50 + 16 * i)))]) hx hb dX9_doStep_48 hl (by decide) rfl (fun ls hl => ?_)
             exact by
              refine lv_aload_n hx hb dX9_doStep_50 rfl (lv_at hl 2 rfl) ?_
              refine va_get (D := (dC, dI)) (ci := 1) (v := .ref (ad (4 + 4 * ((G i 1).toInt.toNat) + 3))) (C := RX1) (T := TX1) (N := 4) hx hb hg gb_1 hown hK hP (4 + 4 * ((G i 1).toInt.toNat)) (hQ.e0 hl_4) rfl 2 (by decide) (hg _ gm_fieldLink_RX9_334_ErrandGuild_Errand_bs_AI_) (fun _ h9 => h9) rfl dX9_doStep_51 ?_
              refine lv_iload_n hx hb dX9_doStep_54 rfl (lv_at hl 1 rfl) ?_
              refine va_iald (f := f (4 + 3 * ((G i 1).toInt.toNat))) hx hb hK hP (4 + 4 * ((G i 1).toInt.toNat) + 3) 0 (hQ.e3 hl_4) rfl (vp_in_iff.mpr ⟨by omega, by omega⟩) dX9_doStep_55 ?_
              refine lv_topi (fun z_63 ez_63 => ?_)
              have ez_63 : z_63 = f (4 + 3 * ((G i 1).toInt.toNat)) (G i 6).toInt.toNat := ez_63
              have qz_63 := congrArg Int32.toInt ez_63
              refine lv_istore (lv' := [(5, .int z_63), (4, .int z_62), (3, .int (G i 6)), (2, .ref (ad (4 + 4 * ((G i 1).toInt.toNat)))), (0, .ref (ad 0)), (1, .ref (ad (50 + 16 * i)))]) hx hb dX9_doStep_56 hl (by decide) rfl (fun ls hl => ?_)
              refine lv_aload_n hx hb dX9_doStep_58 rfl (lv_at hl 3 rfl) ?_
              refine va_get (D := (dC, dI)) (ci := 1) (v := .ref (ad (4 + 4 * ((G i 1).toInt.toNat) + 1))) (C := RX1) (T := TX1) (N := 4) hx hb hg gb_1 hown hK hP (4 + 4 * ((G i 1).toInt.toNat)) (hQ.e0 hl_4) rfl 0 (by decide) (hg _ gm_fieldLink_RX9_337_ErrandGuild_Errand_ops_AI_) (fun _ h9 => h9) rfl dX9_doStep_59 ?_
              refine lv_iload_n hx hb dX9_doStep_62 rfl (lv_at hl 2 rfl) ?_
              refine va_iald (f := f (2 + 3 * ((G i 1).toInt.toNat))) hx hb hK hP (4 + 4 * ((G i 1).toInt.toNat) + 1) 0 (hQ.e1 hl_4) rfl (vp_in_iff.mpr ⟨by omega, by omega⟩) dX9_doStep_63 ?_
              exact by
               refine lv_topi (fun z_64 ez_64 => ?_)
               have ez_64 : z_64 = f (2 + 3 * ((G i 1).toInt.toNat)) (G i 6).toInt.toNat := ez_64
               have qz_64 := congrArg Int32.toInt ez_64
               rcases (show (z_64.toInt < 0 ∨ 11 < z_64.toInt) ∨ z_64.toInt = 0 ∨ z_64.toInt = 1 ∨ z_64.toInt = 2 ∨ z_64.toInt = 3 ∨ z_64.toInt = 4 ∨ z_64.toInt = 5 ∨ z_64.toInt = 6 ∨ z_64.toInt = 7 ∨ z_64.toInt = 8 ∨ z_64.toInt = 9 ∨ z_64.toInt = 10 ∨ z_64.toInt = 11 by omega) with sw_65 | sw_65 | sw_65 | sw_65 | sw_65 | sw_65 | sw_65 | sw_65 | sw_65 | sw_65 | sw_65 | sw_65 | sw_65
               · refine lv_tableOut (tgt := 270) hx hb dX9_doStep_64 sw_65 (by decide) ?_
                 refine lv_aload_n hx hb dX9_doStep_270 rfl (lv_at hl 4 rfl) ?_
                 refine lv_aload_n hx hb dX9_doStep_271 rfl (lv_at hl 5 rfl) ?_
                 have hFc := free_all hD hS hA
                 refine W_msr2 (fun hm1 hm2 hm3 => ?_)
                 refine va_calli (va_runV (As := [.ref (ad (50 + 16 * i))]) (rest := []) ⟨hx, hb, hml, hown, hg⟩ (c_X9_end l dC dI kc ws ad ga gc M n f T G K F R i H.size (hpS H) hQ ⟨h_i1, h_i2, h_i3, h_i4, h_i5, h_i6, h_i7, h_i8, h_i9, h_i10, h_i11⟩ (by show i < M; omega)) (cwV 1 hg (gw_V gm_methodLink_RX9_328_yX9_end gm_instanceMethod_yX9_end gm_selects_RX9_yX9_end_yX9_end gm_initialized_RX9 gm_code_yX9_end_cX9_end_2_some_int_) rfl rfl rfl (by decide +kernel) ⟨Nat.le_of_ble_eq_true rfl, Nat.le_of_ble_eq_true rfl⟩) ⟨fun a U g mk q => by obtain ⟨q0, q1, q2, qP, qK, qD, qN⟩ := q; exact ⟨q0, q1, q2, qP, va_K.moved (u := U) (U := U.calling g mk a) (Vm.Alike.refl U.vm) qK, qD, nx_same (u := U) (U := U.calling g mk a) rfl qN⟩, va_recv hK hP (ci := 9) (q0 := 0) rfl hQ.x0, fun U hU hW => ⟨rfl, by rw [hU], by rw [hU], by rw [hU]; exact hP, va_K.moved hW.alike hK, hD.weaken (fun _ _ _ _ => trivial), nx_warm hW hN⟩⟩ rfl rfl hl.1 rfl (lv_room (Nat.le_of_ble_eq_true rfl)) dX9_doStep_272 ⟨by show ce + 0 ≤ 40000; omega, by show se + 0 ≤ 1250000; omega⟩) hS (fun q _ h => hFc q h) hFc (fun r_66 u_67 t H1 locs ht hvm hw hB hz1 hk1 hS => ?_)
                 obtain ⟨ad_68, ga_69, gc_70, M_71, n_72, f_73, T_74, G_75, K_76, F_77⟩ := u_67
                 have hB : ∃ w : va_W, va_P (dC, dI) vwCl w t.heap ∧ va_D (va_A ws H.size) w ∧ Pic9 kc w ad ga gc M n f T G_75 K F ∧ I9 M n f T gc G_75 K F R ∧ hpS t.heap + (260 * M + 2 * S9 M gc) ≤ hpS H + (260 * M + 2 * S9 M gc) ∧ 16 * t.heap.size + (256 * M + S9 M gc) ≤ 16 * H.size + (256 * M + S9 M gc) := hB
                 rw [ht] at hB
                 obtain ⟨ws_78, hP, hD, hQ, hI_79, hy1, hy2⟩ := hB
                 have hD := hD.weaken (fun k q _ h => hFc _ h)
                 obtain ⟨i1_80, i2_81, i3_82, i4_83, i5_84, i6_85, i7_86, i8_87, i9_88, i10_89, i11_90⟩ := id hI_79
                 have q1_ := i1_80
                 unfold i1 at q1_
                 have hSl := S9_le i8_87 i9_88
                 have hb0_ := i8_87.2.1 0 (by omega)
                 have hb1_ := i8_87.2.1 1 (by omega)
                 have hb2_ := i8_87.2.1 2 (by omega)
                 refine W_msr2 (fun hn1 hn2 hn3 => ?_)
                 obtain ⟨ce2, se2, hk3, hk4, hr1, hr2⟩ : ∃ c2 s2 : Nat, H1.size ≤ s.heap.size + c2 ∧ hpS H1 ≤ hpS s.heap + s2 ∧ s2 + (260 * M + 2 * S9 M gc) ≤ (260 * M + 2 * S9 M gc) ∧ 16 * c2 + (256 * M + S9 M gc) ≤ (256 * M + S9 M gc) := ⟨H1.size - s.heap.size, hpS H1 - hpS s.heap, by omega, by omega, by have := hS.1; omega, by have := hS.1; omega⟩
                 refine W_tightP hk3 hk4 ?_
                 clear hm1 hm2 hm3 hn1 hn2 hn3 hk3 hk4
                 clear hk1 hz1
                 generalize ce2 = ce, se2 = se at hr1 hr2 ⊢
                 generalize H1 = H at hP hS ⊢
                 have hc_92 : ((C9.mk n f T G_75 K F), r_66) = k_end i (C9.mk n f T G K F) := hw
                 refine W_msr2 (fun hm1 hm2 hm3 => ?_)
                 have hSl := S9_le i8_87 i9_88
                 have hb0_ := i8_87.2.1 0 (by omega)
                 have hb1_ := i8_87.2.1 1 (by omega)
                 have hb2_ := i8_87.2.1 2 (by omega)
                 refine W.widen (k := 40000) (n := 1250000) (by omega) (by omega) ?_
                 exact W.iret (v := r_66) hx hb hr (fun t ht hW => ⟨⟨r_66, (ad, ga, gc, M, n, f, T, G_75, K, F), rfl, (by show ((C9.mk n f T G_75 K F), r_66) = kh_step i (C9.mk n f T G K F); subst ez_62; subst ez_63; subst ez_64; have hX := (kh_step.eq_1 i (C9.mk n f T G K F)).symm; (repeat (first | dsimp +instances only [c9n, c9f, c9T, c9G, c9K, c9F, b_come, b_leave, b_fill, awB, b_settle, b_wake, b_take, f_take, b_gather, f_gather, b_ask, a_ask, b_tell, c_close, d_close, k_add, k_rem, sco, k_clrF, k_mem, k_rebind, k_bnd, k_beg0, k_beg1, b_giveN, b_giveR, f_open, b_hand, k_op, b_turn, wlB, b_beat, f_anew, b_wipe, b_off, k_sadd, fits, frP, cntB, b_trace, b_child, k_lat, cond_true, cond_false, Option.elim_none, Option.elim_some, Option.getD_none, Option.getD_some, f_hand, kh_op, bh_turn, bh_beat] at hX | rw [← hc_92] at hX | rw [if_pos (by first | with_reducible assumption | omega)] at hX | rw [if_neg (by first | with_reducible assumption | omega)] at hX | rw [jx_of (by omega)] at hX)); first | exact hX | (exfalso; omega) | exact hX), ws_78, by rw [ht]; exact hP, hD, hQ, I9.mono (R := R) ⟨i1_80, i2_81, i3_82, i4_83, i5_84, i6_85, i7_86, i8_87, i9_88, i10_89, i11_90⟩ (by omega), by rw [ht]; show hpS H + (260 * M + 2 * S9 M gc) ≤ hpS s.heap + (260 * M + 2 * S9 M gc); omega, by rw [ht]; show 16 * H.size + (256 * M + S9 M gc) ≤ 16 * s.heap.size + (256 * M + S9 M gc); omega, by show (n 0).toInt ≤ (n 0).toInt; omega, (fun _ _ => rfl), by show M ≤ M; omega⟩, hS.F ht⟩) hS.2.2 dX9_doStep_275
               · refine lv_tableIn (tgt := 128) hx hb dX9_doStep_64 (by omega) (by omega) (by rw [sw_65]; rfl) (by decide) ?_
                 exact by
                  refine lv_aload_n hx hb dX9_doStep_128 rfl (lv_at hl 4 rfl) ?_
                  refine lv_aload_n hx hb dX9_doStep_129 rfl (lv_at hl 5 rfl) ?_
                  refine lv_iload hx hb dX9_doStep_130 (lv_at hl 1 rfl) ?_
                  refine lv_iload hx hb dX9_doStep_132 (lv_at hl 0 rfl) ?_
                  have hFc := free_all hD hS hA
                  refine W_msr2 (fun hm1 hm2 hm3 => ?_)
                  refine va_calli (va_runV (As := [.ref (ad (50 + 16 * i)), .int z_62, .int z_63]) (rest := []) ⟨hx, hb, hml, hown, hg⟩ (c_X9_writeIn l dC dI kc ws ad ga gc M n f T G K F R i z_62 z_63 H.size (hpS H) hQ ⟨h_i1, h_i2, h_i3, h_i4, h_i5, h_i6, h_i7, h_i8, h_i9, h_i10, h_i11⟩ (by show i < M; omega)) (cwV 3 hg (gw_V gm_methodLink_RX9_340_yX9_writeIn gm_instanceMethod_yX9_writeIn gm_selects_RX9_yX9_writeIn_yX9_writeIn gm_initialized_RX9 gm_code_yX9_writeIn_cX9_writeIn_4_some_int_) rfl rfl rfl (by decide +kernel) ⟨Nat.le_of_ble_eq_true rfl, Nat.le_of_ble_eq_true rfl⟩) ⟨fun a U g mk q => by obtain ⟨q0, q1, q2, qP, qK, qD, qN⟩ := q; exact ⟨q0, q1, q2, qP, va_K.moved (u := U) (U := U.calling g mk a) (Vm.Alike.refl U.vm) qK, qD, nx_same (u := U) (U := U.calling g mk a) rfl qN⟩, va_recv hK hP (ci := 9) (q0 := 0) rfl hQ.x0, fun U hU hW => ⟨rfl, by rw [hU], by rw [hU], by rw [hU]; exact hP, va_K.moved hW.alike hK, hD.weaken (fun _ _ _ _ => trivial), nx_warm hW hN⟩⟩ rfl rfl hl.1 rfl (lv_room (Nat.le_of_ble_eq_true rfl)) dX9_doStep_134 ⟨by show ce + 0 ≤ 40000; omega, by show se + 0 ≤ 1250000; omega⟩) hS (fun q _ h => hFc q h) hFc (fun r_93 u_94 t H1 locs ht hvm hw hB hz1 hk1 hS => ?_)
                  obtain ⟨ad_95, ga_96, gc_97, M_98, n_99, f_100, T_101, G_102, K_103, F_104⟩ := u_94
                  have hB : ∃ w : va_W, va_P (dC, dI) vwCl w t.heap ∧ va_D (va_A ws H.size) w ∧ Pic9 kc w ad ga gc M n f T G_102 K F_104 ∧ I9 M n f T gc G_102 K F_104 R ∧ hpS t.heap + (260 * M + 2 * S9 M gc) ≤ hpS H + (260 * M + 2 * S9 M gc) ∧ 16 * t.heap.size + (256 * M + S9 M gc) ≤ 16 * H.size + (256 * M + S9 M gc) := hB
                  rw [ht] at hB
                  obtain ⟨ws_105, hP, hD, hQ, hI_106, hy1, hy2⟩ := hB
                  have hD := hD.weaken (fun k q _ h => hFc _ h)
                  obtain ⟨i1_107, i2_108, i3_109, i4_110, i5_111, i6_112, i7_113, i8_114, i9_115, i10_116, i11_117⟩ := id hI_106
                  have q1_ := i1_107
                  unfold i1 at q1_
                  have hSl := S9_le i8_114 i9_115
                  have hb0_ := i8_114.2.1 0 (by omega)
                  have hb1_ := i8_114.2.1 1 (by omega)
                  have hb2_ := i8_114.2.1 2 (by omega)
                  refine W_msr2 (fun hn1 hn2 hn3 => ?_)
                  obtain ⟨ce2, se2, hk3, hk4, hr1, hr2⟩ : ∃ c2 s2 : Nat, H1.size ≤ s.heap.size + c2 ∧ hpS H1 ≤ hpS s.heap + s2 ∧ s2 + (260 * M + 2 * S9 M gc) ≤ (260 * M + 2 * S9 M gc) ∧ 16 * c2 + (256 * M + S9 M gc) ≤ (256 * M + S9 M gc) := ⟨H1.size - s.heap.size, hpS H1 - hpS s.heap, by omega, by omega, by have := hS.1; omega, by have := hS.1; omega⟩
                  refine W_tightP hk3 hk4 ?_
                  clear hm1 hm2 hm3 hn1 hn2 hn3 hk3 hk4
                  clear hk1 hz1
                  generalize ce2 = ce, se2 = se at hr1 hr2 ⊢
                  generalize H1 = H at hP hS ⊢
                  have hc_119 : ((C9.mk n f T G_102 K F_104), r_93) = k_write i z_62 z_63 (C9.mk n f T G K F) := hw
                  refine W_msr2 (fun hm1 hm2 hm3 => ?_)
                  have hSl := S9_le i8_114 i9_115
                  have hb0_ := i8_114.2.1 0 (by omega)
                  have hb1_ := i8_114.2.1 1 (by omega)
                  have hb2_ := i8_114.2.1 2 (by omega)
                  refine W.widen (k := 40000) (n := 1250000) (by omega) (by omega) ?_
                  exact W.iret (v := r_93) hx hb hr (fun t ht hW => ⟨⟨r_93, (ad, ga, gc, M, n, f, T, G_102, K, F_104), rfl, (by show ((C9.mk n f T G_102 K F_104), r_93) = kh_step i (C9.mk n f T G K F); subst ez_62; subst ez_63; subst ez_64; have hX := (kh_step.eq_1 i (C9.mk n f T G K F)).symm; (repeat (first | dsimp +instances only [c9n, c9f, c9T, c9G, c9K, c9F, b_come, b_leave, b_fill, awB, b_settle, b_wake, b_take, f_take, b_gather, f_gather, b_ask, a_ask, b_tell, c_close, d_close, k_add, k_rem, sco, k_clrF, k_mem, k_rebind, k_bnd, k_beg0, k_beg1, b_giveN, b_giveR, f_open, b_hand, k_op, b_turn, wlB, b_beat, f_anew, b_wipe, b_off, k_sadd, fits, frP, cntB, b_trace, b_child, k_lat, cond_true, cond_false, Option.elim_none, Option.elim_some, Option.getD_none, Option.getD_some, f_hand, kh_op, bh_turn, bh_beat] at hX | rw [← hc_119] at hX | rw [if_pos (by first | with_reducible assumption | omega)] at hX | rw [if_neg (by first | with_reducible assumption | omega)] at hX | rw [jx_of (by omega)] at hX)); first | exact hX | (exfalso; omega) | exact hX), ws_105, by rw [ht]; exact hP, hD, hQ, I9.mono (R := R) ⟨i1_107, i2_108, i3_109, i4_110, i5_111, i6_112, i7_113, i8_114, i9_115, i10_116, i11_117⟩ (by omega), by rw [ht]; show hpS H + (260 * M + 2 * S9 M gc) ≤ hpS s.heap + (260 * M + 2 * S9 M gc); omega, by rw [ht]; show 16 * H.size + (256 * M + S9 M gc) ≤ 16 * s.heap.size + (256 * M + S9 M gc); omega, by show (n 0).toInt ≤ (n 0).toInt; omega, (fun _ _ => rfl), by show M ≤ M; omega⟩, hS.F ht⟩) hS.2.2 dX9_doStep_137
               · refine lv_tableIn (tgt := 138) hx hb dX9_doStep_64 (by omega) (by omega) (by rw [sw_65]; rfl) (by decide) ?_
                 refine lv_aload_n hx hb dX9_doStep_138 rfl (lv_at hl 4 rfl) ?_
                 refine lv_aload_n hx hb dX9_doStep_139 rfl (lv_at hl 5 rfl) ?_
                 refine lv_iload hx hb dX9_doStep_140 (lv_at hl 1 rfl) ?_
                 have hFc := free_all hD hS hA
                 refine W_msr2 (fun hm1 hm2 hm3 => ?_)
                 refine va_calli (va_runV (As := [.ref (ad (50 + 16 * i)), .int z_62]) (rest := []) ⟨hx, hb, hml, hown, hg⟩ (c_X9_addReading l dC dI kc ws ad ga gc M n f T G K F R i z_62 H.size (hpS H) hQ ⟨h_i1, h_i2, h_i3, h_i4, h_i5, h_i6, h_i7, h_i8, h_i9, h_i10, h_i11⟩ (by show i < M; omega) (by show R ≤ 310000; omega)) (cwV 2 hg (gw_V gm_methodLink_RX9_344_yX9_addReading gm_instanceMethod_yX9_addReading gm_selects_RX9_yX9_addReading_yX9_addReading gm_initialized_RX9 gm_code_yX9_addReading_cX9_addReading_4_some_int_) rfl rfl rfl (by decide +kernel) ⟨Nat.le_of_ble_eq_true rfl, Nat.le_of_ble_eq_true rfl⟩) ⟨fun a U g mk q => by obtain ⟨q0, q1, q2, qP, qK, qD, qN⟩ := q; exact ⟨q0, q1, q2, qP, va_K.moved (u := U) (U := U.calling g mk a) (Vm.Alike.refl U.vm) qK, qD, nx_same (u := U) (U := U.calling g mk a) rfl qN⟩, va_recv hK hP (ci := 9) (q0 := 0) rfl hQ.x0, fun U hU hW => ⟨rfl, by rw [hU], by rw [hU], by rw [hU]; exact hP, va_K.moved hW.alike hK, hD.weaken (fun _ _ _ _ => trivial), nx_warm hW hN⟩⟩ rfl rfl hl.1 rfl (lv_room (Nat.le_of_ble_eq_true rfl)) dX9_doStep_142 ⟨by show ce + 1200 ≤ 40000; omega, by show se + 50000 ≤ 1250000; omega⟩) hS (fun q _ h => hFc q h) hFc (fun r_120 u_121 t H1 locs ht hvm hw hB hz1 hk1 hS => ?_)
                 obtain ⟨ad_122, ga_123, gc_124, M_125, n_126, f_127, T_128, G_129, K_130, F_131⟩ := u_121
                 have hB : ∃ w : va_W, va_P (dC, dI) vwCl w t.heap ∧ va_D (va_A ws H.size) w ∧ Pic9 kc w ad ga_123 gc_124 M n_126 f_127 T G_129 K F ∧ I9 M n_126 f_127 T gc_124 G_129 K F R ∧ hpS t.heap + (260 * M + 2 * S9 M gc) ≤ hpS H + (260 * M + 2 * S9 M gc_124) ∧ 16 * t.heap.size + (256 * M + S9 M gc) ≤ 16 * H.size + (256 * M + S9 M gc_124) ∧ (n 0).toInt ≤ (n_126 0).toInt := hB
                 rw [ht] at hB
                 obtain ⟨ws_132, hP, hD, hQ, hI_134, hy1, hy2, hn_133⟩ := hB
                 have hD := hD.weaken (fun k q _ h => hFc _ h)
                 obtain ⟨i1_135, i2_136, i3_137, i4_138, i5_139, i6_140, i7_141, i8_142, i9_143, i10_144, i11_145⟩ := id hI_134
                 have q1_ := i1_135
                 unfold i1 at q1_
                 have hSl := S9_le i8_142 i9_143
                 have hb0_ := i8_142.2.1 0 (by omega)
                 have hb1_ := i8_142.2.1 1 (by omega)
                 have hb2_ := i8_142.2.1 2 (by omega)
                 refine W_msr2 (fun hn1 hn2 hn3 => ?_)
                 obtain ⟨ce2, se2, hk3, hk4, hr1, hr2⟩ : ∃ c2 s2 : Nat, H1.size ≤ s.heap.size + c2 ∧ hpS H1 ≤ hpS s.heap + s2 ∧ s2 + (260 * M + 2 * S9 M gc) ≤ (260 * M + 2 * S9 M gc_124) ∧ 16 * c2 + (256 * M + S9 M gc) ≤ (256 * M + S9 M gc_124) := ⟨H1.size - s.heap.size, hpS H1 - hpS s.heap, by omega, by omega, by have := hS.1; omega, by have := hS.1; omega⟩
                 refine W_tightP hk3 hk4 ?_
                 clear hm1 hm2 hm3 hn1 hn2 hn3 hk3 hk4
                 clear hk1 hz1
                 generalize ce2 = ce, se2 = se at hr1 hr2 ⊢
                 generalize H1 = H at hP hS ⊢
                 have hc_147 : ((C9.mk n_126 f_127 T G_129 K F), r_120) = k_reading i z_62 (C9.mk n f T G K F) := hw.1
                 have w_146 : S9 M gc_124 + gc 0 ≤ S9 M gc + gc_124 0 ∧ (n_126 0).toInt = (n 0).toInt := hw.2
                 refine W_msr2 (fun hm1 hm2 hm3 => ?_)
                 have hSl := S9_le i8_142 i9_143
                 have hb0_ := i8_142.2.1 0 (by omega)
                 have hb1_ := i8_142.2.1 1 (by omega)
                 have hb2_ := i8_142.2.1 2 (by omega)
                 refine W.widen (k := 40000) (n := 1250000) (by omega) (by omega) ?_
                 exact W.iret (v := r_120) hx hb hr (fun t ht hW => ⟨⟨r_120, (ad, ga_123, gc_124, M, n_126, f_127, T, G_129, K, F), rfl, (by show ((C9.mk n_126 f_127 T G_129 K F), r_120) = kh_step i (C9.mk n f T G K F); subst ez_62; subst ez_63; subst ez_64; have hX := (kh_step.eq_1 i (C9.mk n f T G K F)).symm; (repeat (first | dsimp +instances only [c9n, c9f, c9T, c9G, c9K, c9F, b_come, b_leave, b_fill, awB, b_settle, b_wake, b_take, f_take, b_gather, f_gather, b_ask, a_ask, b_tell, c_close, d_close, k_add, k_rem, sco, k_clrF, k_mem, k_rebind, k_bnd, k_beg0, k_beg1, b_giveN, b_giveR, f_open, b_hand, k_op, b_turn, wlB, b_beat, f_anew, b_wipe, b_off, k_sadd, fits, frP, cntB, b_trace, b_child, k_lat, cond_true, cond_false, Option.elim_none, Option.elim_some, Option.getD_none, Option.getD_some, f_hand, kh_op, bh_turn, bh_beat] at hX | rw [← hc_147] at hX | rw [if_pos (by first | with_reducible assumption | omega)] at hX | rw [if_neg (by first | with_reducible assumption | omega)] at hX | rw [jx_of (by omega)] at hX)); first | exact hX | (exfalso; omega) | exact hX), ws_132, by rw [ht]; exact hP, hD, hQ, I9.mono (R := R) ⟨i1_135, i2_136, i3_137, i4_138, i5_139, i6_140, i7_141, i8_142, i9_143, i10_144, i11_145⟩ (by omega), by rw [ht]; show hpS H + (260 * M + 2 * S9 M gc) ≤ hpS s.heap + (260 * M + 2 * S9 M gc_124); omega, by rw [ht]; show 16 * H.size + (256 * M + S9 M gc) ≤ 16 * s.heap.size + (256 * M + S9 M gc_124); omega, by show (n 0).toInt ≤ (n_126 0).toInt; omega, (fun _ _ => rfl), by show M ≤ M; omega⟩, hS.F ht⟩) hS.2.2 dX9_doStep_145
               · refine lv_tableIn (tgt := 146) hx hb dX9_doStep_64 (by omega) (by omega) (by rw [sw_65]; rfl) (by decide) ?_
                 exact by
                  refine lv_aload_n hx hb dX9_doStep_146 rfl (lv_at hl 4 rfl) ?_
                  refine lv_aload_n hx hb dX9_doStep_147 rfl (lv_at hl 5 rfl) ?_
                  refine lv_iload hx hb dX9_doStep_148 (lv_at hl 1 rfl) ?_
                  refine lv_iload hx hb dX9_doStep_150 (lv_at hl 0 rfl) ?_
                  have hFc := free_all hD hS hA
                  refine W_msr2 (fun hm1 hm2 hm3 => ?_)
                  refine va_calli (va_runV (As := [.ref (ad (50 + 16 * i)), .int z_62, .int z_63]) (rest := []) ⟨hx, hb, hml, hown, hg⟩ (c_X9_bind l dC dI kc ws ad ga gc M n f T G K F R i z_62 z_63 H.size (hpS H) hQ ⟨h_i1, h_i2, h_i3, h_i4, h_i5, h_i6, h_i7, h_i8, h_i9, h_i10, h_i11⟩ (by show i < M; omega)) (cwV 3 hg (gw_V gm_methodLink_RX9_347_yX9_bind gm_instanceMethod_yX9_bind gm_selects_RX9_yX9_bind_yX9_bind gm_initialized_RX9 gm_code_yX9_bind_cX9_bind_4_some_int_) rfl rfl rfl (by decide +kernel) ⟨Nat.le_of_ble_eq_true rfl, Nat.le_of_ble_eq_true rfl⟩) ⟨fun a U g mk q => by obtain ⟨q0, q1, q2, qP, qK, qD, qN⟩ := q; exact ⟨q0, q1, q2, qP, va_K.moved (u := U) (U := U.calling g mk a) (Vm.Alike.refl U.vm) qK, qD, nx_same (u := U) (U := U.calling g mk a) rfl qN⟩, va_recv hK hP (ci := 9) (q0 := 0) rfl hQ.x0, fun U hU hW => ⟨rfl, by rw [hU], by rw [hU], by rw [hU]; exact hP, va_K.moved hW.alike hK, hD.weaken (fun _ _ _ _ => trivial), nx_warm hW hN⟩⟩ rfl rfl hl.1 rfl (lv_room (Nat.le_of_ble_eq_true rfl)) dX9_doStep_152 ⟨by show ce + 0 ≤ 40000; omega, by show se + 0 ≤ 1250000; omega⟩) hS (fun q _ h => hFc q h) hFc (fun r_148 u_149 t H1 locs ht hvm hw hB hz1 hk1 hS => ?_)
                  obtain ⟨ad_150, ga_151, gc_152, M_153, n_154, f_155, T_156, G_157, K_158, F_159⟩ := u_149
                  have hB : ∃ w : va_W, va_P (dC, dI) vwCl w t.heap ∧ va_D (va_A ws H.size) w ∧ Pic9 kc w ad ga gc M n f T G_157 K F_159 ∧ I9 M n f T gc G_157 K F_159 R ∧ hpS t.heap + (260 * M + 2 * S9 M gc) ≤ hpS H + (260 * M + 2 * S9 M gc) ∧ 16 * t.heap.size + (256 * M + S9 M gc) ≤ 16 * H.size + (256 * M + S9 M gc) := hB
                  rw [ht] at hB
                  obtain ⟨ws_160, hP, hD, hQ, hI_161, hy1, hy2⟩ := hB
                  have hD := hD.weaken (fun k q _ h => hFc _ h)
                  obtain ⟨i1_162, i2_163, i3_164, i4_165, i5_166, i6_167, i7_168, i8_169, i9_170, i10_171, i11_172⟩ := id hI_161
                  have q1_ := i1_162
                  unfold i1 at q1_
                  have hSl := S9_le i8_169 i9_170
                  have hb0_ := i8_169.2.1 0 (by omega)
                  have hb1_ := i8_169.2.1 1 (by omega)
                  have hb2_ := i8_169.2.1 2 (by omega)
                  refine W_msr2 (fun hn1 hn2 hn3 => ?_)
                  obtain ⟨ce2, se2, hk3, hk4, hr1, hr2⟩ : ∃ c2 s2 : Nat, H1.size ≤ s.heap.size + c2 ∧ hpS H1 ≤ hpS s.heap + s2 ∧ s2 + (260 * M + 2 * S9 M gc) ≤ (260 * M + 2 * S9 M gc) ∧ 16 * c2 + (256 * M + S9 M gc) ≤ (256 * M + S9 M gc) := ⟨H1.size - s.heap.size, hpS H1 - hpS s.heap, by omega, by omega, by have := hS.1; omega, by have := hS.1; omega⟩
                  refine W_tightP hk3 hk4 ?_
                  clear hm1 hm2 hm3 hn1 hn2 hn3 hk3 hk4
                  clear hk1 hz1
                  generalize ce2 = ce, se2 = se at hr1 hr2 ⊢
                  generalize H1 = H at hP hS ⊢
                  have hc_174 : ((C9.mk n f T G_157 K F_159), r_148) = k_bind i z_62 z_63 (C9.mk n f T G K F) := hw
                  refine W_msr2 (fun hm1 hm2 hm3 => ?_)
                  have hSl := S9_le i8_169 i9_170
                  have hb0_ := i8_169.2.1 0 (by omega)
                  have hb1_ := i8_169.2.1 1 (by omega)
                  have hb2_ := i8_169.2.1 2 (by omega)
                  refine W.widen (k := 40000) (n := 1250000) (by omega) (by omega) ?_
                  exact W.iret (v := r_148) hx hb hr (fun t ht hW => ⟨⟨r_148, (ad, ga, gc, M, n, f, T, G_157, K, F_159), rfl, (by show ((C9.mk n f T G_157 K F_159), r_148) = kh_step i (C9.mk n f T G K F); subst ez_62; subst ez_63; subst ez_64; have hX := (kh_step.eq_1 i (C9.mk n f T G K F)).symm; (repeat (first | dsimp +instances only [c9n, c9f, c9T, c9G, c9K, c9F, b_come, b_leave, b_fill, awB, b_settle, b_wake, b_take, f_take, b_gather, f_gather, b_ask, a_ask, b_tell, c_close, d_close, k_add, k_rem, sco, k_clrF, k_mem, k_rebind, k_bnd, k_beg0, k_beg1, b_giveN, b_giveR, f_open, b_hand, k_op, b_turn, wlB, b_beat, f_anew, b_wipe, b_off, k_sadd, fits, frP, cntB, b_trace, b_child, k_lat, cond_true, cond_false, Option.elim_none, Option.elim_some, Option.getD_none, Option.getD_some, f_hand, kh_op, bh_turn, bh_beat] at hX | rw [← hc_174] at hX | rw [if_pos (by first | with_reducible assumption | omega)] at hX | rw [if_neg (by first | with_reducible assumption | omega)] at hX | rw [jx_of (by omega)] at hX)); first | exact hX | (exfalso; omega) | exact hX), ws_160, by rw [ht]; exact hP, hD, hQ, I9.mono (R := R) ⟨i1_162, i2_163, i3_164, i4_165, i5_166, i6_167, i7_168, i8_169, i9_170, i10_171, i11_172⟩ (by omega), by rw [ht]; show hpS H + (260 * M + 2 * S9 M gc) ≤ hpS s.heap + (260 * M + 2 * S9 M gc); omega, by rw [ht]; show 16 * H.size + (256 * M + S9 M gc) ≤ 16 * s.heap.size + (256 * M + S9 M gc); omega, by show (n 0).toInt ≤ (n 0).toInt; omega, (fun _ _ => rfl), by show M ≤ M; omega⟩, hS.F ht⟩) hS.2.2 dX9_doStep_155
               · refine lv_tableIn (tgt := 156) hx hb dX9_doStep_64 (by omega) (by omega) (by rw [sw_65]; rfl) (by decide) ?_
                 refine lv_aload_n hx hb dX9_doStep_156 rfl (lv_at hl 5 rfl) ?_
                 refine va_get (D := (dC, dI)) (ci := 7) (v := .ref (ad (50 + 16 * i + 6))) (C := RX7) (T := TX7) (N := 15) hx hb hg gb_7 hown hK hP (50 + 16 * i) (hQ.b0 hi) rfl 12 (by decide) (hg _ gm_fieldLink_RX9_177_ErrandGuild_Run_scopes_LErrandGuild_Scopes_) (fun _ h9 => h9) rfl dX9_doStep_157 ?_
                 refine lv_iload hx hb dX9_doStep_160 (lv_at hl 1 rfl) ?_
                 have hCc : ([(50 + 16 * i + 6), (50 + 16 * i + 7)] : List Nat).map (fun i => ws[i]?) = ([(ad (50 + 16 * i + 6), .inr (8, [.ref (ad (50 + 16 * i + 7)), .ref (ad (50 + 16 * i + 8)), .ref (ad (50 + 16 * i + 9)), .int (G i 14), .ref (ad (50 + 16 * i + 10)), .ref (ad (50 + 16 * i + 11)), .ref (ad (50 + 16 * i + 12)), .int (G i 15), .int (G i 16)])), (ad (50 + 16 * i + 7), .inl (kc 0, 24, .inl (F i 3)))] : va_W).map some := mp2 (hQ.b6 hi) (hQ.b7 hi)
                 have hNd : ([(50 + 16 * i + 6), (50 + 16 * i + 7)] : List Nat).Nodup := (nd_off (50 + 16 * i) (l := [6, 7]) (by decide))
                 have hPc := hP.pick [(50 + 16 * i + 6), (50 + 16 * i + 7)] hCc
                 have hDc := hD.pick [(50 + 16 * i + 6), (50 + 16 * i + 7)] hNd hCc
                 have hKc := hK.sub (tys' := [((kc 0), .int)]) [0] rfl
                 have hFc := va_free (wc := [(ad (50 + 16 * i + 6), .inr (8, [.ref (ad (50 + 16 * i + 7)), .ref (ad (50 + 16 * i + 8)), .ref (ad (50 + 16 * i + 9)), .int (G i 14), .ref (ad (50 + 16 * i + 10)), .ref (ad (50 + 16 * i + 11)), .ref (ad (50 + 16 * i + 12)), .int (G i 15), .int (G i 16)])), (ad (50 + 16 * i + 7), .inl (kc 0, 24, .inl (F i 3)))]) hD hS hA [(50 + 16 * i + 6), (50 + 16 * i + 7)] hCc
                 refine W_msr2 (fun hm1 hm2 hm3 => ?_)
                 refine va_calli (va_runV (As := [.int z_62]) (rest := []) ⟨hx, hb, hml, hown, hg⟩ (c_X8_free l dC dI (ad (50 + 16 * i + 6)) (ad (50 + 16 * i + 7)) (ad (50 + 16 * i + 8)) (ad (50 + 16 * i + 9)) (ad (50 + 16 * i + 10)) (ad (50 + 16 * i + 11)) (ad (50 + 16 * i + 12)) (kc 0) (F i 3) (G i 14) (G i 15) (G i 16) z_62 H.size ) (cwV 1 hg (gw_V gm_methodLink_RX9_349_yX8_free gm_instanceMethod_yX8_free gm_selects_RX8_yX8_free_yX8_free gm_initialized_RX8 gm_code_yX8_free_cX8_free_3_some_boolean_) rfl rfl rfl (by decide +kernel) ⟨Nat.le_of_ble_eq_true rfl, Nat.le_of_ble_eq_true rfl⟩) ⟨fun a U g mk q => by obtain ⟨q0, q1, qP, qK, qD, qN⟩ := q; exact ⟨q0, q1, qP, va_K.moved (u := U) (U := U.calling g mk a) (Vm.Alike.refl U.vm) qK, qD, nx_same (u := U) (U := U.calling g mk a) rfl qN⟩, va_recv hK hP (ci := 8) (q0 := (50 + 16 * i + 6)) rfl (hQ.b6 hi), fun U hU hW => ⟨rfl, by rw [hU], by rw [hU]; exact hPc, va_K.moved hW.alike hKc, hDc.weaken (fun _ _ _ _ => trivial), nx_warm hW hN⟩⟩ rfl rfl hl.1 rfl (lv_room (Nat.le_of_ble_eq_true rfl)) dX9_doStep_162 ⟨by show ce + 0 ≤ 40000; omega, by show se + 0 ≤ 1250000; omega⟩) hS (fun q _ h => hFc q h) hFc (fun r_175 u_176 t H1 locs ht hvm hw hB hz1 hk1 hS => ?_)
                 obtain ⟨ad_177, ac_178, af_179, ag_180⟩ := u_176
                 obtain ⟨hP1, hD1, hK1, qe_181, qe_182, qe_183⟩ := hB
                 rw [ht] at hP1
                 have hP1 : va_P (dC, dI) vwCl [((ad (50 + 16 * i + 6)), .inr (8, [.ref (ad (50 + 16 * i + 7)), .ref (ad (50 + 16 * i + 8)), .ref (ad (50 + 16 * i + 9)), .int (af_179 6 0), .ref (ad (50 + 16 * i + 10)), .ref (ad (50 + 16 * i + 11)), .ref (ad (50 + 16 * i + 12)), .int (af_179 7 0), .int (af_179 8 0)])), ((ad (50 + 16 * i + 7)), .inl ((kc 0), 24, .inl (F i 3)))] H1 := hP1
                 have hD1 : va_D _ [((ad (50 + 16 * i + 6)), .inr (8, [.ref (ad (50 + 16 * i + 7)), .ref (ad (50 + 16 * i + 8)), .ref (ad (50 + 16 * i + 9)), .int (af_179 6 0), .ref (ad (50 + 16 * i + 10)), .ref (ad (50 + 16 * i + 11)), .ref (ad (50 + 16 * i + 12)), .int (af_179 7 0), .int (af_179 8 0)])), ((ad (50 + 16 * i + 7)), .inl ((kc 0), 24, .inl (F i 3)))] := hD1
                 have qe_181 : (af_179 6 0) = frN (G i 14) (F i 3) z_62 := qe_181
                 have qe_182 : (af_179 7 0) = (G i 15) := qe_182
                 have qe_183 : (af_179 8 0) = (G i 16) := qe_183
                 rw [qe_181, qe_182, qe_183] at hP1 hD1
                 obtain ⟨hP, hD⟩ := va_repl (w1 := [((ad (50 + 16 * i + 6)), .inr (8, [.ref (ad (50 + 16 * i + 7)), .ref (ad (50 + 16 * i + 8)), .ref (ad (50 + 16 * i + 9)), .int (frN (G i 14) (F i 3) z_62), .ref (ad (50 + 16 * i + 10)), .ref (ad (50 + 16 * i + 11)), .ref (ad (50 + 16 * i + 12)), .int (G i 15), .int (G i 16)])), ((ad (50 + 16 * i + 7)), .inl ((kc 0), 24, .inl (F i 3)))]) hP hD [(50 + 16 * i + 6), (50 + 16 * i + 7)] hCc hNd rfl hk1 hFc hP1 hD1
                 obtain ⟨ws_186, G_184, F_185, eG_184, eF_185, hP, hD, hQ⟩ : ∃ (ws_186 : va_W) (G_184 : Nat → Nat → Int32) (F_185 : Nat → Nat → Nat → Int32), G_184 = u2 (u2 (u2 G i 14 (frN (G i 14) (F i 3) z_62)) i 15 (G i 15)) i 16 (G i 16) ∧ F_185 = u2 F i 3 (F i 3) ∧ va_P (dC, dI) vwCl ws_186 H1 ∧ va_D A ws_186 ∧ Pic9 kc ws_186 ad ga gc M n f T G_184 K F_185 := ⟨_, _, _, rfl, rfl, hP, hD, (hQ.sco2 hi (frN (G i 14) (F i 3) z_62) (G i 15) (G i 16)).arr hi 7 3 (by decide) (F i 3) rfl⟩
                 have i10_187 : i10 M G_184 K F_185 := by rw [eG_184, eF_185]; exact (i10.pF (i10.pG (i10.pG (i10.pG h_i10 hi _ (by decide)) hi _ (by decide)) hi _ (by decide)) hi _ _)
                 have i11_188 : i11 M n gc f G_184 F_185 := by rw [eG_184, eF_185]; exact (i11.pF (i11.pG (i11.pG (i11.pG h_i11 i _ (by decide)) i _ (by decide)) i _ (by decide)) i _ (by decide))
                 have i6_189 : i6 n T G_184 := by rw [eG_184]; exact (i6.pG (i6.pG (i6.pG h_i6 i _ (by decide)) i _ (by decide)) i _ (by decide))
                 have i7_190 : i7 n G_184 := by rw [eG_184]; exact (i7.pG (i7.pG (i7.pG h_i7 i _ (by decide)) i _ (by decide)) i _ (by decide))
                 have i8_191 : i8 M n gc G_184 := by rw [eG_184]; exact (i8.pG (i8.pG (i8.pG h_i8 i _ (by decide)) i _ (by decide)) i _ (by decide))
                 have i9_192 : i9 M gc G_184 R := by rw [eG_184]; exact (i9.pG (i9.pG (i9.pG h_i9 i _ (by decide)) i _ (by decide)) i _ (by decide))
                 refine W.widen (k := ce) (n := se) (Nat.le_refl _) (Nat.le_refl _) ?_
                 generalize H1 = H at hP hS ⊢
                 rcases hw with ⟨rfl, w_193⟩ | ⟨rfl, w_193⟩
                 · refine lv_if_eq (tgt := 172) hx hb dX9_doStep_165 (by decide) (fun c_194 => absurd c_194 (by decide)) (fun _ => ?_)
                   exact by
                    refine lv_iconst (v := -1) hx hb dX9_doStep_168 (by decide) ?_
                    refine lv_goto (tgt := 173) hx hb dX9_doStep_169 (by decide) ?_
                    refine W_msr2 (fun hm1 hm2 hm3 => ?_)
                    have hSl := S9_le i8_191 i9_192
                    have hb0_ := i8_191.2.1 0 (by omega)
                    have hb1_ := i8_191.2.1 1 (by omega)
                    have hb2_ := i8_191.2.1 2 (by omega)
                    refine W.widen (k := 40000) (n := 1250000) (by omega) (by omega) ?_
                    exact W.iret (v := -1) hx hb hr (fun t ht hW => ⟨⟨-1, (ad, ga, gc, M, n, f, T, G_184, K, F_185), rfl, (by show ((C9.mk n f T G_184 K F_185), (-1 : Int32)) = kh_step i (C9.mk n f T G K F); subst ez_62; subst ez_63; subst ez_64; subst eG_184; subst eF_185; have hX := (kh_step.eq_1 i (C9.mk n f T G K F)).symm; (repeat (first | dsimp +instances only [c9n, c9f, c9T, c9G, c9K, c9F, b_come, b_leave, b_fill, awB, b_settle, b_wake, b_take, f_take, b_gather, f_gather, b_ask, a_ask, b_tell, c_close, d_close, k_add, k_rem, sco, k_clrF, k_mem, k_rebind, k_bnd, k_beg0, k_beg1, b_giveN, b_giveR, f_open, b_hand, k_op, b_turn, wlB, b_beat, f_anew, b_wipe, b_off, k_sadd, fits, frP, cntB, b_trace, b_child, k_lat, cond_true, cond_false, Option.elim_none, Option.elim_some, Option.getD_none, Option.getD_some, f_hand, kh_op, bh_turn, bh_beat] at hX | rw [if_pos (by first | with_reducible assumption | omega)] at hX | rw [if_neg (by first | with_reducible assumption | omega)] at hX | rw [jx_of (by omega)] at hX)); first | exact hX | (exfalso; omega) | exact hX), ws_186, by rw [ht]; exact hP, hD, hQ, I9.mono (R := R) ⟨h_i1, h_i2, h_i3, h_i4, h_i5, i6_189, i7_190, i8_191, i9_192, i10_187, i11_188⟩ (by omega), by rw [ht]; show hpS H + (260 * M + 2 * S9 M gc) ≤ hpS s.heap + (260 * M + 2 * S9 M gc); omega, by rw [ht]; show 16 * H.size + (256 * M + S9 M gc) ≤ 16 * s.heap.size + (256 * M + S9 M gc); omega, by show (n 0).toInt ≤ (n 0).toInt; omega, (fun _ _ => rfl), by show M ≤ M; omega⟩, hS.F ht⟩) hS.2.2 dX9_doStep_173
                 · refine lv_if_eq (tgt := 172) hx hb dX9_doStep_165 (by decide) (fun _ => ?_) (fun c_195 => absurd c_195 (by decide))
                   refine lv_iconst (v := 5) hx hb dX9_doStep_172 (by decide) ?_
                   refine W_msr2 (fun hm1 hm2 hm3 => ?_)
                   have hSl := S9_le i8_191 i9_192
                   have hb0_ := i8_191.2.1 0 (by omega)
                   have hb1_ := i8_191.2.1 1 (by omega)
                   have hb2_ := i8_191.2.1 2 (by omega)
                   refine W.widen (k := 40000) (n := 1250000) (by omega) (by omega) ?_
                   exact W.iret (v := 5) hx hb hr (fun t ht hW => ⟨⟨5, (ad, ga, gc, M, n, f, T, G_184, K, F_185), rfl, (by show ((C9.mk n f T G_184 K F_185), (5 : Int32)) = kh_step i (C9.mk n f T G K F); subst ez_62; subst ez_63; subst ez_64; subst eG_184; subst eF_185; have hX := (kh_step.eq_1 i (C9.mk n f T G K F)).symm; (repeat (first | dsimp +instances only [c9n, c9f, c9T, c9G, c9K, c9F, b_come, b_leave, b_fill, awB, b_settle, b_wake, b_take, f_take, b_gather, f_gather, b_ask, a_ask, b_tell, c_close, d_close, k_add, k_rem, sco, k_clrF, k_mem, k_rebind, k_bnd, k_beg0, k_beg1, b_giveN, b_giveR, f_open, b_hand, k_op, b_turn, wlB, b_beat, f_anew, b_wipe, b_off, k_sadd, fits, frP, cntB, b_trace, b_child, k_lat, cond_true, cond_false, Option.elim_none, Option.elim_some, Option.getD_none, Option.getD_some, f_hand, kh_op, bh_turn, bh_beat] at hX | rw [if_pos (by first | with_reducible assumption | omega)] at hX | rw [if_neg (by first | with_reducible assumption | omega)] at hX | rw [jx_of (by omega)] at hX)); first | exact hX | (exfalso; omega) | exact hX), ws_186, by rw [ht]; exact hP, hD, hQ, I9.mono (R := R) ⟨h_i1, h_i2, h_i3, h_i4, h_i5, i6_189, i7_190, i8_191, i9_192, i10_187, i11_188⟩ (by omega), by rw [ht]; show hpS H + (260 * M + 2 * S9 M gc) ≤ hpS s.heap + (260 * M + 2 * S9 M gc); omega, by rw [ht]; show 16 * H.size + (256 * M + S9 M gc) ≤ 16 * s.heap.size + (256 * M + S9 M gc); omega, by show (n 0).toInt ≤ (n 0).toInt; omega, (fun _ _ => rfl), by show M ≤ M; omega⟩, hS.F ht⟩) hS.2.2 dX9_doStep_173
               · refine lv_tableIn (tgt := 174) hx hb dX9_doStep_64 (by omega) (by omega) (by rw [sw_65]; rfl) (by decide) ?_
                 refine lv_aload_n hx hb dX9_doStep_174 rfl (lv_at hl 4 rfl) ?_
                 refine lv_aload_n hx hb dX9_doStep_175 rfl (lv_at hl 5 rfl) ?_
                 exact by
                  refine lv_iload hx hb dX9_doStep_176 (lv_at hl 1 rfl) ?_
                  refine lv_iconst (v := 1) hx hb dX9_doStep_178 (by decide) ?_
                  refine lv_iload hx hb dX9_doStep_179 (lv_at hl 0 rfl) ?_
                  refine lv_iconst (v := 1) hx hb dX9_doStep_181 (by decide) ?_
                  refine lv_icmp_ne (tgt := 189) hx hb dX9_doStep_182 (by decide) (fun c_196 => ?_) (fun c_196 => ?_)
                  · simp only [i_lt, i_le, i_eq, ti_1] at c_196
                    refine lv_iconst (v := 0) hx hb dX9_doStep_189 (by decide) ?_
                    have hFc := free_all hD hS hA
                    refine W_msr2 (fun hm1 hm2 hm3 => ?_)
                    refine va_calli (va_runV (As := [.ref (ad (50 + 16 * i)), .int z_62, .int 1, .int 0]) (rest := []) ⟨hx, hb, hml, hown, hg⟩ (c_X9_hand l dC dI kc ws ad ga gc M n f T G K F R i z_62 1 0 H.size (hpS H) hQ ⟨h_i1, h_i2, h_i3, h_i4, h_i5, h_i6, h_i7, h_i8, h_i9, h_i10, h_i11⟩ (by have t_0 := ti_1; have t_1 := ti_0; show i < M; omega) (by have t_0 := ti_1; have t_1 := ti_0; show (i : Int) < (n 0).toInt; omega) (by have t_0 := ti_1; have t_1 := ti_0; show R ≤ 310000; omega)) (cwV 4 hg (gw_V gm_methodLink_RX9_352_yX9_hand gm_instanceMethod_yX9_hand gm_selects_RX9_yX9_hand_yX9_hand gm_initialized_RX9 gm_code_yX9_hand_cX9_hand_7_some_int_) rfl rfl rfl (by decide +kernel) ⟨Nat.le_of_ble_eq_true rfl, Nat.le_of_ble_eq_true rfl⟩) ⟨fun a U g mk q => by obtain ⟨q0, q1, q2, qP, qK, qD, qN⟩ := q; exact ⟨q0, q1, q2, qP, va_K.moved (u := U) (U := U.calling g mk a) (Vm.Alike.refl U.vm) qK, qD, nx_same (u := U) (U := U.calling g mk a) rfl qN⟩, va_recv hK hP (ci := 9) (q0 := 0) rfl hQ.x0, fun U hU hW => ⟨rfl, by rw [hU], by rw [hU], by rw [hU]; exact hP, va_K.moved hW.alike hK, hD.weaken (fun _ _ _ _ => trivial), nx_warm hW hN⟩⟩ rfl rfl hl.1 rfl (lv_room (Nat.le_of_ble_eq_true rfl)) dX9_doStep_190 ⟨by show ce + 3500 ≤ 40000; omega, by show se + 59000 ≤ 1250000; omega⟩) hS (fun q _ h => hFc q h) hFc (fun r_197 u_198 t H1 locs ht hvm hw hB hz1 hk1 hS => ?_)
                    obtain ⟨ad_199, ga_200, gc_201, M_202, n_203, f_204, T_205, G_206, K_207, F_208⟩ := u_198
                    have hB : ∃ w : va_W, va_P (dC, dI) vwCl w t.heap ∧ va_D (va_A ws H.size) w ∧ Pic9 kc w ad_199 ga_200 gc_201 M_202 n_203 f T G_206 K_207 F_208 ∧ I9 M_202 n_203 f T gc_201 G_206 K_207 F_208 R ∧ hpS t.heap + (260 * M + 2 * S9 M gc) ≤ hpS H + (260 * M_202 + 2 * S9 M_202 gc_201) ∧ 16 * t.heap.size + (256 * M + S9 M gc) ≤ 16 * H.size + (256 * M_202 + S9 M_202 gc_201) ∧ (n 0).toInt ≤ (n_203 0).toInt ∧ (∀ q : Nat, q < 50 + 16 * M → ad_199 q = ad q) ∧ M ≤ M_202 := hB
                    rw [ht] at hB
                    obtain ⟨ws_209, hP, hD, hQ, hI_213, hy1, hy2, hn_210, hE_211, hM_212⟩ := hB
                    have hD := hD.weaken (fun k q _ h => hFc _ h)
                    obtain ⟨i1_214, i2_215, i3_216, i4_217, i5_218, i6_219, i7_220, i8_221, i9_222, i10_223, i11_224⟩ := id hI_213
                    have hl_225 : i < M_202 := by omega
                    have q1_ := i1_214
                    unfold i1 at q1_
                    have hSl := S9_le i8_221 i9_222
                    have hb0_ := i8_221.2.1 0 (by omega)
                    have hb1_ := i8_221.2.1 1 (by omega)
                    have hb2_ := i8_221.2.1 2 (by omega)
                    refine W_msr2 (fun hn1 hn2 hn3 => ?_)
                    obtain ⟨ce2, se2, hk3, hk4, hr1, hr2⟩ : ∃ c2 s2 : Nat, H1.size ≤ s.heap.size + c2 ∧ hpS H1 ≤ hpS s.heap + s2 ∧ s2 + (260 * M + 2 * S9 M gc) ≤ (260 * M_202 + 2 * S9 M_202 gc_201) ∧ 16 * c2 + (256 * M + S9 M gc) ≤ (256 * M_202 + S9 M_202 gc_201) := ⟨H1.size - s.heap.size, hpS H1 - hpS s.heap, by omega, by omega, by have := hS.1; omega, by have := hS.1; omega⟩
                    refine W_tightP hk3 hk4 ?_
                    clear hm1 hm2 hm3 hn1 hn2 hn3 hk3 hk4
                    clear hk1 hz1
                    generalize ce2 = ce, se2 = se at hr1 hr2 ⊢
                    generalize H1 = H at hP hS ⊢
                    have hl : lv_has ls 6 [(5, .int z_63), (4, .int z_62), (3, .int (G i 6)), (2, .ref (ad_199 (4 + 4 * ((G i 1).toInt.toNat)))), (0, .ref (ad_199 0)), (1, .ref (ad_199 (50 + 16 * i)))] := by rw [hE_211 (4 + 4 * ((G i 1).toInt.toNat)) (by omega), hE_211 0 (by omega), hE_211 (50 + 16 * i) (by omega)]; exact hl
                    have hc_227 : ((C9.mk n_203 f T G_206 K_207 F_208), r_197) = kh_hand i z_62 (1 : Int32) (0 : Int32) (C9.mk n f T G K F) := hw.1
                    have w_226 : S9 M_202 gc_201 + 16 * M ≤ S9 M gc + 16 * M_202 := hw.2
                    refine W.eq (g2 := F0 m 193 ls [.int r_197]) (by first | rfl | (simp only [hE_211 (4 + 4 * ((G i 1).toInt.toNat)) (by omega), hE_211 0 (by omega), hE_211 (50 + 16 * i) (by omega)]))  ?_
                    refine W_msr2 (fun hm1 hm2 hm3 => ?_)
                    have hSl := S9_le i8_221 i9_222
                    have hb0_ := i8_221.2.1 0 (by omega)
                    have hb1_ := i8_221.2.1 1 (by omega)
                    have hb2_ := i8_221.2.1 2 (by omega)
                    refine W.widen (k := 40000) (n := 1250000) (by omega) (by omega) ?_
                    exact W.iret (v := r_197) hx hb hr (fun t ht hW => ⟨⟨r_197, (ad_199, ga_200, gc_201, M_202, n_203, f, T, G_206, K_207, F_208), rfl, (by show ((C9.mk n_203 f T G_206 K_207 F_208), r_197) = kh_step i (C9.mk n f T G K F); subst ez_62; subst ez_63; subst ez_64; have hX := (kh_step.eq_1 i (C9.mk n f T G K F)).symm; (repeat (first | dsimp +instances only [c9n, c9f, c9T, c9G, c9K, c9F, b_come, b_leave, b_fill, awB, b_settle, b_wake, b_take, f_take, b_gather, f_gather, b_ask, a_ask, b_tell, c_close, d_close, k_add, k_rem, sco, k_clrF, k_mem, k_rebind, k_bnd, k_beg0, k_beg1, b_giveN, b_giveR, f_open, b_hand, k_op, b_turn, wlB, b_beat, f_anew, b_wipe, b_off, k_sadd, fits, frP, cntB, b_trace, b_child, k_lat, cond_true, cond_false, Option.elim_none, Option.elim_some, Option.getD_none, Option.getD_some, f_hand, kh_op, bh_turn, bh_beat] at hX | rw [← hc_227] at hX | rw [if_pos (by first | with_reducible assumption | omega)] at hX | rw [if_neg (by first | with_reducible assumption | omega)] at hX | rw [jx_of (by omega)] at hX)); first | exact hX | (exfalso; omega) | exact hX), ws_209, by rw [ht]; exact hP, hD, hQ, I9.mono (R := R) ⟨i1_214, i2_215, i3_216, i4_217, i5_218, i6_219, i7_220, i8_221, i9_222, i10_223, i11_224⟩ (by omega), by rw [ht]; show hpS H + (260 * M + 2 * S9 M gc) ≤ hpS s.heap + (260 * M_202 + 2 * S9 M_202 gc_201); omega, by rw [ht]; show 16 * H.size + (256 * M + S9 M gc) ≤ 16 * s.heap.size + (256 * M_202 + S9 M_202 gc_201); omega, by show (n 0).toInt ≤ (n_203 0).toInt; omega, hE_211, by show M ≤ M_202; omega⟩, hS.F ht⟩) hS.2.2 dX9_doStep_193
                  · simp only [i_lt, i_le, i_eq, ti_1] at c_196
                    exact by
                     refine lv_iconst (v := 1) hx hb dX9_doStep_185 (by decide) ?_
                     refine lv_goto (tgt := 190) hx hb dX9_doStep_186 (by decide) ?_
                     have hFc := free_all hD hS hA
                     refine W_msr2 (fun hm1 hm2 hm3 => ?_)
                     refine va_calli (va_runV (As := [.ref (ad (50 + 16 * i)), .int z_62, .int 1, .int 1]) (rest := []) ⟨hx, hb, hml, hown, hg⟩ (c_X9_hand l dC dI kc ws ad ga gc M n f T G K F R i z_62 1 1 H.size (hpS H) hQ ⟨h_i1, h_i2, h_i3, h_i4, h_i5, h_i6, h_i7, h_i8, h_i9, h_i10, h_i11⟩ (by have t_0 := ti_1; have t_1 := ti_1; show i < M; omega) (by have t_0 := ti_1; have t_1 := ti_1; show (i : Int) < (n 0).toInt; omega) (by have t_0 := ti_1; have t_1 := ti_1; show R ≤ 310000; omega)) (cwV 4 hg (gw_V gm_methodLink_RX9_352_yX9_hand gm_instanceMethod_yX9_hand gm_selects_RX9_yX9_hand_yX9_hand gm_initialized_RX9 gm_code_yX9_hand_cX9_hand_7_some_int_) rfl rfl rfl (by decide +kernel) ⟨Nat.le_of_ble_eq_true rfl, Nat.le_of_ble_eq_true rfl⟩) ⟨fun a U g mk q => by obtain ⟨q0, q1, q2, qP, qK, qD, qN⟩ := q; exact ⟨q0, q1, q2, qP, va_K.moved (u := U) (U := U.calling g mk a) (Vm.Alike.refl U.vm) qK, qD, nx_same (u := U) (U := U.calling g mk a) rfl qN⟩, va_recv hK hP (ci := 9) (q0 := 0) rfl hQ.x0, fun U hU hW => ⟨rfl, by rw [hU], by rw [hU], by rw [hU]; exact hP, va_K.moved hW.alike hK, hD.weaken (fun _ _ _ _ => trivial), nx_warm hW hN⟩⟩ rfl rfl hl.1 rfl (lv_room (Nat.le_of_ble_eq_true rfl)) dX9_doStep_190 ⟨by show ce + 3500 ≤ 40000; omega, by show se + 59000 ≤ 1250000; omega⟩) hS (fun q _ h => hFc q h) hFc (fun r_228 u_229 t H1 locs ht hvm hw hB hz1 hk1 hS => ?_)
                     obtain ⟨ad_230, ga_231, gc_232, M_233, n_234, f_235, T_236, G_237, K_238, F_239⟩ := u_229
                     have hB : ∃ w : va_W, va_P (dC, dI) vwCl w t.heap ∧ va_D (va_A ws H.size) w ∧ Pic9 kc w ad_230 ga_231 gc_232 M_233 n_234 f T G_237 K_238 F_239 ∧ I9 M_233 n_234 f T gc_232 G_237 K_238 F_239 R ∧ hpS t.heap + (260 * M + 2 * S9 M gc) ≤ hpS H + (260 * M_233 + 2 * S9 M_233 gc_232) ∧ 16 * t.heap.size + (256 * M + S9 M gc) ≤ 16 * H.size + (256 * M_233 + S9 M_233 gc_232) ∧ (n 0).toInt ≤ (n_234 0).toInt ∧ (∀ q : Nat, q < 50 + 16 * M → ad_230 q = ad q) ∧ M ≤ M_233 := hB
                     rw [ht] at hB
                     obtain ⟨ws_240, hP, hD, hQ, hI_244, hy1, hy2, hn_241, hE_242, hM_243⟩ := hB
                     have hD := hD.weaken (fun k q _ h => hFc _ h)
                     obtain ⟨i1_245, i2_246, i3_247, i4_248, i5_249, i6_250, i7_251, i8_252, i9_253, i10_254, i11_255⟩ := id hI_244
                     have hl_256 : i < M_233 := by omega
                     have q1_ := i1_245
                     unfold i1 at q1_
                     have hSl := S9_le i8_252 i9_253
                     have hb0_ := i8_252.2.1 0 (by omega)
                     have hb1_ := i8_252.2.1 1 (by omega)
                     have hb2_ := i8_252.2.1 2 (by omega)
                     refine W_msr2 (fun hn1 hn2 hn3 => ?_)
                     obtain ⟨ce2, se2, hk3, hk4, hr1, hr2⟩ : ∃ c2 s2 : Nat, H1.size ≤ s.heap.size + c2 ∧ hpS H1 ≤ hpS s.heap + s2 ∧ s2 + (260 * M + 2 * S9 M gc) ≤ (260 * M_233 + 2 * S9 M_233 gc_232) ∧ 16 * c2 + (256 * M + S9 M gc) ≤ (256 * M_233 + S9 M_233 gc_232) := ⟨H1.size - s.heap.size, hpS H1 - hpS s.heap, by omega, by omega, by have := hS.1; omega, by have := hS.1; omega⟩
                     refine W_tightP hk3 hk4 ?_
                     clear hm1 hm2 hm3 hn1 hn2 hn3 hk3 hk4
                     clear hk1 hz1
                     generalize ce2 = ce, se2 = se at hr1 hr2 ⊢
                     generalize H1 = H at hP hS ⊢
                     have hl : lv_has ls 6 [(5, .int z_63), (4, .int z_62), (3, .int (G i 6)), (2, .ref (ad_230 (4 + 4 * ((G i 1).toInt.toNat)))), (0, .ref (ad_230 0)), (1, .ref (ad_230 (50 + 16 * i)))] := by rw [hE_242 (4 + 4 * ((G i 1).toInt.toNat)) (by omega), hE_242 0 (by omega), hE_242 (50 + 16 * i) (by omega)]; exact hl
                     have hc_258 : ((C9.mk n_234 f T G_237 K_238 F_239), r_228) = kh_hand i z_62 (1 : Int32) (1 : Int32) (C9.mk n f T G K F) := hw.1
                     have w_257 : S9 M_233 gc_232 + 16 * M ≤ S9 M gc + 16 * M_233 := hw.2
                     refine W.eq (g2 := F0 m 193 ls [.int r_228]) (by first | rfl | (simp only [hE_242 (4 + 4 * ((G i 1).toInt.toNat)) (by omega), hE_242 0 (by omega), hE_242 (50 + 16 * i) (by omega)]))  ?_
                     refine W_msr2 (fun hm1 hm2 hm3 => ?_)
                     have hSl := S9_le i8_252 i9_253
                     have hb0_ := i8_252.2.1 0 (by omega)
                     have hb1_ := i8_252.2.1 1 (by omega)
                     have hb2_ := i8_252.2.1 2 (by omega)
                     refine W.widen (k := 40000) (n := 1250000) (by omega) (by omega) ?_
                     exact W.iret (v := r_228) hx hb hr (fun t ht hW => ⟨⟨r_228, (ad_230, ga_231, gc_232, M_233, n_234, f, T, G_237, K_238, F_239), rfl, (by show ((C9.mk n_234 f T G_237 K_238 F_239), r_228) = kh_step i (C9.mk n f T G K F); subst ez_62; subst ez_63; subst ez_64; have hX := (kh_step.eq_1 i (C9.mk n f T G K F)).symm; (repeat (first | dsimp +instances only [c9n, c9f, c9T, c9G, c9K, c9F, b_come, b_leave, b_fill, awB, b_settle, b_wake, b_take, f_take, b_gather, f_gather, b_ask, a_ask, b_tell, c_close, d_close, k_add, k_rem, sco, k_clrF, k_mem, k_rebind, k_bnd, k_beg0, k_beg1, b_giveN, b_giveR, f_open, b_hand, k_op, b_turn, wlB, b_beat, f_anew, b_wipe, b_off, k_sadd, fits, frP, cntB, b_trace, b_child, k_lat, cond_true, cond_false, Option.elim_none, Option.elim_some, Option.getD_none, Option.getD_some, f_hand, kh_op, bh_turn, bh_beat] at hX | rw [← hc_258] at hX | rw [if_pos (by first | with_reducible assumption | omega)] at hX | rw [if_neg (by first | with_reducible assumption | omega)] at hX | rw [jx_of (by omega)] at hX)); first | exact hX | (exfalso; omega) | exact hX), ws_240, by rw [ht]; exact hP, hD, hQ, I9.mono (R := R) ⟨i1_245, i2_246, i3_247, i4_248, i5_249, i6_250, i7_251, i8_252, i9_253, i10_254, i11_255⟩ (by omega), by rw [ht]; show hpS H + (260 * M + 2 * S9 M gc) ≤ hpS s.heap + (260 * M_233 + 2 * S9 M_233 gc_232); omega, by rw [ht]; show 16 * H.size + (256 * M + S9 M gc) ≤ 16 * s.heap.size + (256 * M_233 + S9 M_233 gc_232); omega, by show (n 0).toInt ≤ (n_234 0).toInt; omega, hE_242, by show M ≤ M_233; omega⟩, hS.F ht⟩) hS.2.2 dX9_doStep_193
               · refine lv_tableIn (tgt := 194) hx hb dX9_doStep_64 (by omega) (by omega) (by rw [sw_65]; rfl) (by decide) ?_
                 refine lv_aload_n hx hb dX9_doStep_194 rfl (lv_at hl 4 rfl) ?_
                 refine lv_aload_n hx hb dX9_doStep_195 rfl (lv_at hl 5 rfl) ?_
                 refine lv_iload hx hb dX9_doStep_196 (lv_at hl 1 rfl) ?_
                 refine lv_iload hx hb dX9_doStep_198 (lv_at hl 0 rfl) ?_
                 refine lv_iconst (v := 0) hx hb dX9_doStep_200 (by decide) ?_
                 have hFc := free_all hD hS hA
                 refine W_msr2 (fun hm1 hm2 hm3 => ?_)
                 refine va_calli (va_runV (As := [.ref (ad (50 + 16 * i)), .int z_62, .int z_63, .int 0]) (rest := []) ⟨hx, hb, hml, hown, hg⟩ (c_X9_hand l dC dI kc ws ad ga gc M n f T G K F R i z_62 z_63 0 H.size (hpS H) hQ ⟨h_i1, h_i2, h_i3, h_i4, h_i5, h_i6, h_i7, h_i8, h_i9, h_i10, h_i11⟩ (by have t_0 := ti_0; show i < M; omega) (by have t_0 := ti_0; show (i : Int) < (n 0).toInt; omega) (by have t_0 := ti_0; show R ≤ 310000; omega)) (cwV 4 hg (gw_V gm_methodLink_RX9_352_yX9_hand gm_instanceMethod_yX9_hand gm_selects_RX9_yX9_hand_yX9_hand gm_initialized_RX9 gm_code_yX9_hand_cX9_hand_7_some_int_) rfl rfl rfl (by decide +kernel) ⟨Nat.le_of_ble_eq_true rfl, Nat.le_of_ble_eq_true rfl⟩) ⟨fun a U g mk q => by obtain ⟨q0, q1, q2, qP, qK, qD, qN⟩ := q; exact ⟨q0, q1, q2, qP, va_K.moved (u := U) (U := U.calling g mk a) (Vm.Alike.refl U.vm) qK, qD, nx_same (u := U) (U := U.calling g mk a) rfl qN⟩, va_recv hK hP (ci := 9) (q0 := 0) rfl hQ.x0, fun U hU hW => ⟨rfl, by rw [hU], by rw [hU], by rw [hU]; exact hP, va_K.moved hW.alike hK, hD.weaken (fun _ _ _ _ => trivial), nx_warm hW hN⟩⟩ rfl rfl hl.1 rfl (lv_room (Nat.le_of_ble_eq_true rfl)) dX9_doStep_201 ⟨by show ce + 3500 ≤ 40000; omega, by show se + 59000 ≤ 1250000; omega⟩) hS (fun q _ h => hFc q h) hFc (fun r_259 u_260 t H1 locs ht hvm hw hB hz1 hk1 hS => ?_)
                 obtain ⟨ad_261, ga_262, gc_263, M_264, n_265, f_266, T_267, G_268, K_269, F_270⟩ := u_260
                 have hB : ∃ w : va_W, va_P (dC, dI) vwCl w t.heap ∧ va_D (va_A ws H.size) w ∧ Pic9 kc w ad_261 ga_262 gc_263 M_264 n_265 f T G_268 K_269 F_270 ∧ I9 M_264 n_265 f T gc_263 G_268 K_269 F_270 R ∧ hpS t.heap + (260 * M + 2 * S9 M gc) ≤ hpS H + (260 * M_264 + 2 * S9 M_264 gc_263) ∧ 16 * t.heap.size + (256 * M + S9 M gc) ≤ 16 * H.size + (256 * M_264 + S9 M_264 gc_263) ∧ (n 0).toInt ≤ (n_265 0).toInt ∧ (∀ q : Nat, q < 50 + 16 * M → ad_261 q = ad q) ∧ M ≤ M_264 := hB
                 rw [ht] at hB
                 obtain ⟨ws_271, hP, hD, hQ, hI_275, hy1, hy2, hn_272, hE_273, hM_274⟩ := hB
                 have hD := hD.weaken (fun k q _ h => hFc _ h)
                 obtain ⟨i1_276, i2_277, i3_278, i4_279, i5_280, i6_281, i7_282, i8_283, i9_284, i10_285, i11_286⟩ := id hI_275
                 have hl_287 : i < M_264 := by omega
                 have q1_ := i1_276
                 unfold i1 at q1_
                 have hSl := S9_le i8_283 i9_284
                 have hb0_ := i8_283.2.1 0 (by omega)
                 have hb1_ := i8_283.2.1 1 (by omega)
                 have hb2_ := i8_283.2.1 2 (by omega)
                 refine W_msr2 (fun hn1 hn2 hn3 => ?_)
                 obtain ⟨ce2, se2, hk3, hk4, hr1, hr2⟩ : ∃ c2 s2 : Nat, H1.size ≤ s.heap.size + c2 ∧ hpS H1 ≤ hpS s.heap + s2 ∧ s2 + (260 * M + 2 * S9 M gc) ≤ (260 * M_264 + 2 * S9 M_264 gc_263) ∧ 16 * c2 + (256 * M + S9 M gc) ≤ (256 * M_264 + S9 M_264 gc_263) := ⟨H1.size - s.heap.size, hpS H1 - hpS s.heap, by omega, by omega, by have := hS.1; omega, by have := hS.1; omega⟩
                 refine W_tightP hk3 hk4 ?_
                 clear hm1 hm2 hm3 hn1 hn2 hn3 hk3 hk4
                 clear hk1 hz1
                 generalize ce2 = ce, se2 = se at hr1 hr2 ⊢
                 generalize H1 = H at hP hS ⊢
                 have hl : lv_has ls 6 [(5, .int z_63), (4, .int z_62), (3, .int (G i 6)), (2, .ref (ad_261 (4 + 4 * ((G i 1).toInt.toNat)))), (0, .ref (ad_261 0)), (1, .ref (ad_261 (50 + 16 * i)))] := by rw [hE_273 (4 + 4 * ((G i 1).toInt.toNat)) (by omega), hE_273 0 (by omega), hE_273 (50 + 16 * i) (by omega)]; exact hl
                 have hc_289 : ((C9.mk n_265 f T G_268 K_269 F_270), r_259) = kh_hand i z_62 z_63 (0 : Int32) (C9.mk n f T G K F) := hw.1
                 have w_288 : S9 M_264 gc_263 + 16 * M ≤ S9 M gc + 16 * M_264 := hw.2
                 refine W.eq (g2 := F0 m 204 ls [.int r_259]) (by first | rfl | (simp only [hE_273 (4 + 4 * ((G i 1).toInt.toNat)) (by omega), hE_273 0 (by omega), hE_273 (50 + 16 * i) (by omega)]))  ?_
                 refine W_msr2 (fun hm1 hm2 hm3 => ?_)
                 have hSl := S9_le i8_283 i9_284
                 have hb0_ := i8_283.2.1 0 (by omega)
                 have hb1_ := i8_283.2.1 1 (by omega)
                 have hb2_ := i8_283.2.1 2 (by omega)
                 refine W.widen (k := 40000) (n := 1250000) (by omega) (by omega) ?_
                 exact W.iret (v := r_259) hx hb hr (fun t ht hW => ⟨⟨r_259, (ad_261, ga_262, gc_263, M_264, n_265, f, T, G_268, K_269, F_270), rfl, (by show ((C9.mk n_265 f T G_268 K_269 F_270), r_259) = kh_step i (C9.mk n f T G K F); subst ez_62; subst ez_63; subst ez_64; have hX := (kh_step.eq_1 i (C9.mk n f T G K F)).symm; (repeat (first | dsimp +instances only [c9n, c9f, c9T, c9G, c9K, c9F, b_come, b_leave, b_fill, awB, b_settle, b_wake, b_take, f_take, b_gather, f_gather, b_ask, a_ask, b_tell, c_close, d_close, k_add, k_rem, sco, k_clrF, k_mem, k_rebind, k_bnd, k_beg0, k_beg1, b_giveN, b_giveR, f_open, b_hand, k_op, b_turn, wlB, b_beat, f_anew, b_wipe, b_off, k_sadd, fits, frP, cntB, b_trace, b_child, k_lat, cond_true, cond_false, Option.elim_none, Option.elim_some, Option.getD_none, Option.getD_some, f_hand, kh_op, bh_turn, bh_beat] at hX | rw [← hc_289] at hX | rw [if_pos (by first | with_reducible assumption | omega)] at hX | rw [if_neg (by first | with_reducible assumption | omega)] at hX | rw [jx_of (by omega)] at hX)); first | exact hX | (exfalso; omega) | exact hX), ws_271, by rw [ht]; exact hP, hD, hQ, I9.mono (R := R) ⟨i1_276, i2_277, i3_278, i4_279, i5_280, i6_281, i7_282, i8_283, i9_284, i10_285, i11_286⟩ (by omega), by rw [ht]; show hpS H + (260 * M + 2 * S9 M gc) ≤ hpS s.heap + (260 * M_264 + 2 * S9 M_264 gc_263); omega, by rw [ht]; show 16 * H.size + (256 * M + S9 M gc) ≤ 16 * s.heap.size + (256 * M_264 + S9 M_264 gc_263); omega, by show (n 0).toInt ≤ (n_265 0).toInt; omega, hE_273, by show M ≤ M_264; omega⟩, hS.F ht⟩) hS.2.2 dX9_doStep_204
               · refine lv_tableIn (tgt := 205) hx hb dX9_doStep_64 (by omega) (by omega) (by rw [sw_65]; rfl) (by decide) ?_
                 exact by
                  refine lv_aload_n hx hb dX9_doStep_205 rfl (lv_at hl 4 rfl) ?_
                  refine lv_aload_n hx hb dX9_doStep_206 rfl (lv_at hl 5 rfl) ?_
                  have hFc := free_all hD hS hA
                  refine W_msr2 (fun hm1 hm2 hm3 => ?_)
                  refine va_calli (va_runV (As := [.ref (ad (50 + 16 * i))]) (rest := []) ⟨hx, hb, hml, hown, hg⟩ (c_X9_gather l dC dI kc ws ad ga gc M n f T G K F R i H.size (hpS H) hQ ⟨h_i1, h_i2, h_i3, h_i4, h_i5, h_i6, h_i7, h_i8, h_i9, h_i10, h_i11⟩ (by show i < M; omega)) (cwV 1 hg (gw_V gm_methodLink_RX9_356_yX9_gather gm_instanceMethod_yX9_gather gm_selects_RX9_yX9_gather_yX9_gather gm_initialized_RX9 gm_code_yX9_gather_cX9_gather_3_some_int_) rfl rfl rfl (by decide +kernel) ⟨Nat.le_of_ble_eq_true rfl, Nat.le_of_ble_eq_true rfl⟩) ⟨fun a U g mk q => by obtain ⟨q0, q1, q2, qP, qK, qD, qN⟩ := q; exact ⟨q0, q1, q2, qP, va_K.moved (u := U) (U := U.calling g mk a) (Vm.Alike.refl U.vm) qK, qD, nx_same (u := U) (U := U.calling g mk a) rfl qN⟩, va_recv hK hP (ci := 9) (q0 := 0) rfl hQ.x0, fun U hU hW => ⟨rfl, by rw [hU], by rw [hU], by rw [hU]; exact hP, va_K.moved hW.alike hK, hD.weaken (fun _ _ _ _ => trivial), nx_warm hW hN⟩⟩ rfl rfl hl.1 rfl (lv_room (Nat.le_of_ble_eq_true rfl)) dX9_doStep_207 ⟨by show ce + 0 ≤ 40000; omega, by show se + 0 ≤ 1250000; omega⟩) hS (fun q _ h => hFc q h) hFc (fun r_290 u_291 t H1 locs ht hvm hw hB hz1 hk1 hS => ?_)
                  obtain ⟨ad_292, ga_293, gc_294, M_295, n_296, f_297, T_298, G_299, K_300, F_301⟩ := u_291
                  have hB : ∃ w : va_W, va_P (dC, dI) vwCl w t.heap ∧ va_D (va_A ws H.size) w ∧ Pic9 kc w ad ga gc M n f T G_299 K F ∧ I9 M n f T gc G_299 K F R ∧ hpS t.heap + (260 * M + 2 * S9 M gc) ≤ hpS H + (260 * M + 2 * S9 M gc) ∧ 16 * t.heap.size + (256 * M + S9 M gc) ≤ 16 * H.size + (256 * M + S9 M gc) := hB
                  rw [ht] at hB
                  obtain ⟨ws_302, hP, hD, hQ, hI_303, hy1, hy2⟩ := hB
                  have hD := hD.weaken (fun k q _ h => hFc _ h)
                  obtain ⟨i1_304, i2_305, i3_306, i4_307, i5_308, i6_309, i7_310, i8_311, i9_312, i10_313, i11_314⟩ := id hI_303
                  have q1_ := i1_304
                  unfold i1 at q1_
                  have hSl := S9_le i8_311 i9_312
                  have hb0_ := i8_311.2.1 0 (by omega)
                  have hb1_ := i8_311.2.1 1 (by omega)
                  have hb2_ := i8_311.2.1 2 (by omega)
                  refine W_msr2 (fun hn1 hn2 hn3 => ?_)
                  obtain ⟨ce2, se2, hk3, hk4, hr1, hr2⟩ : ∃ c2 s2 : Nat, H1.size ≤ s.heap.size + c2 ∧ hpS H1 ≤ hpS s.heap + s2 ∧ s2 + (260 * M + 2 * S9 M gc) ≤ (260 * M + 2 * S9 M gc) ∧ 16 * c2 + (256 * M + S9 M gc) ≤ (256 * M + S9 M gc) := ⟨H1.size - s.heap.size, hpS H1 - hpS s.heap, by omega, by omega, by have := hS.1; omega, by have := hS.1; omega⟩
                  refine W_tightP hk3 hk4 ?_
                  clear hm1 hm2 hm3 hn1 hn2 hn3 hk3 hk4
                  clear hk1 hz1
                  generalize ce2 = ce, se2 = se at hr1 hr2 ⊢
                  generalize H1 = H at hP hS ⊢
                  have hc_316 : ((C9.mk n f T G_299 K F), r_290) = k_gather i (C9.mk n f T G K F) := hw
                  refine W_msr2 (fun hm1 hm2 hm3 => ?_)
                  have hSl := S9_le i8_311 i9_312
                  have hb0_ := i8_311.2.1 0 (by omega)
                  have hb1_ := i8_311.2.1 1 (by omega)
                  have hb2_ := i8_311.2.1 2 (by omega)
                  refine W.widen (k := 40000) (n := 1250000) (by omega) (by omega) ?_
                  exact W.iret (v := r_290) hx hb hr (fun t ht hW => ⟨⟨r_290, (ad, ga, gc, M, n, f, T, G_299, K, F), rfl, (by show ((C9.mk n f T G_299 K F), r_290) = kh_step i (C9.mk n f T G K F); subst ez_62; subst ez_63; subst ez_64; have hX := (kh_step.eq_1 i (C9.mk n f T G K F)).symm; (repeat (first | dsimp +instances only [c9n, c9f, c9T, c9G, c9K, c9F, b_come, b_leave, b_fill, awB, b_settle, b_wake, b_take, f_take, b_gather, f_gather, b_ask, a_ask, b_tell, c_close, d_close, k_add, k_rem, sco, k_clrF, k_mem, k_rebind, k_bnd, k_beg0, k_beg1, b_giveN, b_giveR, f_open, b_hand, k_op, b_turn, wlB, b_beat, f_anew, b_wipe, b_off, k_sadd, fits, frP, cntB, b_trace, b_child, k_lat, cond_true, cond_false, Option.elim_none, Option.elim_some, Option.getD_none, Option.getD_some, f_hand, kh_op, bh_turn, bh_beat] at hX | rw [← hc_316] at hX | rw [if_pos (by first | with_reducible assumption | omega)] at hX | rw [if_neg (by first | with_reducible assumption | omega)] at hX | rw [jx_of (by omega)] at hX)); first | exact hX | (exfalso; omega) | exact hX), ws_302, by rw [ht]; exact hP, hD, hQ, I9.mono (R := R) ⟨i1_304, i2_305, i3_306, i4_307, i5_308, i6_309, i7_310, i8_311, i9_312, i10_313, i11_314⟩ (by omega), by rw [ht]; show hpS H + (260 * M + 2 * S9 M gc) ≤ hpS s.heap + (260 * M + 2 * S9 M gc); omega, by rw [ht]; show 16 * H.size + (256 * M + S9 M gc) ≤ 16 * s.heap.size + (256 * M + S9 M gc); omega, by show (n 0).toInt ≤ (n 0).toInt; omega, (fun _ _ => rfl), by show M ≤ M; omega⟩, hS.F ht⟩) hS.2.2 dX9_doStep_210
               · refine lv_tableIn (tgt := 211) hx hb dX9_doStep_64 (by omega) (by omega) (by rw [sw_65]; rfl) (by decide) ?_
                 refine lv_aload_n hx hb dX9_doStep_211 rfl (lv_at hl 5 rfl) ?_
                 have hFc := free_all hD hS hA
                 refine W_msr2 (fun hm1 hm2 hm3 => ?_)
                 refine va_callq (va_runV (As := []) (rest := []) ⟨hx, hb, hml, hown, hg⟩ (c_X7_root l dC dI kc ws ad ga gc M n f T G K F R i H.size (hpS H) hQ ⟨h_i1, h_i2, h_i3, h_i4, h_i5, h_i6, h_i7, h_i8, h_i9, h_i10, h_i11⟩ (by show i < M; omega)) (cwV 0 hg (gw_V gm_methodLink_RX9_161_yX7_root gm_instanceMethod_yX7_root gm_selects_RX7_yX7_root_yX7_root gm_initialized_RX7 gm_code_yX7_root_cX7_root_1_some_object_ErrandGuild_Run_) rfl rfl rfl (by decide +kernel) ⟨Nat.le_of_ble_eq_true rfl, Nat.le_of_ble_eq_true rfl⟩) ⟨fun a U g mk q => by obtain ⟨q0, q1, q2, qP, qK, qD, qN⟩ := q; exact ⟨q0, q1, q2, qP, va_K.moved (u := U) (U := U.calling g mk a) (Vm.Alike.refl U.vm) qK, qD, nx_same (u := U) (U := U.calling g mk a) rfl qN⟩, va_recv hK hP (ci := 7) (q0 := (50 + 16 * i)) rfl (hQ.b0 hi), fun U hU hW => ⟨rfl, by rw [hU], by rw [hU], by rw [hU]; exact hP, va_K.moved hW.alike hK, hD.weaken (fun _ _ _ _ => trivial), nx_warm hW hN⟩⟩ rfl rfl hl.1 rfl (lv_room (Nat.le_of_ble_eq_true rfl)) dX9_doStep_212 ⟨by show ce + 0 ≤ 40000; omega, by show se + 0 ≤ 1250000; omega⟩) hS (fun q _ h => hFc q h) hFc (fun r_317 u_318 t H1 locs ht hvm hw hB hz1 hk1 hS => ?_)
                 obtain ⟨hP, hD, hy1, hy2⟩ := hB
                 rw [ht] at hP hy1 hy2
                 have hD := hD.weaken (fun k q _ h => hFc _ h)
                 refine W.widen (k := ce) (n := se) (Nat.le_refl _) (Nat.le_refl _) ?_
                 have q1_ := h_i1
                 unfold i1 at q1_
                 generalize H1 = H at hP hS ⊢
                 obtain rfl : r_317 = some (ad (50 + 16 * (rt9 K i))) := hw
                 have hl_320 : (rt9 K i) < M := rt9_lt h_i3 hi
                 refine W.eq (g2 := F0 m 215 ls [.ref (ad (50 + 16 * (rt9 K i)))]) rfl ?_
                 exact by
                  refine va_get (D := (dC, dI)) (ci := 7) (v := .ref (ad (50 + 16 * (rt9 K i) + 14))) (C := RX7) (T := TX7) (N := 15) hx hb hg gb_7 hown hK hP (50 + 16 * (rt9 K i)) (hQ.b0 hl_320) rfl 14 (by decide) (hg _ gm_fieldLink_RX9_238_ErrandGuild_Run_remarks_LErrandGuild_Cells_) (fun _ h9 => h9) rfl dX9_doStep_215 ?_
                  refine lv_iload hx hb dX9_doStep_218 (lv_at hl 0 rfl) ?_
                  have hgz_ := h_i11.2.2.2 (rt9 K i) hl_320
                  have hgl_ := gc_le h_i9 hl_320
                  have hgm_ := h_i8.1 (3 + (rt9 K i)) (by omega)
                  have hgn_ := h_i8.2.2.1 (rt9 K i) hl_320
                  have hCc : ([(50 + 16 * (rt9 K i) + 14), (50 + 16 * (rt9 K i) + 15)] : List Nat).map (fun i => ws[i]?) = ([(ad (50 + 16 * (rt9 K i) + 14), .inr (0, [.int (G (rt9 K i) 22), .ref (ga (3 + (rt9 K i))), .int (G (rt9 K i) 23)])), (ga (3 + (rt9 K i)), .inl (kc 0, gc (3 + (rt9 K i)), .inl (F (rt9 K i) 9)))] : va_W).map some := mp2 (hQ.b14 hl_320) (hQ.b15 hl_320)
                  have hNd : ([(50 + 16 * (rt9 K i) + 14), (50 + 16 * (rt9 K i) + 15)] : List Nat).Nodup := (nd_off (50 + 16 * (rt9 K i)) (l := [14, 15]) (by decide))
                  have hPc := hP.pick [(50 + 16 * (rt9 K i) + 14), (50 + 16 * (rt9 K i) + 15)] hCc
                  have hDc := hD.pick [(50 + 16 * (rt9 K i) + 14), (50 + 16 * (rt9 K i) + 15)] hNd hCc
                  have hKc := hK.sub (tys' := [((kc 0), .int)]) [0] rfl
                  have hFc := va_free (wc := [(ad (50 + 16 * (rt9 K i) + 14), .inr (0, [.int (G (rt9 K i) 22), .ref (ga (3 + (rt9 K i))), .int (G (rt9 K i) 23)])), (ga (3 + (rt9 K i)), .inl (kc 0, gc (3 + (rt9 K i)), .inl (F (rt9 K i) 9)))]) hD hS hA [(50 + 16 * (rt9 K i) + 14), (50 + 16 * (rt9 K i) + 15)] hCc
                  refine W_msr2 (fun hm1 hm2 hm3 => ?_)
                  exact by
                   refine va_callv (va_runV (As := [.int z_63]) (rest := []) ⟨hx, hb, hml, hown, hg⟩ (c_X0_add l dC dI (ad (50 + 16 * (rt9 K i) + 14)) (ga (3 + (rt9 K i))) (gc (3 + (rt9 K i))) (kc 0) (F (rt9 K i) 9) (G (rt9 K i) 22) (G (rt9 K i) 23) z_63 (hpS H) H.size (by show 16 ≤ (gc (3 + (rt9 K i))) ∧ (gc (3 + (rt9 K i))) ≤ 1000000; omega) (by show (G (rt9 K i) 22).toInt ≤ 1048576; omega) (by show 0 ≤ (G (rt9 K i) 23).toInt ∧ (G (rt9 K i) 23).toInt ≤ ((gc (3 + (rt9 K i))) : Int); omega) hgz_.2) (cwV 1 hg (gw_V gm_methodLink_RX9_310_yX0_add gm_instanceMethod_yX0_add gm_selects_RX0_yX0_add_yX0_add gm_initialized_RX0 gm_code_yX0_add_cX0_add_3_none) rfl rfl rfl (by decide +kernel) ⟨Nat.le_of_ble_eq_true rfl, Nat.le_of_ble_eq_true rfl⟩) ⟨fun a U g mk q => by obtain ⟨q0, q1, q2, qP, qK, qD, qN⟩ := q; exact ⟨q0, q1, q2, qP, va_K.moved (u := U) (U := U.calling g mk a) (Vm.Alike.refl U.vm) qK, qD, nx_same (u := U) (U := U.calling g mk a) rfl qN⟩, va_recv hK hP (ci := 0) (q0 := (50 + 16 * (rt9 K i) + 14)) rfl (hQ.b14 hl_320), fun U hU hW => ⟨rfl, by rw [hU], by rw [hU], by rw [hU]; exact hPc, va_K.moved hW.alike hKc, hDc.weaken (fun _ _ _ _ => trivial), nx_warm hW hN⟩⟩ rfl rfl hl.1 rfl (lv_room (Nat.le_of_ble_eq_true rfl)) dX9_doStep_220 ⟨by show ce + 1 ≤ 40000; omega, by show se + (2 * (gc (3 + (rt9 K i)))) ≤ 1250000; omega⟩) hS (fun q _ h => hFc q h) hFc (fun u_322 t H1 locs ht hvm hw hB hz1 hk1 hS => ?_)
                   obtain ⟨ad_323, ac_324, af_325, ag_326⟩ := u_322
                   obtain ⟨hP1, hD1, hK1, ⟨hy1, hy2⟩, qe_327, qe_328⟩ := hB
                   rw [ht] at hP1 hy1 hy2
                   have hy1 : hpS H1 ≤ hpS H + (2 * ad_323 1 - 2 * (gc (3 + (rt9 K i)))) := hy1
                   have hy2 : 16 * H1.size ≤ 16 * H.size + (ad_323 1 - (gc (3 + (rt9 K i)))) := hy2
                   have hK1 := va_K.moved hvm.symm hK1
                   have hK1 : va_K (dC, dI) vwCl [((ac_324 0), .int)] s := hK1
                   have kA_329 : (ac_324 0) = kc 0 := va_K.one hK1 (hK.sub (tys' := [(kc 0, .int)]) [0] rfl)
                   have hP1 : va_P (dC, dI) vwCl [((ad (50 + 16 * (rt9 K i) + 14)), .inr (0, [.int (G (rt9 K i) 22), .ref (ad_323 0), .int (af_325 1 0)])), ((ad_323 0), .inl ((ac_324 0), (ad_323 1), .inl (af_325 0)))] H1 := hP1
                   have hD1 : va_D _ [((ad (50 + 16 * (rt9 K i) + 14)), .inr (0, [.int (G (rt9 K i) 22), .ref (ad_323 0), .int (af_325 1 0)])), ((ad_323 0), .inl ((ac_324 0), (ad_323 1), .inl (af_325 0)))] := hD1
                   rw [kA_329] at hP1 hD1
                   have qe_327 : (af_325 0) = aF (G (rt9 K i) 23) (G (rt9 K i) 22) (F (rt9 K i) 9) z_63 := qe_327
                   have qe_328 : (af_325 1 0) = aN (G (rt9 K i) 23) (G (rt9 K i) 22) := qe_328
                   rw [qe_327, qe_328] at hP1 hD1
                   obtain ⟨hP, hD⟩ := va_repl (w1 := [((ad (50 + 16 * (rt9 K i) + 14)), .inr (0, [.int (G (rt9 K i) 22), .ref (ad_323 0), .int (aN (G (rt9 K i) 23) (G (rt9 K i) 22))])), ((ad_323 0), .inl (kc 0, (ad_323 1), .inl (aF (G (rt9 K i) 23) (G (rt9 K i) 22) (F (rt9 K i) 9) z_63)))]) hP hD [(50 + 16 * (rt9 K i) + 14), (50 + 16 * (rt9 K i) + 15)] hCc hNd rfl hk1 hFc hP1 hD1
                   have hw_330 : (ad_323 1 = (gc (3 + (rt9 K i))) ∨ (ad_323 1 = 2 * (gc (3 + (rt9 K i))) ∧ ((gc (3 + (rt9 K i))) : Int) ≤ (G (rt9 K i) 23).toInt ∧ (G (rt9 K i) 23).toInt < (G (rt9 K i) 22).toInt)) ∧ ((af_325 1 0) = (G (rt9 K i) 23) ∨ (af_325 1 0).toInt = (G (rt9 K i) 23).toInt + 1) ∧ (af_325 1 0).toInt ≤ ((ad_323 1 : Nat) : Int) := hw
                   rw [qe_328] at hw_330
                   obtain ⟨ws_335, ga_331, gc_332, G_333, F_334, ega_331, egc_332, eG_333, eF_334, hP, hD, hQ⟩ : ∃ (ws_335 : va_W) (ga_331 : Nat → Nat) (gc_332 : Nat → Nat) (G_333 : Nat → Nat → Int32) (F_334 : Nat → Nat → Nat → Int32), ga_331 = u1 ga (3 + (rt9 K i)) (ad_323 0) ∧ gc_332 = u1 gc (3 + (rt9 K i)) (ad_323 1) ∧ G_333 = u2 G (rt9 K i) 23 (aN (G (rt9 K i) 23) (G (rt9 K i) 22)) ∧ F_334 = u2 F (rt9 K i) 9 (aF (G (rt9 K i) 23) (G (rt9 K i) 22) (F (rt9 K i) 9) z_63) ∧ va_P (dC, dI) vwCl ws_335 H1 ∧ va_D A ws_335 ∧ Pic9 kc ws_335 ad ga_331 gc_332 M n f T G_333 K F_334 := ⟨_, _, _, _, _, rfl, rfl, rfl, rfl, hP, hD, hQ.rem hl_320 (ad_323 0) (ad_323 1) (aN (G (rt9 K i) 23) (G (rt9 K i) 22)) (aF (G (rt9 K i) 23) (G (rt9 K i) 22) (F (rt9 K i) 9) z_63)⟩
                   have hgu := S9_up M gc (ad_323 1) (q := (3 + (rt9 K i))) (by omega)
                   rw [← egc_332] at hgu
                   have hg16 := h_i8.1 (3 + (rt9 K i)) (by omega)
                   have i6_336 : i6 n T G_333 := by rw [eG_333]; exact i6.pG h_i6 (rt9 K i) _ (by decide)
                   have i7_337 : i7 n G_333 := by rw [eG_333]; exact i7.pG h_i7 (rt9 K i) _ (by decide)
                   have i8_338 : i8 M n gc_332 G_333 := by rw [eG_333, egc_332]; exact i8.gr (i8.pG h_i8 (rt9 K i) _ (by decide)) (by omega) (by omega) (fun h => by omega)
                   have i9_339 : i9 M gc_332 G_333 (R + 1) := by rw [eG_333, egc_332]; exact i9.rem h_i9 hl_320 (hw_330.1.imp id (fun h => ⟨h.1, h.2.1⟩)) hw_330.2.1
                   have i10_340 : i10 M G_333 K F_334 := by rw [eG_333, eF_334]; exact i10.pF (i10.pG h_i10 hl_320 _ (by decide)) hl_320 _ _
                   have i11_341 : i11 M n gc_332 f G_333 F_334 := by rw [eG_333, egc_332, eF_334]; exact i11.rem h_i11 _ hl_320 (by omega) hw_330.2.2
                   have hSl := S9_le i8_338 i9_339
                   have hb0_ := i8_338.2.1 0 (by omega)
                   have hb1_ := i8_338.2.1 1 (by omega)
                   have hb2_ := i8_338.2.1 2 (by omega)
                   refine W_msr2 (fun hn1 hn2 hn3 => ?_)
                   obtain ⟨ce2, se2, hk3, hk4, hr1, hr2⟩ : ∃ c2 s2 : Nat, H1.size ≤ s.heap.size + c2 ∧ hpS H1 ≤ hpS s.heap + s2 ∧ s2 + (260 * M + 2 * S9 M gc) ≤ (260 * M + 2 * S9 M gc_332) ∧ 16 * c2 + (256 * M + S9 M gc) ≤ (256 * M + S9 M gc_332) := ⟨H1.size - s.heap.size, hpS H1 - hpS s.heap, by omega, by omega, by have := hS.1; omega, by have := hS.1; omega⟩
                   refine W_tightP hk3 hk4 ?_
                   clear hm1 hm2 hm3 hn1 hn2 hn3 hk3 hk4 hk1 hz1 hy1 hy2
                   generalize ce2 = ce, se2 = se at hr1 hr2 ⊢
                   generalize H1 = H at hP hS ⊢
                   exact by
                    refine lv_iconst (v := -1) hx hb dX9_doStep_223 (by decide) ?_
                    refine W_msr2 (fun hm1 hm2 hm3 => ?_)
                    have hSl := S9_le i8_338 i9_339
                    have hb0_ := i8_338.2.1 0 (by omega)
                    have hb1_ := i8_338.2.1 1 (by omega)
                    have hb2_ := i8_338.2.1 2 (by omega)
                    refine W.widen (k := 40000) (n := 1250000) (by omega) (by omega) ?_
                    exact W.iret (v := -1) hx hb hr (fun t ht hW => ⟨⟨-1, (ad, ga_331, gc_332, M, n, f, T, G_333, K, F_334), rfl, (by show ((C9.mk n f T G_333 K F_334), (-1 : Int32)) = kh_step i (C9.mk n f T G K F); subst ez_62; subst ez_63; subst ez_64; subst ega_331; subst egc_332; subst eG_333; subst eF_334; have hX := (kh_step.eq_1 i (C9.mk n f T G K F)).symm; (repeat (first | dsimp +instances only [c9n, c9f, c9T, c9G, c9K, c9F, b_come, b_leave, b_fill, awB, b_settle, b_wake, b_take, f_take, b_gather, f_gather, b_ask, a_ask, b_tell, c_close, d_close, k_add, k_rem, sco, k_clrF, k_mem, k_rebind, k_bnd, k_beg0, k_beg1, b_giveN, b_giveR, f_open, b_hand, k_op, b_turn, wlB, b_beat, f_anew, b_wipe, b_off, k_sadd, fits, frP, cntB, b_trace, b_child, k_lat, cond_true, cond_false, Option.elim_none, Option.elim_some, Option.getD_none, Option.getD_some, f_hand, kh_op, bh_turn, bh_beat] at hX | rw [if_pos (by first | with_reducible assumption | omega)] at hX | rw [if_neg (by first | with_reducible assumption | omega)] at hX | rw [jx_of (by omega)] at hX)); first | exact hX | (exfalso; omega) | exact hX), ws_335, by rw [ht]; exact hP, hD, hQ, ⟨h_i1, h_i2, h_i3, h_i4, h_i5, i6_336, i7_337, i8_338, i9_339, i10_340, i11_341⟩, by rw [ht]; show hpS H + (260 * M + 2 * S9 M gc) ≤ hpS s.heap + (260 * M + 2 * S9 M gc_332); omega, by rw [ht]; show 16 * H.size + (256 * M + S9 M gc) ≤ 16 * s.heap.size + (256 * M + S9 M gc_332); omega, by show (n 0).toInt ≤ (n 0).toInt; omega, (fun _ _ => rfl), by show M ≤ M; omega⟩, hS.F ht⟩) hS.2.2 dX9_doStep_224
               · refine lv_tableIn (tgt := 225) hx hb dX9_doStep_64 (by omega) (by omega) (by rw [sw_65]; rfl) (by decide) ?_
                 refine lv_iload hx hb dX9_doStep_225 (lv_at hl 1 rfl) ?_
                 refine W_msr2 (fun hm1 hm2 hm3 => ?_)
                 have hSl := S9_le h_i8 h_i9
                 have hb0_ := h_i8.2.1 0 (by omega)
                 have hb1_ := h_i8.2.1 1 (by omega)
                 have hb2_ := h_i8.2.1 2 (by omega)
                 refine W.widen (k := 40000) (n := 1250000) (by omega) (by omega) ?_
                 exact W.iret (v := z_62) hx hb hr (fun t ht hW => ⟨⟨z_62, (ad, ga, gc, M, n, f, T, G, K, F), rfl, (by show ((C9.mk n f T G K F), z_62) = kh_step i (C9.mk n f T G K F); subst ez_62; subst ez_63; subst ez_64; have hX := (kh_step.eq_1 i (C9.mk n f T G K F)).symm; (repeat (first | dsimp +instances only [c9n, c9f, c9T, c9G, c9K, c9F, b_come, b_leave, b_fill, awB, b_settle, b_wake, b_take, f_take, b_gather, f_gather, b_ask, a_ask, b_tell, c_close, d_close, k_add, k_rem, sco, k_clrF, k_mem, k_rebind, k_bnd, k_beg0, k_beg1, b_giveN, b_giveR, f_open, b_hand, k_op, b_turn, wlB, b_beat, f_anew, b_wipe, b_off, k_sadd, fits, frP, cntB, b_trace, b_child, k_lat, cond_true, cond_false, Option.elim_none, Option.elim_some, Option.getD_none, Option.getD_some, f_hand, kh_op, bh_turn, bh_beat] at hX | rw [if_pos (by first | with_reducible assumption | omega)] at hX | rw [if_neg (by first | with_reducible assumption | omega)] at hX | rw [jx_of (by omega)] at hX)); first | exact hX | (exfalso; omega) | exact hX), ws, by rw [ht]; exact hP, hD, hQ, I9.mono (R := R) ⟨h_i1, h_i2, h_i3, h_i4, h_i5, h_i6, h_i7, h_i8, h_i9, h_i10, h_i11⟩ (by omega), by rw [ht]; show hpS H + (260 * M + 2 * S9 M gc) ≤ hpS s.heap + (260 * M + 2 * S9 M gc); omega, by rw [ht]; show 16 * H.size + (256 * M + S9 M gc) ≤ 16 * s.heap.size + (256 * M + S9 M gc); omega, by show (n 0).toInt ≤ (n 0).toInt; omega, (fun _ _ => rfl), by show M ≤ M; omega⟩, hS.F ht⟩) hS.2.2 dX9_doStep_227
               · refine lv_tableIn (tgt := 228) hx hb dX9_doStep_64 (by omega) (by omega) (by rw [sw_65]; rfl) (by decide) ?_
                 refine lv_aload_n hx hb dX9_doStep_228 rfl (lv_at hl 5 rfl) ?_
                 refine va_get (D := (dC, dI)) (ci := 7) (v := .ref (ad (50 + 16 * i + 6))) (C := RX7) (T := TX7) (N := 15) hx hb hg gb_7 hown hK hP (50 + 16 * i) (hQ.b0 hi) rfl 12 (by decide) (hg _ gm_fieldLink_RX9_177_ErrandGuild_Run_scopes_LErrandGuild_Scopes_) (fun _ h9 => h9) rfl dX9_doStep_229 ?_
                 exact by
                  refine lv_iload hx hb dX9_doStep_232 (lv_at hl 1 rfl) ?_
                  refine lv_iload hx hb dX9_doStep_234 (lv_at hl 0 rfl) ?_
                  have hCc : ([(50 + 16 * i + 6), (50 + 16 * i + 10), (50 + 16 * i + 11), (50 + 16 * i + 12)] : List Nat).map (fun i => ws[i]?) = ([(ad (50 + 16 * i + 6), .inr (8, [.ref (ad (50 + 16 * i + 7)), .ref (ad (50 + 16 * i + 8)), .ref (ad (50 + 16 * i + 9)), .int (G i 14), .ref (ad (50 + 16 * i + 10)), .ref (ad (50 + 16 * i + 11)), .ref (ad (50 + 16 * i + 12)), .int (G i 15), .int (G i 16)])), (ad (50 + 16 * i + 10), .inl (kc 0, 24, .inl (F i 6))), (ad (50 + 16 * i + 11), .inl (kc 0, 24, .inl (F i 7))), (ad (50 + 16 * i + 12), .inl (kc 0, 24, .inl (F i 8)))] : va_W).map some := mp4 (hQ.b6 hi) (hQ.b10 hi) (hQ.b11 hi) (hQ.b12 hi)
                  have hNd : ([(50 + 16 * i + 6), (50 + 16 * i + 10), (50 + 16 * i + 11), (50 + 16 * i + 12)] : List Nat).Nodup := (nd_off (50 + 16 * i) (l := [6, 10, 11, 12]) (by decide))
                  have hPc := hP.pick [(50 + 16 * i + 6), (50 + 16 * i + 10), (50 + 16 * i + 11), (50 + 16 * i + 12)] hCc
                  have hDc := hD.pick [(50 + 16 * i + 6), (50 + 16 * i + 10), (50 + 16 * i + 11), (50 + 16 * i + 12)] hNd hCc
                  have hKc := hK.sub (tys' := [((kc 0), .int), ((kc 0), .int), ((kc 0), .int)]) [0, 0, 0] rfl
                  have hFc := va_free (wc := [(ad (50 + 16 * i + 6), .inr (8, [.ref (ad (50 + 16 * i + 7)), .ref (ad (50 + 16 * i + 8)), .ref (ad (50 + 16 * i + 9)), .int (G i 14), .ref (ad (50 + 16 * i + 10)), .ref (ad (50 + 16 * i + 11)), .ref (ad (50 + 16 * i + 12)), .int (G i 15), .int (G i 16)])), (ad (50 + 16 * i + 10), .inl (kc 0, 24, .inl (F i 6))), (ad (50 + 16 * i + 11), .inl (kc 0, 24, .inl (F i 7))), (ad (50 + 16 * i + 12), .inl (kc 0, 24, .inl (F i 8)))]) hD hS hA [(50 + 16 * i + 6), (50 + 16 * i + 10), (50 + 16 * i + 11), (50 + 16 * i + 12)] hCc
                  refine W_msr2 (fun hm1 hm2 hm3 => ?_)
                  refine va_callv (va_runV (As := [.int z_62, .int z_63]) (rest := []) ⟨hx, hb, hml, hown, hg⟩ (c_X8_openTry l dC dI (ad (50 + 16 * i + 6)) (ad (50 + 16 * i + 7)) (ad (50 + 16 * i + 8)) (ad (50 + 16 * i + 9)) (ad (50 + 16 * i + 10)) (ad (50 + 16 * i + 11)) (ad (50 + 16 * i + 12)) (kc 0) (kc 0) (kc 0) (F i 6) (F i 7) (F i 8) (G i 14) (G i 15) (G i 16) z_62 z_63 H.size ) (cwV 2 hg (gw_V gm_methodLink_RX9_359_yX8_openTry gm_instanceMethod_yX8_openTry gm_selects_RX8_yX8_openTry_yX8_openTry gm_initialized_RX8 gm_code_yX8_openTry_cX8_openTry_3_none) rfl rfl rfl (by decide +kernel) ⟨Nat.le_of_ble_eq_true rfl, Nat.le_of_ble_eq_true rfl⟩) ⟨fun a U g mk q => by obtain ⟨q0, q1, qP, qK, qD, qN⟩ := q; exact ⟨q0, q1, qP, va_K.moved (u := U) (U := U.calling g mk a) (Vm.Alike.refl U.vm) qK, qD, nx_same (u := U) (U := U.calling g mk a) rfl qN⟩, va_recv hK hP (ci := 8) (q0 := (50 + 16 * i + 6)) rfl (hQ.b6 hi), fun U hU hW => ⟨rfl, by rw [hU], by rw [hU]; exact hPc, va_K.moved hW.alike hKc, hDc.weaken (fun _ _ _ _ => trivial), nx_warm hW hN⟩⟩ rfl rfl hl.1 rfl (lv_room (Nat.le_of_ble_eq_true rfl)) dX9_doStep_236 ⟨by show ce + 0 ≤ 40000; omega, by show se + 0 ≤ 1250000; omega⟩) hS (fun q _ h => hFc q h) hFc (fun u_343 t H1 locs ht hvm hw hB hz1 hk1 hS => ?_)
                  obtain ⟨ad_344, ac_345, af_346, ag_347⟩ := u_343
                  obtain ⟨hP1, hD1, hK1, qe_348, qe_349, qe_350, qe_351, qe_352, qe_353⟩ := hB
                  rw [ht] at hP1
                  have hP1 : va_P (dC, dI) vwCl [((ad (50 + 16 * i + 6)), .inr (8, [.ref (ad (50 + 16 * i + 7)), .ref (ad (50 + 16 * i + 8)), .ref (ad (50 + 16 * i + 9)), .int (af_346 6 0), .ref (ad (50 + 16 * i + 10)), .ref (ad (50 + 16 * i + 11)), .ref (ad (50 + 16 * i + 12)), .int (af_346 7 0), .int (af_346 8 0)])), ((ad (50 + 16 * i + 10)), .inl ((kc 0), 24, .inl (af_346 3))), ((ad (50 + 16 * i + 11)), .inl ((kc 0), 24, .inl (af_346 4))), ((ad (50 + 16 * i + 12)), .inl ((kc 0), 24, .inl (af_346 5)))] H1 := hP1
                  have hD1 : va_D _ [((ad (50 + 16 * i + 6)), .inr (8, [.ref (ad (50 + 16 * i + 7)), .ref (ad (50 + 16 * i + 8)), .ref (ad (50 + 16 * i + 9)), .int (af_346 6 0), .ref (ad (50 + 16 * i + 10)), .ref (ad (50 + 16 * i + 11)), .ref (ad (50 + 16 * i + 12)), .int (af_346 7 0), .int (af_346 8 0)])), ((ad (50 + 16 * i + 10)), .inl ((kc 0), 24, .inl (af_346 3))), ((ad (50 + 16 * i + 11)), .inl ((kc 0), 24, .inl (af_346 4))), ((ad (50 + 16 * i + 12)), .inl ((kc 0), 24, .inl (af_346 5)))] := hD1
                  have qe_348 : (af_346 3) = bnF (G i 15) (F i 6) z_62 := qe_348
                  have qe_349 : (af_346 4) = bnF (G i 15) (F i 7) z_63 := qe_349
                  have qe_350 : (af_346 5) = bnF (G i 15) (F i 8) (G i 16) := qe_350
                  have qe_351 : (af_346 6 0) = (G i 14) := qe_351
                  have qe_352 : (af_346 7 0) = bnN (G i 15) := qe_352
                  have qe_353 : (af_346 8 0) = bnM (G i 15) (G i 16) := qe_353
                  rw [qe_348, qe_349, qe_350, qe_351, qe_352, qe_353] at hP1 hD1
                  obtain ⟨hP, hD⟩ := va_repl (w1 := [((ad (50 + 16 * i + 6)), .inr (8, [.ref (ad (50 + 16 * i + 7)), .ref (ad (50 + 16 * i + 8)), .ref (ad (50 + 16 * i + 9)), .int (G i 14), .ref (ad (50 + 16 * i + 10)), .ref (ad (50 + 16 * i + 11)), .ref (ad (50 + 16 * i + 12)), .int (bnN (G i 15)), .int (bnM (G i 15) (G i 16))])), ((ad (50 + 16 * i + 10)), .inl ((kc 0), 24, .inl (bnF (G i 15) (F i 6) z_62))), ((ad (50 + 16 * i + 11)), .inl ((kc 0), 24, .inl (bnF (G i 15) (F i 7) z_63))), ((ad (50 + 16 * i + 12)), .inl ((kc 0), 24, .inl (bnF (G i 15) (F i 8) (G i 16))))]) hP hD [(50 + 16 * i + 6), (50 + 16 * i + 10), (50 + 16 * i + 11), (50 + 16 * i + 12)] hCc hNd rfl hk1 hFc hP1 hD1
                  obtain ⟨ws_356, G_354, F_355, eG_354, eF_355, hP, hD, hQ⟩ : ∃ (ws_356 : va_W) (G_354 : Nat → Nat → Int32) (F_355 : Nat → Nat → Nat → Int32), G_354 = u2 (u2 (u2 G i 14 (G i 14)) i 15 (bnN (G i 15))) i 16 (bnM (G i 15) (G i 16)) ∧ F_355 = u2 (u2 (u2 F i 6 (bnF (G i 15) (F i 6) z_62)) i 7 (bnF (G i 15) (F i 7) z_63)) i 8 (bnF (G i 15) (F i 8) (G i 16)) ∧ va_P (dC, dI) vwCl ws_356 H1 ∧ va_D A ws_356 ∧ Pic9 kc ws_356 ad ga gc M n f T G_354 K F_355 := ⟨_, _, _, rfl, rfl, hP, hD, (((hQ.sco2 hi (G i 14) (bnN (G i 15)) (bnM (G i 15) (G i 16))).arr hi 10 6 (by decide) (bnF (G i 15) (F i 6) z_62) rfl).arr hi 11 7 (by decide) (bnF (G i 15) (F i 7) z_63) rfl).arr hi 12 8 (by decide) (bnF (G i 15) (F i 8) (G i 16)) rfl⟩
                  have i10_357 : i10 M G_354 K F_355 := by rw [eG_354, eF_355]; exact (i10.pF (i10.pF (i10.pF (i10.pG (i10.pG (i10.pG h_i10 hi _ (by decide)) hi _ (by decide)) hi _ (by decide)) hi _ _) hi _ _) hi _ _)
                  have i11_358 : i11 M n gc f G_354 F_355 := by rw [eG_354, eF_355]; exact (i11.pF (i11.pF (i11.pF (i11.pG (i11.pG (i11.pG h_i11 i _ (by decide)) i _ (by decide)) i _ (by decide)) i _ (by decide)) i _ (by decide)) i _ (by decide))
                  have i6_359 : i6 n T G_354 := by rw [eG_354]; exact (i6.pG (i6.pG (i6.pG h_i6 i _ (by decide)) i _ (by decide)) i _ (by decide))
                  have i7_360 : i7 n G_354 := by rw [eG_354]; exact (i7.pG (i7.pG (i7.pG h_i7 i _ (by decide)) i _ (by decide)) i _ (by decide))
                  have i8_361 : i8 M n gc G_354 := by rw [eG_354]; exact (i8.pG (i8.pG (i8.pG h_i8 i _ (by decide)) i _ (by decide)) i _ (by decide))
                  have i9_362 : i9 M gc G_354 R := by rw [eG_354]; exact (i9.pG (i9.pG (i9.pG h_i9 i _ (by decide)) i _ (by decide)) i _ (by decide))
                  refine W.widen (k := ce) (n := se) (Nat.le_refl _) (Nat.le_refl _) ?_
                  generalize H1 = H at hP hS ⊢
                  exact by
                   refine lv_iconst (v := -1) hx hb dX9_doStep_239 (by decide) ?_
                   refine W_msr2 (fun hm1 hm2 hm3 => ?_)
                   have hSl := S9_le i8_361 i9_362
                   have hb0_ := i8_361.2.1 0 (by omega)
                   have hb1_ := i8_361.2.1 1 (by omega)
                   have hb2_ := i8_361.2.1 2 (by omega)
                   refine W.widen (k := 40000) (n := 1250000) (by omega) (by omega) ?_
                   exact W.iret (v := -1) hx hb hr (fun t ht hW => ⟨⟨-1, (ad, ga, gc, M, n, f, T, G_354, K, F_355), rfl, (by show ((C9.mk n f T G_354 K F_355), (-1 : Int32)) = kh_step i (C9.mk n f T G K F); subst ez_62; subst ez_63; subst ez_64; subst eG_354; subst eF_355; have hX := (kh_step.eq_1 i (C9.mk n f T G K F)).symm; (repeat (first | dsimp +instances only [c9n, c9f, c9T, c9G, c9K, c9F, b_come, b_leave, b_fill, awB, b_settle, b_wake, b_take, f_take, b_gather, f_gather, b_ask, a_ask, b_tell, c_close, d_close, k_add, k_rem, sco, k_clrF, k_mem, k_rebind, k_bnd, k_beg0, k_beg1, b_giveN, b_giveR, f_open, b_hand, k_op, b_turn, wlB, b_beat, f_anew, b_wipe, b_off, k_sadd, fits, frP, cntB, b_trace, b_child, k_lat, cond_true, cond_false, Option.elim_none, Option.elim_some, Option.getD_none, Option.getD_some, f_hand, kh_op, bh_turn, bh_beat] at hX | rw [if_pos (by first | with_reducible assumption | omega)] at hX | rw [if_neg (by first | with_reducible assumption | omega)] at hX | rw [jx_of (by omega)] at hX)); first | exact hX | (exfalso; omega) | exact hX), ws_356, by rw [ht]; exact hP, hD, hQ, I9.mono (R := R) ⟨h_i1, h_i2, h_i3, h_i4, h_i5, i6_359, i7_360, i8_361, i9_362, i10_357, i11_358⟩ (by omega), by rw [ht]; show hpS H + (260 * M + 2 * S9 M gc) ≤ hpS s.heap + (260 * M + 2 * S9 M gc); omega, by rw [ht]; show 16 * H.size + (256 * M + S9 M gc) ≤ 16 * s.heap.size + (256 * M + S9 M gc); omega, by show (n 0).toInt ≤ (n 0).toInt; omega, (fun _ _ => rfl), by show M ≤ M; omega⟩, hS.F ht⟩) hS.2.2 dX9_doStep_240
               · refine lv_tableIn (tgt := 241) hx hb dX9_doStep_64 (by omega) (by omega) (by rw [sw_65]; rfl) (by decide) ?_
                 refine lv_aload_n hx hb dX9_doStep_241 rfl (lv_at hl 5 rfl) ?_
                 refine va_get (D := (dC, dI)) (ci := 7) (v := .ref (ad (50 + 16 * i + 6))) (C := RX7) (T := TX7) (N := 15) hx hb hg gb_7 hown hK hP (50 + 16 * i) (hQ.b0 hi) rfl 12 (by decide) (hg _ gm_fieldLink_RX9_177_ErrandGuild_Run_scopes_LErrandGuild_Scopes_) (fun _ h9 => h9) rfl dX9_doStep_242 ?_
                 have hCc : ([(50 + 16 * i + 6)] : List Nat).map (fun i => ws[i]?) = ([(ad (50 + 16 * i + 6), .inr (8, [.ref (ad (50 + 16 * i + 7)), .ref (ad (50 + 16 * i + 8)), .ref (ad (50 + 16 * i + 9)), .int (G i 14), .ref (ad (50 + 16 * i + 10)), .ref (ad (50 + 16 * i + 11)), .ref (ad (50 + 16 * i + 12)), .int (G i 15), .int (G i 16)]))] : va_W).map some := mp1 (hQ.b6 hi)
                 have hNd : ([(50 + 16 * i + 6)] : List Nat).Nodup := (nd_off (50 + 16 * i) (l := [6]) (by decide))
                 have hPc := hP.pick [(50 + 16 * i + 6)] hCc
                 have hDc := hD.pick [(50 + 16 * i + 6)] hNd hCc
                 have hKc := hK.sub (tys' := []) [] rfl
                 have hFc := va_free (wc := [(ad (50 + 16 * i + 6), .inr (8, [.ref (ad (50 + 16 * i + 7)), .ref (ad (50 + 16 * i + 8)), .ref (ad (50 + 16 * i + 9)), .int (G i 14), .ref (ad (50 + 16 * i + 10)), .ref (ad (50 + 16 * i + 11)), .ref (ad (50 + 16 * i + 12)), .int (G i 15), .int (G i 16)]))]) hD hS hA [(50 + 16 * i + 6)] hCc
                 refine W_msr2 (fun hm1 hm2 hm3 => ?_)
                 refine va_calli (va_runV (As := []) (rest := []) ⟨hx, hb, hml, hown, hg⟩ (c_X8_closeTry l dC dI (ad (50 + 16 * i + 6)) (ad (50 + 16 * i + 7)) (ad (50 + 16 * i + 8)) (ad (50 + 16 * i + 9)) (ad (50 + 16 * i + 10)) (ad (50 + 16 * i + 11)) (ad (50 + 16 * i + 12)) (G i 14) (G i 15) (G i 16) H.size ) (cwV 0 hg (gw_V gm_methodLink_RX9_362_yX8_closeTry gm_instanceMethod_yX8_closeTry gm_selects_RX8_yX8_closeTry_yX8_closeTry gm_initialized_RX8 gm_code_yX8_closeTry_cX8_closeTry_1_some_boolean_) rfl rfl rfl (by decide +kernel) ⟨Nat.le_of_ble_eq_true rfl, Nat.le_of_ble_eq_true rfl⟩) ⟨fun a U g mk q => by obtain ⟨q0, q1, qP, qK, qD, qN⟩ := q; exact ⟨q0, q1, qP, va_K.moved (u := U) (U := U.calling g mk a) (Vm.Alike.refl U.vm) qK, qD, nx_same (u := U) (U := U.calling g mk a) rfl qN⟩, va_recv hK hP (ci := 8) (q0 := (50 + 16 * i + 6)) rfl (hQ.b6 hi), fun U hU hW => ⟨rfl, by rw [hU], by rw [hU]; exact hPc, va_K.moved hW.alike hKc, hDc.weaken (fun _ _ _ _ => trivial), nx_warm hW hN⟩⟩ rfl rfl hl.1 rfl (lv_room (Nat.le_of_ble_eq_true rfl)) dX9_doStep_245 ⟨by show ce + 0 ≤ 40000; omega, by show se + 0 ≤ 1250000; omega⟩) hS (fun q _ h => hFc q h) hFc (fun r_363 u_364 t H1 locs ht hvm hw hB hz1 hk1 hS => ?_)
                 obtain ⟨ad_365, ac_366, af_367, ag_368⟩ := u_364
                 obtain ⟨hP1, hD1, hK1, qe_369, qe_370, qe_371⟩ := hB
                 rw [ht] at hP1
                 have hP1 : va_P (dC, dI) vwCl [((ad (50 + 16 * i + 6)), .inr (8, [.ref (ad (50 + 16 * i + 7)), .ref (ad (50 + 16 * i + 8)), .ref (ad (50 + 16 * i + 9)), .int (af_367 6 0), .ref (ad (50 + 16 * i + 10)), .ref (ad (50 + 16 * i + 11)), .ref (ad (50 + 16 * i + 12)), .int (af_367 7 0), .int (af_367 8 0)]))] H1 := hP1
                 have hD1 : va_D _ [((ad (50 + 16 * i + 6)), .inr (8, [.ref (ad (50 + 16 * i + 7)), .ref (ad (50 + 16 * i + 8)), .ref (ad (50 + 16 * i + 9)), .int (af_367 6 0), .ref (ad (50 + 16 * i + 10)), .ref (ad (50 + 16 * i + 11)), .ref (ad (50 + 16 * i + 12)), .int (af_367 7 0), .int (af_367 8 0)]))] := hD1
                 have qe_369 : (af_367 6 0) = (G i 14) := qe_369
                 have qe_370 : (af_367 7 0) = ctN (G i 15) := qe_370
                 have qe_371 : (af_367 8 0) = (G i 16) := qe_371
                 rw [qe_369, qe_370, qe_371] at hP1 hD1
                 obtain ⟨hP, hD⟩ := va_repl (w1 := [((ad (50 + 16 * i + 6)), .inr (8, [.ref (ad (50 + 16 * i + 7)), .ref (ad (50 + 16 * i + 8)), .ref (ad (50 + 16 * i + 9)), .int (G i 14), .ref (ad (50 + 16 * i + 10)), .ref (ad (50 + 16 * i + 11)), .ref (ad (50 + 16 * i + 12)), .int (ctN (G i 15)), .int (G i 16)]))]) hP hD [(50 + 16 * i + 6)] hCc hNd rfl hk1 hFc hP1 hD1
                 obtain ⟨ws_373, G_372, eG_372, hP, hD, hQ⟩ : ∃ (ws_373 : va_W) (G_372 : Nat → Nat → Int32), G_372 = u2 (u2 (u2 G i 14 (G i 14)) i 15 (ctN (G i 15))) i 16 (G i 16) ∧ va_P (dC, dI) vwCl ws_373 H1 ∧ va_D A ws_373 ∧ Pic9 kc ws_373 ad ga gc M n f T G_372 K F := ⟨_, _, rfl, hP, hD, hQ.sco2 hi (G i 14) (ctN (G i 15)) (G i 16)⟩
                 have i10_374 : i10 M G_372 K F := by rw [eG_372]; exact (i10.pG (i10.pG (i10.pG h_i10 hi _ (by decide)) hi _ (by decide)) hi _ (by decide))
                 have i11_375 : i11 M n gc f G_372 F := by rw [eG_372]; exact (i11.pG (i11.pG (i11.pG h_i11 i _ (by decide)) i _ (by decide)) i _ (by decide))
                 have i6_376 : i6 n T G_372 := by rw [eG_372]; exact (i6.pG (i6.pG (i6.pG h_i6 i _ (by decide)) i _ (by decide)) i _ (by decide))
                 have i7_377 : i7 n G_372 := by rw [eG_372]; exact (i7.pG (i7.pG (i7.pG h_i7 i _ (by decide)) i _ (by decide)) i _ (by decide))
                 have i8_378 : i8 M n gc G_372 := by rw [eG_372]; exact (i8.pG (i8.pG (i8.pG h_i8 i _ (by decide)) i _ (by decide)) i _ (by decide))
                 have i9_379 : i9 M gc G_372 R := by rw [eG_372]; exact (i9.pG (i9.pG (i9.pG h_i9 i _ (by decide)) i _ (by decide)) i _ (by decide))
                 refine W.widen (k := ce) (n := se) (Nat.le_refl _) (Nat.le_refl _) ?_
                 generalize H1 = H at hP hS ⊢
                 rcases hw with ⟨rfl, w_380⟩ | ⟨rfl, w_380⟩
                 · refine lv_if_eq (tgt := 255) hx hb dX9_doStep_248 (by decide) (fun c_381 => absurd c_381 (by decide)) (fun _ => ?_)
                   exact by
                    refine lv_iconst (v := -1) hx hb dX9_doStep_251 (by decide) ?_
                    refine lv_goto (tgt := 256) hx hb dX9_doStep_252 (by decide) ?_
                    refine W_msr2 (fun hm1 hm2 hm3 => ?_)
                    have hSl := S9_le i8_378 i9_379
                    have hb0_ := i8_378.2.1 0 (by omega)
                    have hb1_ := i8_378.2.1 1 (by omega)
                    have hb2_ := i8_378.2.1 2 (by omega)
                    refine W.widen (k := 40000) (n := 1250000) (by omega) (by omega) ?_
                    exact W.iret (v := -1) hx hb hr (fun t ht hW => ⟨⟨-1, (ad, ga, gc, M, n, f, T, G_372, K, F), rfl, (by show ((C9.mk n f T G_372 K F), (-1 : Int32)) = kh_step i (C9.mk n f T G K F); subst ez_62; subst ez_63; subst ez_64; subst eG_372; have hX := (kh_step.eq_1 i (C9.mk n f T G K F)).symm; (repeat (first | dsimp +instances only [c9n, c9f, c9T, c9G, c9K, c9F, b_come, b_leave, b_fill, awB, b_settle, b_wake, b_take, f_take, b_gather, f_gather, b_ask, a_ask, b_tell, c_close, d_close, k_add, k_rem, sco, k_clrF, k_mem, k_rebind, k_bnd, k_beg0, k_beg1, b_giveN, b_giveR, f_open, b_hand, k_op, b_turn, wlB, b_beat, f_anew, b_wipe, b_off, k_sadd, fits, frP, cntB, b_trace, b_child, k_lat, cond_true, cond_false, Option.elim_none, Option.elim_some, Option.getD_none, Option.getD_some, f_hand, kh_op, bh_turn, bh_beat] at hX | rw [if_pos (by first | with_reducible assumption | omega)] at hX | rw [if_neg (by first | with_reducible assumption | omega)] at hX | rw [jx_of (by omega)] at hX)); first | exact hX | (exfalso; omega) | exact hX), ws_373, by rw [ht]; exact hP, hD, hQ, I9.mono (R := R) ⟨h_i1, h_i2, h_i3, h_i4, h_i5, i6_376, i7_377, i8_378, i9_379, i10_374, i11_375⟩ (by omega), by rw [ht]; show hpS H + (260 * M + 2 * S9 M gc) ≤ hpS s.heap + (260 * M + 2 * S9 M gc); omega, by rw [ht]; show 16 * H.size + (256 * M + S9 M gc) ≤ 16 * s.heap.size + (256 * M + S9 M gc); omega, by show (n 0).toInt ≤ (n 0).toInt; omega, (fun _ _ => rfl), by show M ≤ M; omega⟩, hS.F ht⟩) hS.2.2 dX9_doStep_256
                 · refine lv_if_eq (tgt := 255) hx hb dX9_doStep_248 (by decide) (fun _ => ?_) (fun c_382 => absurd c_382 (by decide))
                   refine lv_iconst (v := 5) hx hb dX9_doStep_255 (by decide) ?_
                   refine W_msr2 (fun hm1 hm2 hm3 => ?_)
                   have hSl := S9_le i8_378 i9_379
                   have hb0_ := i8_378.2.1 0 (by omega)
                   have hb1_ := i8_378.2.1 1 (by omega)
                   have hb2_ := i8_378.2.1 2 (by omega)
                   refine W.widen (k := 40000) (n := 1250000) (by omega) (by omega) ?_
                   exact W.iret (v := 5) hx hb hr (fun t ht hW => ⟨⟨5, (ad, ga, gc, M, n, f, T, G_372, K, F), rfl, (by show ((C9.mk n f T G_372 K F), (5 : Int32)) = kh_step i (C9.mk n f T G K F); subst ez_62; subst ez_63; subst ez_64; subst eG_372; have hX := (kh_step.eq_1 i (C9.mk n f T G K F)).symm; (repeat (first | dsimp +instances only [c9n, c9f, c9T, c9G, c9K, c9F, b_come, b_leave, b_fill, awB, b_settle, b_wake, b_take, f_take, b_gather, f_gather, b_ask, a_ask, b_tell, c_close, d_close, k_add, k_rem, sco, k_clrF, k_mem, k_rebind, k_bnd, k_beg0, k_beg1, b_giveN, b_giveR, f_open, b_hand, k_op, b_turn, wlB, b_beat, f_anew, b_wipe, b_off, k_sadd, fits, frP, cntB, b_trace, b_child, k_lat, cond_true, cond_false, Option.elim_none, Option.elim_some, Option.getD_none, Option.getD_some, f_hand, kh_op, bh_turn, bh_beat] at hX | rw [if_pos (by first | with_reducible assumption | omega)] at hX | rw [if_neg (by first | with_reducible assumption | omega)] at hX | rw [jx_of (by omega)] at hX)); first | exact hX | (exfalso; omega) | exact hX), ws_373, by rw [ht]; exact hP, hD, hQ, I9.mono (R := R) ⟨h_i1, h_i2, h_i3, h_i4, h_i5, i6_376, i7_377, i8_378, i9_379, i10_374, i11_375⟩ (by omega), by rw [ht]; show hpS H + (260 * M + 2 * S9 M gc) ≤ hpS s.heap + (260 * M + 2 * S9 M gc); omega, by rw [ht]; show 16 * H.size + (256 * M + S9 M gc) ≤ 16 * s.heap.size + (256 * M + S9 M gc); omega, by show (n 0).toInt ≤ (n 0).toInt; omega, (fun _ _ => rfl), by show M ≤ M; omega⟩, hS.F ht⟩) hS.2.2 dX9_doStep_256
               · refine lv_tableIn (tgt := 257) hx hb dX9_doStep_64 (by omega) (by omega) (by rw [sw_65]; rfl) (by decide) ?_
                 refine lv_aload_n hx hb dX9_doStep_257 rfl (lv_at hl 5 rfl) ?_
                 refine lv_dup hx hb dX9_doStep_258 rfl ?_
                 exact by
                  refine va_get (D := (dC, dI)) (ci := 7) (v := .int (G i 5)) (C := RX7) (T := TX7) (N := 15) hx hb hg gb_7 hown hK hP (50 + 16 * i) (hQ.b0 hi) rfl 5 (by decide) (hg _ gm_fieldLink_RX9_171_ErrandGuild_Run_sum_I_) (fun _ h9 => h9) rfl dX9_doStep_259 ?_
                  refine lv_iload hx hb dX9_doStep_262 (lv_at hl 0 rfl) ?_
                  refine lv_iadd hx hb dX9_doStep_264 ?_
                  refine lv_topi (fun z_383 ez_383 => ?_)
                  refine va_put (D := (dC, dI)) (ci := 7) (v := .int (z_383)) (ty := .int) (C := RX7) (T := TX7) (N := 15) hx hb hg gb_7 tyX7 tyX7_ok nmX7 hown hK hP hD hS (50 + 16 * i) (hQ.b0 hi) rfl 5 (by decide) (hg _ gm_fieldLink_RX9_171_ErrandGuild_Run_sum_I_) (fun _ h9 => h9) rfl (by decide +kernel) rfl rfl (Nat.le_of_ble_eq_true rfl) dX9_doStep_265 (fun H locs hP hD hS => ?_)
                  obtain ⟨ws_385, G_384, eG_384, hP, hD, hQ⟩ : ∃ (ws_385 : va_W) (G_384 : Nat → Nat → Int32), G_384 = u2 G i 5 z_383 ∧ va_P (dC, dI) vwCl ws_385 H ∧ va_D A ws_385 ∧ Pic9 kc ws_385 ad ga gc M n f T G_384 K F := ⟨_, _, rfl, hP, hD, hQ.run hi 5 (by decide) z_383⟩
                  have i10_386 : i10 M G_384 K F := by rw [eG_384]; exact (i10.pG h_i10 hi _ (by decide))
                  have i11_387 : i11 M n gc f G_384 F := by rw [eG_384]; exact (i11.pG h_i11 i _ (by decide))
                  have i6_388 : i6 n T G_384 := by rw [eG_384]; exact (i6.pG h_i6 i _ (by decide))
                  have i7_389 : i7 n G_384 := by rw [eG_384]; exact (i7.pG h_i7 i _ (by decide))
                  have i8_390 : i8 M n gc G_384 := by rw [eG_384]; exact (i8.pG h_i8 i _ (by decide))
                  have i9_391 : i9 M gc G_384 R := by rw [eG_384]; exact (i9.pG h_i9 i _ (by decide))
                  have eg_392 : G_384 i 5 = z_383 := by rw [eG_384, u2_eq]
                  exact by
                   refine lv_iconst (v := -1) hx hb dX9_doStep_268 (by decide) ?_
                   refine W_msr2 (fun hm1 hm2 hm3 => ?_)
                   have hSl := S9_le i8_390 i9_391
                   have hb0_ := i8_390.2.1 0 (by omega)
                   have hb1_ := i8_390.2.1 1 (by omega)
                   have hb2_ := i8_390.2.1 2 (by omega)
                   refine W.widen (k := 40000) (n := 1250000) (by omega) (by omega) ?_
                   exact W.iret (v := -1) hx hb hr (fun t ht hW => ⟨⟨-1, (ad, ga, gc, M, n, f, T, G_384, K, F), rfl, (by show ((C9.mk n f T G_384 K F), (-1 : Int32)) = kh_step i (C9.mk n f T G K F); subst ez_62; subst ez_63; subst ez_64; subst eG_384; subst ez_383; have hX := (kh_step.eq_1 i (C9.mk n f T G K F)).symm; (repeat (first | dsimp +instances only [c9n, c9f, c9T, c9G, c9K, c9F, b_come, b_leave, b_fill, awB, b_settle, b_wake, b_take, f_take, b_gather, f_gather, b_ask, a_ask, b_tell, c_close, d_close, k_add, k_rem, sco, k_clrF, k_mem, k_rebind, k_bnd, k_beg0, k_beg1, b_giveN, b_giveR, f_open, b_hand, k_op, b_turn, wlB, b_beat, f_anew, b_wipe, b_off, k_sadd, fits, frP, cntB, b_trace, b_child, k_lat, cond_true, cond_false, Option.elim_none, Option.elim_some, Option.getD_none, Option.getD_some, f_hand, kh_op, bh_turn, bh_beat] at hX | rw [if_pos (by first | with_reducible assumption | omega)] at hX | rw [if_neg (by first | with_reducible assumption | omega)] at hX | rw [jx_of (by omega)] at hX)); first | exact hX | (exfalso; omega) | exact hX), ws_385, by rw [ht]; exact hP, hD, hQ, I9.mono (R := R) ⟨h_i1, h_i2, h_i3, h_i4, h_i5, i6_388, i7_389, i8_390, i9_391, i10_386, i11_387⟩ (by omega), by rw [ht]; show hpS H + (260 * M + 2 * S9 M gc) ≤ hpS s.heap + (260 * M + 2 * S9 M gc); omega, by rw [ht]; show 16 * H.size + (256 * M + S9 M gc) ≤ 16 * s.heap.size + (256 * M + S9 M gc); omega, by show (n 0).toInt ≤ (n 0).toInt; omega, (fun _ _ => rfl), by show M ≤ M; omega⟩, hS.F ht⟩) hS.2.2 dX9_doStep_269
           · simp only [i_lt, i_le, i_eq, ti_24] at c_61
             refine lv_aload_n hx hb dX9_doStep_36 rfl (lv_at hl 2 rfl) ?_
             refine lv_aload_n hx hb dX9_doStep_37 rfl (lv_at hl 3 rfl) ?_
             have hFc := free_all hD hS hA
             refine W_msr2 (fun hm1 hm2 hm3 => ?_)
             refine va_calli (va_runV (As := [.ref (ad (50 + 16 * i))]) (rest := []) ⟨hx, hb, hml, hown, hg⟩ (c_X9_end l dC dI kc ws ad ga gc M n f T G K F R i H.size (hpS H) hQ ⟨h_i1, h_i2, h_i3, h_i4, h_i5, h_i6, h_i7, h_i8, h_i9, h_i10, h_i11⟩ (by show i < M; omega)) (cwV 1 hg (gw_V gm_methodLink_RX9_328_yX9_end gm_instanceMethod_yX9_end gm_selects_RX9_yX9_end_yX9_end gm_initialized_RX9 gm_code_yX9_end_cX9_end_2_some_int_) rfl rfl rfl (by decide +kernel) ⟨Nat.le_of_ble_eq_true rfl, Nat.le_of_ble_eq_true rfl⟩) ⟨fun a U g mk q => by obtain ⟨q0, q1, q2, qP, qK, qD, qN⟩ := q; exact ⟨q0, q1, q2, qP, va_K.moved (u := U) (U := U.calling g mk a) (Vm.Alike.refl U.vm) qK, qD, nx_same (u := U) (U := U.calling g mk a) rfl qN⟩, va_recv hK hP (ci := 9) (q0 := 0) rfl hQ.x0, fun U hU hW => ⟨rfl, by rw [hU], by rw [hU], by rw [hU]; exact hP, va_K.moved hW.alike hK, hD.weaken (fun _ _ _ _ => trivial), nx_warm hW hN⟩⟩ rfl rfl hl.1 rfl (lv_room (Nat.le_of_ble_eq_true rfl)) dX9_doStep_38 ⟨by show ce + 0 ≤ 40000; omega, by show se + 0 ≤ 1250000; omega⟩) hS (fun q _ h => hFc q h) hFc (fun r_393 u_394 t H1 locs ht hvm hw hB hz1 hk1 hS => ?_)
             obtain ⟨ad_395, ga_396, gc_397, M_398, n_399, f_400, T_401, G_402, K_403, F_404⟩ := u_394
             have hB : ∃ w : va_W, va_P (dC, dI) vwCl w t.heap ∧ va_D (va_A ws H.size) w ∧ Pic9 kc w ad ga gc M n f T G_402 K F ∧ I9 M n f T gc G_402 K F R ∧ hpS t.heap + (260 * M + 2 * S9 M gc) ≤ hpS H + (260 * M + 2 * S9 M gc) ∧ 16 * t.heap.size + (256 * M + S9 M gc) ≤ 16 * H.size + (256 * M + S9 M gc) := hB
             rw [ht] at hB
             obtain ⟨ws_405, hP, hD, hQ, hI_406, hy1, hy2⟩ := hB
             have hD := hD.weaken (fun k q _ h => hFc _ h)
             obtain ⟨i1_407, i2_408, i3_409, i4_410, i5_411, i6_412, i7_413, i8_414, i9_415, i10_416, i11_417⟩ := id hI_406
             have q1_ := i1_407
             unfold i1 at q1_
             have hSl := S9_le i8_414 i9_415
             have hb0_ := i8_414.2.1 0 (by omega)
             have hb1_ := i8_414.2.1 1 (by omega)
             have hb2_ := i8_414.2.1 2 (by omega)
             refine W_msr2 (fun hn1 hn2 hn3 => ?_)
             obtain ⟨ce2, se2, hk3, hk4, hr1, hr2⟩ : ∃ c2 s2 : Nat, H1.size ≤ s.heap.size + c2 ∧ hpS H1 ≤ hpS s.heap + s2 ∧ s2 + (260 * M + 2 * S9 M gc) ≤ (260 * M + 2 * S9 M gc) ∧ 16 * c2 + (256 * M + S9 M gc) ≤ (256 * M + S9 M gc) := ⟨H1.size - s.heap.size, hpS H1 - hpS s.heap, by omega, by omega, by have := hS.1; omega, by have := hS.1; omega⟩
             refine W_tightP hk3 hk4 ?_
             clear hm1 hm2 hm3 hn1 hn2 hn3 hk3 hk4
             clear hk1 hz1
             generalize ce2 = ce, se2 = se at hr1 hr2 ⊢
             generalize H1 = H at hP hS ⊢
             have hc_419 : ((C9.mk n f T G_402 K F), r_393) = k_end i (C9.mk n f T G K F) := hw
             refine W_msr2 (fun hm1 hm2 hm3 => ?_)
             have hSl := S9_le i8_414 i9_415
             have hb0_ := i8_414.2.1 0 (by omega)
             have hb1_ := i8_414.2.1 1 (by omega)
             have hb2_ := i8_414.2.1 2 (by omega)
             refine W.widen (k := 40000) (n := 1250000) (by omega) (by omega) ?_
             exact W.iret (v := r_393) hx hb hr (fun t ht hW => ⟨⟨r_393, (ad, ga, gc, M, n, f, T, G_402, K, F), rfl, (by show ((C9.mk n f T G_402 K F), r_393) = kh_step i (C9.mk n f T G K F); have hX := (kh_step.eq_1 i (C9.mk n f T G K F)).symm; (repeat (first | dsimp +instances only [c9n, c9f, c9T, c9G, c9K, c9F, b_come, b_leave, b_fill, awB, b_settle, b_wake, b_take, f_take, b_gather, f_gather, b_ask, a_ask, b_tell, c_close, d_close, k_add, k_rem, sco, k_clrF, k_mem, k_rebind, k_bnd, k_beg0, k_beg1, b_giveN, b_giveR, f_open, b_hand, k_op, b_turn, wlB, b_beat, f_anew, b_wipe, b_off, k_sadd, fits, frP, cntB, b_trace, b_child, k_lat, cond_true, cond_false, Option.elim_none, Option.elim_some, Option.getD_none, Option.getD_some, f_hand, kh_op, bh_turn, bh_beat] at hX | rw [← hc_419] at hX | rw [if_pos (by first | with_reducible assumption | omega)] at hX | rw [if_neg (by first | with_reducible assumption | omega)] at hX | rw [jx_of (by omega)] at hX)); first | exact hX | (exfalso; omega) | exact hX), ws_405, by rw [ht]; exact hP, hD, hQ, I9.mono (R := R) ⟨i1_407, i2_408, i3_409, i4_410, i5_411, i6_412, i7_413, i8_414, i9_415, i10_416, i11_417⟩ (by omega), by rw [ht]; show hpS H + (260 * M + 2 * S9 M gc) ≤ hpS s.heap + (260 * M + 2 * S9 M gc); omega, by rw [ht]; show 16 * H.size + (256 * M + S9 M gc) ≤ 16 * s.heap.size + (256 * M + S9 M gc); omega, by show (n 0).toInt ≤ (n 0).toInt; omega, (fun _ _ => rfl), by show M ≤ M; omega⟩, hS.F ht⟩) hS.2.2 dX9_doStep_41
   · have w_3 : ¬ (0 ≤ (G i 1).toInt ∧ (G i 1).toInt < 8) := w_3
     refine W.eq (g2 := F0 m 8 ls [.null]) rfl ?_
     refine lv_astore_nN (lv' := [(2, .null), (0, .ref (ad 0)), (1, .ref (ad (50 + 16 * i)))]) hx hb dX9_doStep_8 rfl hl (by decide) rfl (fun ls hl => ?_)
     refine lv_aload_n hx hb dX9_doStep_9 rfl (lv_at hl 2 rfl) ?_
     refine va_get (D := (dC, dI)) (ci := 7) (v := .int (G i 6)) (C := RX7) (T := TX7) (N := 15) hx hb hg gb_7 hown hK hP (50 + 16 * i) (hQ.b0 hi) rfl 6 (by decide) (hg _ gm_fieldLink_RX9_174_ErrandGuild_Run_place_I_) (fun _ h9 => h9) rfl dX9_doStep_10 ?_
     refine lv_istore_n (lv' := [(3, .int (G i 6)), (2, .null), (0, .ref (ad 0)), (1, .ref (ad (50 + 16 * i)))]) hx hb dX9_doStep_13 rfl hl (by decide) rfl (fun ls hl => ?_)
     refine lv_aload_nN hx hb dX9_doStep_14 rfl (lv_at hl 1 rfl) ?_
     refine lv_ifnullN (tgt := 36) hx hb dX9_doStep_15 (by decide) ?_
     refine lv_aload_n hx hb dX9_doStep_36 rfl (lv_at hl 2 rfl) ?_
     refine lv_aload_n hx hb dX9_doStep_37 rfl (lv_at hl 3 rfl) ?_
     have hFc := free_all hD hS hA
     refine W_msr2 (fun hm1 hm2 hm3 => ?_)
     exact by
      refine va_calli (va_runV (As := [.ref (ad (50 + 16 * i))]) (rest := []) ⟨hx, hb, hml, hown, hg⟩ (c_X9_end l dC dI kc ws ad ga gc M n f T G K F R i H.size (hpS H) hQ ⟨h_i1, h_i2, h_i3, h_i4, h_i5, h_i6, h_i7, h_i8, h_i9, h_i10, h_i11⟩ (by show i < M; omega)) (cwV 1 hg (gw_V gm_methodLink_RX9_328_yX9_end gm_instanceMethod_yX9_end gm_selects_RX9_yX9_end_yX9_end gm_initialized_RX9 gm_code_yX9_end_cX9_end_2_some_int_) rfl rfl rfl (by decide +kernel) ⟨Nat.le_of_ble_eq_true rfl, Nat.le_of_ble_eq_true rfl⟩) ⟨fun a U g mk q => by obtain ⟨q0, q1, q2, qP, qK, qD, qN⟩ := q; exact ⟨q0, q1, q2, qP, va_K.moved (u := U) (U := U.calling g mk a) (Vm.Alike.refl U.vm) qK, qD, nx_same (u := U) (U := U.calling g mk a) rfl qN⟩, va_recv hK hP (ci := 9) (q0 := 0) rfl hQ.x0, fun U hU hW => ⟨rfl, by rw [hU], by rw [hU], by rw [hU]; exact hP, va_K.moved hW.alike hK, hD.weaken (fun _ _ _ _ => trivial), nx_warm hW hN⟩⟩ rfl rfl hl.1 rfl (lv_room (Nat.le_of_ble_eq_true rfl)) dX9_doStep_38 ⟨by show ce + 0 ≤ 40000; omega, by show se + 0 ≤ 1250000; omega⟩) hS (fun q _ h => hFc q h) hFc (fun r_420 u_421 t H1 locs ht hvm hw hB hz1 hk1 hS => ?_)
      obtain ⟨ad_422, ga_423, gc_424, M_425, n_426, f_427, T_428, G_429, K_430, F_431⟩ := u_421
      have hB : ∃ w : va_W, va_P (dC, dI) vwCl w t.heap ∧ va_D (va_A ws H.size) w ∧ Pic9 kc w ad ga gc M n f T G_429 K F ∧ I9 M n f T gc G_429 K F R ∧ hpS t.heap + (260 * M + 2 * S9 M gc) ≤ hpS H + (260 * M + 2 * S9 M gc) ∧ 16 * t.heap.size + (256 * M + S9 M gc) ≤ 16 * H.size + (256 * M + S9 M gc) := hB
      rw [ht] at hB
      obtain ⟨ws_432, hP, hD, hQ, hI_433, hy1, hy2⟩ := hB
      have hD := hD.weaken (fun k q _ h => hFc _ h)
      obtain ⟨i1_434, i2_435, i3_436, i4_437, i5_438, i6_439, i7_440, i8_441, i9_442, i10_443, i11_444⟩ := id hI_433
      have q1_ := i1_434
      unfold i1 at q1_
      have hSl := S9_le i8_441 i9_442
      have hb0_ := i8_441.2.1 0 (by omega)
      have hb1_ := i8_441.2.1 1 (by omega)
      have hb2_ := i8_441.2.1 2 (by omega)
      refine W_msr2 (fun hn1 hn2 hn3 => ?_)
      obtain ⟨ce2, se2, hk3, hk4, hr1, hr2⟩ : ∃ c2 s2 : Nat, H1.size ≤ s.heap.size + c2 ∧ hpS H1 ≤ hpS s.heap + s2 ∧ s2 + (260 * M + 2 * S9 M gc) ≤ (260 * M + 2 * S9 M gc) ∧ 16 * c2 + (256 * M + S9 M gc) ≤ (256 * M + S9 M gc) := ⟨H1.size - s.heap.size, hpS H1 - hpS s.heap, by omega, by omega, by have := hS.1; omega, by have := hS.1; omega⟩
      refine W_tightP hk3 hk4 ?_
      clear hm1 hm2 hm3 hn1 hn2 hn3 hk3 hk4
      clear hk1 hz1
      generalize ce2 = ce, se2 = se at hr1 hr2 ⊢
      generalize H1 = H at hP hS ⊢
      have hc_446 : ((C9.mk n f T G_429 K F), r_420) = k_end i (C9.mk n f T G K F) := hw
      refine W_msr2 (fun hm1 hm2 hm3 => ?_)
      have hSl := S9_le i8_441 i9_442
      have hb0_ := i8_441.2.1 0 (by omega)
      have hb1_ := i8_441.2.1 1 (by omega)
      have hb2_ := i8_441.2.1 2 (by omega)
      refine W.widen (k := 40000) (n := 1250000) (by omega) (by omega) ?_
      exact W.iret (v := r_420) hx hb hr (fun t ht hW => ⟨⟨r_420, (ad, ga, gc, M, n, f, T, G_429, K, F), rfl, (by show ((C9.mk n f T G_429 K F), r_420) = kh_step i (C9.mk n f T G K F); have hX := (kh_step.eq_1 i (C9.mk n f T G K F)).symm; (repeat (first | dsimp +instances only [c9n, c9f, c9T, c9G, c9K, c9F, b_come, b_leave, b_fill, awB, b_settle, b_wake, b_take, f_take, b_gather, f_gather, b_ask, a_ask, b_tell, c_close, d_close, k_add, k_rem, sco, k_clrF, k_mem, k_rebind, k_bnd, k_beg0, k_beg1, b_giveN, b_giveR, f_open, b_hand, k_op, b_turn, wlB, b_beat, f_anew, b_wipe, b_off, k_sadd, fits, frP, cntB, b_trace, b_child, k_lat, cond_true, cond_false, Option.elim_none, Option.elim_some, Option.getD_none, Option.getD_some, f_hand, kh_op, bh_turn, bh_beat] at hX | rw [← hc_446] at hX | rw [if_pos (by first | with_reducible assumption | omega)] at hX | rw [if_neg (by first | with_reducible assumption | omega)] at hX | rw [jx_of (by omega)] at hX)); first | exact hX | (exfalso; omega) | exact hX), ws_432, by rw [ht]; exact hP, hD, hQ, I9.mono (R := R) ⟨i1_434, i2_435, i3_436, i4_437, i5_438, i6_439, i7_440, i8_441, i9_442, i10_443, i11_444⟩ (by omega), by rw [ht]; show hpS H + (260 * M + 2 * S9 M gc) ≤ hpS s.heap + (260 * M + 2 * S9 M gc); omega, by rw [ht]; show 16 * H.size + (256 * M + S9 M gc) ≤ 16 * s.heap.size + (256 * M + S9 M gc); omega, by show (n 0).toInt ≤ (n 0).toInt; omega, (fun _ _ => rfl), by show M ≤ M; omega⟩, hS.F ht⟩) hS.2.2 dX9_doStep_41
