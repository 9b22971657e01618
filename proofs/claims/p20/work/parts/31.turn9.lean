set_option maxHeartbeats 8000000 in
set_option maxRecDepth 100000 in
theorem c_X9_closeTurn (l : Launch) (dC : Nat → ClassId) (dI : Nat → Nat → Nat) (kc : Nat → ClassId) (ws : va_W) (ad : Nat → Nat) (ga : Nat → Nat) (gc : Nat → Nat) (M : Nat) (n : Nat → Int32) (f : Nat → Nat → Int32) (T : Nat → Option Nat) (G : Nat → Nat → Int32) (K : Nat → Nat → Option Nat) (F : Nat → Nat → Nat → Int32) (R : Nat) (i : Nat) (v2 : Int32) (sz hz : Nat) (hQ : Pic9 kc ws ad ga gc M n f T G K F) (hI : I9 M n f T gc G K F R) (hi : i < M) (hin : (i : Int) < (n 0).toInt) (hR : R ≤ 310000) : Met l yX9_closeTurn (.code yX9_closeTurn cX9_closeTurn 3 none :: gw) ({ frames := 5, cells := 2400, slots := 84000, locals := 176 }) (va_Pc [.ref (ad 0), .ref (ad (50 + 16 * i)), .int v2] (fun U => U.heap.size = sz ∧ hpS U.heap = hz ∧ va_P (dC, dI) vwCl ws U.heap ∧ va_K (dC, dI) vwCl (t9 kc) U ∧ va_D (fun _ => True) ws ∧ nx U)) (va_Qv (fun (u : (Nat → Nat) × (Nat → Nat) × (Nat → Nat) × Nat × (Nat → Int32) × (Nat → Nat → Int32) × (Nat → Option Nat) × (Nat → Nat → Int32) × (Nat → Nat → Option Nat) × (Nat → Nat → Nat → Int32)) => (C9.mk u.2.2.2.2.1 u.2.2.2.2.2.1 u.2.2.2.2.2.2.1 u.2.2.2.2.2.2.2.1 K u.2.2.2.2.2.2.2.2.2) = k_close i v2 (C9.mk n f T G K F) ∧ S9 M u.2.2.1 + gc 1 ≤ S9 M gc + u.2.2.1 1 ∧ (u.2.2.2.2.1 0).toInt = (n 0).toInt ∧ (∀ t : Nat, u.2.2.2.2.2.2.1 t = T t ∨ u.2.2.2.2.2.2.1 t = none)) (fun u t => ∃ w : va_W, va_P (dC, dI) vwCl w t.heap ∧ va_D (va_A ws sz) w ∧ Pic9 kc w ad u.2.1 u.2.2.1 M u.2.2.2.2.1 u.2.2.2.2.2.1 u.2.2.2.2.2.2.1 u.2.2.2.2.2.2.2.1 K u.2.2.2.2.2.2.2.2.2 ∧ I9 M u.2.2.2.2.1 u.2.2.2.2.2.1 u.2.2.2.2.2.2.1 u.2.2.1 u.2.2.2.2.2.2.2.1 K u.2.2.2.2.2.2.2.2.2 R ∧ hpS t.heap + (260 * M + 2 * S9 M gc) ≤ hz + (260 * M + 2 * S9 M u.2.2.1) ∧ 16 * t.heap.size + (256 * M + S9 M gc) ≤ 16 * sz + (256 * M + S9 M u.2.2.1) ∧ (n 0).toInt ≤ (u.2.2.2.2.1 0).toInt) (va_A ws sz)) 2400 84000 (va_A ws sz) := by
  refine Met.ofW (cc := cX9_closeTurn) (maxL := 3) (ret := none) (by decide) rfl ?_
  intro p e s m args below meth c s₁ B hml hv
  obtain ⟨rfl, hsz, rfl, hP, hK, hD0, hN⟩ := hv
  have hx := B.exec
  have hb := B.bytes
  have hr := B.returns
  have hts := atoms_spec (ws := .code yX9_closeTurn cX9_closeTurn 3 none :: gw) B.pre
  have hg : ∀ w ∈ gw, w.before _ s = true := fun w h => hts w (List.mem_cons_of_mem _ h)
  have hown : s.vm.findClass RX9 = some m.cls := findClass_of_methodNamed B.named
  have hlocks := B.notSynchronized
  subst hsz
  have hD := hD0.self (sz := s.heap.size)
  generalize hAe : va_A ws s.heap.size = A at hD ⊢
  have hA : ∀ q : Nat, s.heap.size ≤ q → A q := fun q h => by rw [← hAe]; exact Or.inr h
  clear hAe
  have hS : va_S A s.heap s.heap [] := va_S.rf
  have hl := lv_entry ([.ref (ad 0), .ref (ad (50 + 16 * i)), .int v2]) (n := 3) (Nat.le_of_ble_eq_true rfl)
  rw [lg_entry_eq]
  generalize (lg_sl ([.ref (ad 0), .ref (ad (50 + 16 * i)), .int v2]) ++ List.replicate (3 - (lg_sl ([.ref (ad 0), .ref (ad (50 + 16 * i)), .int v2])).length) Slot.unset).toArray = ls at hl ⊢
  have hl : lv_has ls 3 [(0, .ref (ad 0)), (1, .ref (ad (50 + 16 * i))), (2, .int v2)] := hl
  obtain ⟨h_i1, h_i2, h_i3, h_i4, h_i5, h_i6, h_i7, h_i8, h_i9, h_i10, h_i11⟩ := id hI
  have q1_ := h_i1
  unfold i1 at q1_
  have hSl0 := S9_le h_i8 h_i9
  have hb0_ := h_i8.2.1 0 (by omega)
  have hb1_ := h_i8.2.1 1 (by omega)
  have hb2_ := h_i8.2.1 2 (by omega)
  have hr1 : 0 + (260 * M + 2 * S9 M gc) ≤ (260 * M + 2 * S9 M gc) := by omega
  have hr2 : 16 * 0 + (256 * M + S9 M gc) ≤ (256 * M + S9 M gc) := by omega
  obtain ⟨ce, hce⟩ : ∃ q : Nat, q = 0 := ⟨_, rfl⟩
  obtain ⟨se, hse⟩ : ∃ q : Nat, q = 0 := ⟨_, rfl⟩
  rw [← hse] at hr1
  have hr2 : 16 * ce + (256 * M + S9 M gc) ≤ (256 * M + S9 M gc) := by omega
  refine W.widen (k := ce) (n := se) (Nat.zero_le _) (Nat.zero_le _) ?_
  exact by
   refine lv_iload_n hx hb dX9_closeTurn_0 rfl (lv_at hl 2 rfl) ?_
   refine lv_iconst (v := -1) hx hb dX9_closeTurn_1 (by decide) ?_
   refine lv_icmp_ne (tgt := 18) hx hb dX9_closeTurn_2 (by decide) (fun c_1 => ?_) (fun c_1 => ?_)
   · simp only [i_lt, i_le, i_eq, ti_m1] at c_1
     refine lv_iload_n hx hb dX9_closeTurn_18 rfl (lv_at hl 2 rfl) ?_
     refine lv_bipush (v := -2) hx hb dX9_closeTurn_19 (by decide) ?_
     refine lv_icmp_eq (tgt := 30) hx hb dX9_closeTurn_21 (by decide) (fun c_2 => ?_) (fun c_2 => ?_)
     · simp only [i_lt, i_le, i_eq, ti_m2] at c_2
       refine lv_aload_n hx hb dX9_closeTurn_30 rfl (lv_at hl 1 rfl) ?_
       refine va_get (D := (dC, dI)) (ci := 7) (v := .int (G i 2)) (C := RX7) (T := TX7) (N := 15) hx hb hg gb_7 hown hK hP (50 + 16 * i) (hQ.b0 hi) rfl 2 (by decide) (hg _ gm_fieldLink_RX9_145_ErrandGuild_Run_state_I_) (fun _ h9 => h9) rfl dX9_closeTurn_31 ?_
       refine lv_iconst (v := 1) hx hb dX9_closeTurn_34 (by decide) ?_
       refine lv_icmp_eq (tgt := 43) hx hb dX9_closeTurn_35 (by decide) (fun c_3 => ?_) (fun c_3 => ?_)
       · simp only [i_lt, i_le, i_eq, ti_1] at c_3
         exact by
          refine lv_aload_n hx hb dX9_closeTurn_43 rfl (lv_at hl 1 rfl) ?_
          have hCc : ([(50 + 16 * i)] : List Nat).map (fun i => ws[i]?) = ([(ad (50 + 16 * i), .inr (7, [.int (G i 0), .int (G i 1), .int (G i 2), .int (G i 3), .int (G i 4), .int (G i 5), .int (G i 6), .int (G i 7), .int (G i 8), .int (G i 9), .ref (ad (50 + 16 * i + 1)), .ref (ad (50 + 16 * i + 2)), .ref (ad (50 + 16 * i + 6)), .ref (ad (50 + 16 * i + 13)), .ref (ad (50 + 16 * i + 14))]))] : va_W).map some := mp1 (hQ.b0 hi)
          have hNd : ([(50 + 16 * i)] : List Nat).Nodup := (nd_off (50 + 16 * i) (l := [0]) (by decide))
          have hPc := hP.pick [(50 + 16 * i)] hCc
          have hDc := hD.pick [(50 + 16 * i)] hNd hCc
          have hKc := hK.sub (tys' := []) [] rfl
          have hFc := va_free (wc := [(ad (50 + 16 * i), .inr (7, [.int (G i 0), .int (G i 1), .int (G i 2), .int (G i 3), .int (G i 4), .int (G i 5), .int (G i 6), .int (G i 7), .int (G i 8), .int (G i 9), .ref (ad (50 + 16 * i + 1)), .ref (ad (50 + 16 * i + 2)), .ref (ad (50 + 16 * i + 6)), .ref (ad (50 + 16 * i + 13)), .ref (ad (50 + 16 * i + 14))]))]) hD hS hA [(50 + 16 * i)] hCc
          refine W_msr2 (fun hm1 hm2 hm3 => ?_)
          refine va_calli (va_runV (As := []) (rest := []) ⟨hx, hb, hml, hown, hg⟩ (c_X7_isOver l dC dI (ad (50 + 16 * i)) (ad (50 + 16 * i + 1)) (ad (50 + 16 * i + 2)) (ad (50 + 16 * i + 6)) (ad (50 + 16 * i + 13)) (ad (50 + 16 * i + 14)) (G i 0) (G i 1) (G i 2) (G i 3) (G i 4) (G i 5) (G i 6) (G i 7) (G i 8) (G i 9) s.heap.size ) (cwV 0 hg (gw_V gm_methodLink_RX9_138_yX7_isOver gm_instanceMethod_yX7_isOver gm_selects_RX7_yX7_isOver_yX7_isOver gm_initialized_RX7 gm_code_yX7_isOver_cX7_isOver_1_some_boolean_) rfl rfl rfl (by decide +kernel) ⟨Nat.le_of_ble_eq_true rfl, Nat.le_of_ble_eq_true rfl⟩) ⟨fun a U g mk q => by obtain ⟨q0, q1, qP, qK, qD, qN⟩ := q; exact ⟨q0, q1, qP, va_K.moved (u := U) (U := U.calling g mk a) (Vm.Alike.refl U.vm) qK, qD, nx_same (u := U) (U := U.calling g mk a) rfl qN⟩, va_recv hK hP (ci := 7) (q0 := (50 + 16 * i)) rfl (hQ.b0 hi), fun U hU hW => ⟨rfl, by rw [hU], by rw [hU]; exact hPc, va_K.moved hW.alike hKc, hDc.weaken (fun _ _ _ _ => trivial), nx_warm hW hN⟩⟩ rfl rfl hl.1 rfl (lv_room (Nat.le_of_ble_eq_true rfl)) dX9_closeTurn_44 ⟨by show ce + 0 ≤ 2400; omega, by show se + 0 ≤ 84000; omega⟩) hS (fun q _ h => hFc q h) hFc (fun r_4 u_5 t H1 locs ht hvm hw hB hz1 hk1 hS => ?_)
          obtain ⟨hP1, hD1⟩ := hB
          rw [ht] at hP1
          obtain ⟨hP, hD⟩ := va_replS hP hD [(50 + 16 * i)] hCc hNd hk1 hFc hP1 hD1
          refine W.widen (k := ce) (n := se) (Nat.le_refl _) (Nat.le_refl _) ?_
          generalize H1 = H at hP hS ⊢
          rcases hw with ⟨rfl, w_6⟩ | ⟨rfl, w_6⟩
          · refine lv_if_eq (tgt := 55) hx hb dX9_closeTurn_47 (by decide) (fun c_7 => absurd c_7 (by decide)) (fun _ => ?_)
            exact by
             refine lv_aload_n hx hb dX9_closeTurn_50 rfl (lv_at hl 0 rfl) ?_
             refine lv_aload_n hx hb dX9_closeTurn_51 rfl (lv_at hl 1 rfl) ?_
             have hFc := free_all hD hS hA
             refine W_msr2 (fun hm1 hm2 hm3 => ?_)
             refine va_callv (va_runV (As := [.ref (ad (50 + 16 * i))]) (rest := []) ⟨hx, hb, hml, hown, hg⟩ (c_X9_tellUncaught l dC dI kc ws ad ga gc M n f T G K F R i H.size (hpS H) hQ ⟨h_i1, h_i2, h_i3, h_i4, h_i5, h_i6, h_i7, h_i8, h_i9, h_i10, h_i11⟩ (by show i < M; omega) (by show R ≤ 310000; omega)) (cwV 1 hg (gw_V gm_methodLink_RX9_319_yX9_tellUncaught gm_instanceMethod_yX9_tellUncaught gm_selects_RX9_yX9_tellUncaught_yX9_tellUncaught gm_initialized_RX9 gm_code_yX9_tellUncaught_cX9_tellUncaught_5_none) rfl rfl rfl (by decide +kernel) ⟨Nat.le_of_ble_eq_true rfl, Nat.le_of_ble_eq_true rfl⟩) ⟨fun a U g mk q => by obtain ⟨q0, q1, q2, qP, qK, qD, qN⟩ := q; exact ⟨q0, q1, q2, qP, va_K.moved (u := U) (U := U.calling g mk a) (Vm.Alike.refl U.vm) qK, qD, nx_same (u := U) (U := U.calling g mk a) rfl qN⟩, va_recv hK hP (ci := 9) (q0 := 0) rfl hQ.x0, fun U hU hW => ⟨rfl, by rw [hU], by rw [hU], by rw [hU]; exact hP, va_K.moved hW.alike hK, hD.weaken (fun _ _ _ _ => trivial), nx_warm hW hN⟩⟩ rfl rfl hl.1 rfl (lv_room (Nat.le_of_ble_eq_true rfl)) dX9_closeTurn_52 ⟨by show ce + 1800 ≤ 2400; omega, by show se + 67000 ≤ 84000; omega⟩) hS (fun q _ h => hFc q h) hFc (fun u_9 t H1 locs ht hvm hw hB hz1 hk1 hS => ?_)
             obtain ⟨ad_10, ga_11, gc_12, M_13, n_14, f_15, T_16, G_17, K_18, F_19⟩ := u_9
             have hB : ∃ w : va_W, va_P (dC, dI) vwCl w t.heap ∧ va_D (va_A ws H.size) w ∧ Pic9 kc w ad ga_11 gc_12 M n_14 f_15 T G_17 K F ∧ I9 M n_14 f_15 T gc_12 G_17 K F R ∧ hpS t.heap + (260 * M + 2 * S9 M gc) ≤ hpS H + (260 * M + 2 * S9 M gc_12) ∧ 16 * t.heap.size + (256 * M + S9 M gc) ≤ 16 * H.size + (256 * M + S9 M gc_12) ∧ (n 0).toInt ≤ (n_14 0).toInt := hB
             rw [ht] at hB
             obtain ⟨ws_20, hP, hD, hQ, hI_22, hy1, hy2, hn_21⟩ := hB
             have hD := hD.weaken (fun k q _ h => hFc _ h)
             obtain ⟨i1_23, i2_24, i3_25, i4_26, i5_27, i6_28, i7_29, i8_30, i9_31, i10_32, i11_33⟩ := id hI_22
             have q1_ := i1_23
             unfold i1 at q1_
             have hSl := S9_le i8_30 i9_31
             have hb0_ := i8_30.2.1 0 (by omega)
             have hb1_ := i8_30.2.1 1 (by omega)
             have hb2_ := i8_30.2.1 2 (by omega)
             refine W_msr2 (fun hn1 hn2 hn3 => ?_)
             obtain ⟨ce2, se2, hk3, hk4, hr1, hr2⟩ : ∃ c2 s2 : Nat, H1.size ≤ s.heap.size + c2 ∧ hpS H1 ≤ hpS s.heap + s2 ∧ s2 + (260 * M + 2 * S9 M gc) ≤ (260 * M + 2 * S9 M gc_12) ∧ 16 * c2 + (256 * M + S9 M gc) ≤ (256 * M + S9 M gc_12) := ⟨H1.size - s.heap.size, hpS H1 - hpS s.heap, by omega, by omega, by have := hS.1; omega, by have := hS.1; omega⟩
             refine W_tightP hk3 hk4 ?_
             clear hm1 hm2 hm3 hn1 hn2 hn3 hk3 hk4
             clear hk1 hz1
             generalize ce2 = ce, se2 = se at hr1 hr2 ⊢
             generalize H1 = H at hP hS ⊢
             have hc_35 : (C9.mk n_14 f_15 T G_17 K F) = k_tell i (C9.mk n f T G K F) := hw.1
             have w_34 : S9 M gc_12 + gc 1 ≤ S9 M gc + gc_12 1 ∧ (n_14 0).toInt = (n 0).toInt := hw.2
             refine W_msr2 (fun hm1 hm2 hm3 => ?_)
             have hSl := S9_le i8_30 i9_31
             have hb0_ := i8_30.2.1 0 (by omega)
             have hb1_ := i8_30.2.1 1 (by omega)
             have hb2_ := i8_30.2.1 2 (by omega)
             refine W.widen (k := 2400) (n := 84000) (by omega) (by omega) ?_
             exact W.vret hx hb hr (fun t ht hW => ⟨⟨(ad, ga_11, gc_12, M, n_14, f_15, T, G_17, K, F), rfl, ⟨(by show (C9.mk n_14 f_15 T G_17 K F) = k_close i v2 (C9.mk n f T G K F); have hX := (k_close.eq_1 i v2 (C9.mk n f T G K F)).symm; (repeat (first | dsimp +instances only [c9n, c9f, c9T, c9G, c9K, c9F, b_come, b_leave, b_fill, awB, b_settle, b_wake, b_take, f_take, b_gather, f_gather, b_ask, a_ask, b_tell, c_close, d_close, k_add, k_rem, sco, k_clrF, k_mem, k_rebind, k_bnd, k_beg0, k_beg1, b_giveN, b_giveR, f_open, b_hand, k_op, b_turn, wlB, b_beat, f_anew, b_wipe, b_off, k_sadd, fits, frP, cntB, b_trace, b_child, k_lat, cond_true, cond_false, Option.elim_none, Option.elim_some, Option.getD_none, Option.getD_some] at hX | rw [← hc_35] at hX | rw [if_pos (by first | with_reducible assumption | omega)] at hX | rw [if_neg (by first | with_reducible assumption | omega)] at hX | rw [jx_of (by omega)] at hX)); first | exact hX | (exfalso; omega) | exact hX), ⟨by show S9 M gc_12 + gc 1 ≤ S9 M gc + gc_12 1; omega, by show (n_14 0).toInt = (n 0).toInt; omega, (fun _ => Or.inl rfl)⟩⟩, ws_20, by rw [ht]; exact hP, hD, hQ, ⟨i1_23, i2_24, i3_25, i4_26, i5_27, i6_28, i7_29, i8_30, i9_31, i10_32, i11_33⟩, by rw [ht]; show hpS H + (260 * M + 2 * S9 M gc) ≤ hpS s.heap + (260 * M + 2 * S9 M gc_12); omega, by rw [ht]; show 16 * H.size + (256 * M + S9 M gc) ≤ 16 * s.heap.size + (256 * M + S9 M gc_12); omega, by show (n 0).toInt ≤ (n_14 0).toInt; omega⟩, hS.F ht⟩) hS.2.2 dX9_closeTurn_55
          · refine lv_if_eq (tgt := 55) hx hb dX9_closeTurn_47 (by decide) (fun _ => ?_) (fun c_36 => absurd c_36 (by decide))
            refine W_msr2 (fun hm1 hm2 hm3 => ?_)
            have hSl := S9_le h_i8 h_i9
            have hb0_ := h_i8.2.1 0 (by omega)
            have hb1_ := h_i8.2.1 1 (by omega)
            have hb2_ := h_i8.2.1 2 (by omega)
            refine W.widen (k := 2400) (n := 84000) (by omega) (by omega) ?_
            exact W.vret hx hb hr (fun t ht hW => ⟨⟨(ad, ga, gc, M, n, f, T, G, K, F), rfl, ⟨(by show (C9.mk n f T G K F) = k_close i v2 (C9.mk n f T G K F); have hX := (k_close.eq_1 i v2 (C9.mk n f T G K F)).symm; (repeat (first | dsimp +instances only [c9n, c9f, c9T, c9G, c9K, c9F, b_come, b_leave, b_fill, awB, b_settle, b_wake, b_take, f_take, b_gather, f_gather, b_ask, a_ask, b_tell, c_close, d_close, k_add, k_rem, sco, k_clrF, k_mem, k_rebind, k_bnd, k_beg0, k_beg1, b_giveN, b_giveR, f_open, b_hand, k_op, b_turn, wlB, b_beat, f_anew, b_wipe, b_off, k_sadd, fits, frP, cntB, b_trace, b_child, k_lat, cond_true, cond_false, Option.elim_none, Option.elim_some, Option.getD_none, Option.getD_some] at hX | rw [if_pos (by first | with_reducible assumption | omega)] at hX | rw [if_neg (by first | with_reducible assumption | omega)] at hX | rw [jx_of (by omega)] at hX)); first | exact hX | (exfalso; omega) | exact hX), ⟨by show S9 M gc + gc 1 ≤ S9 M gc + gc 1; omega, by show (n 0).toInt = (n 0).toInt; omega, (fun _ => Or.inl rfl)⟩⟩, ws, by rw [ht]; exact hP, hD, hQ, ⟨h_i1, h_i2, h_i3, h_i4, h_i5, h_i6, h_i7, h_i8, h_i9, h_i10, h_i11⟩, by rw [ht]; show hpS H + (260 * M + 2 * S9 M gc) ≤ hpS s.heap + (260 * M + 2 * S9 M gc); omega, by rw [ht]; show 16 * H.size + (256 * M + S9 M gc) ≤ 16 * s.heap.size + (256 * M + S9 M gc); omega, by show (n 0).toInt ≤ (n 0).toInt; omega⟩, hS.F ht⟩) hS.2.2 dX9_closeTurn_55
       · simp only [i_lt, i_le, i_eq, ti_1] at c_3
         refine lv_aload_n hx hb dX9_closeTurn_38 rfl (lv_at hl 0 rfl) ?_
         refine lv_aload_n hx hb dX9_closeTurn_39 rfl (lv_at hl 1 rfl) ?_
         have hFc := free_all hD hS hA
         refine W_msr2 (fun hm1 hm2 hm3 => ?_)
         refine va_callv (va_runV (As := [.ref (ad (50 + 16 * i))]) (rest := []) ⟨hx, hb, hml, hown, hg⟩ (c_X9_leaveThread l dC dI kc ws ad ga gc M n f T G K F R i s.heap.size (hpS s.heap) hQ ⟨h_i1, h_i2, h_i3, h_i4, h_i5, h_i6, h_i7, h_i8, h_i9, h_i10, h_i11⟩ (by show i < M; omega) (by show (i : Int) < (n 0).toInt; omega) (by show (G i 2).toInt ≠ 1; omega)) (cwV 1 hg (gw_V gm_methodLink_RX9_316_yX9_leaveThread gm_instanceMethod_yX9_leaveThread gm_selects_RX9_yX9_leaveThread_yX9_leaveThread gm_initialized_RX9 gm_code_yX9_leaveThread_cX9_leaveThread_3_none) rfl rfl rfl (by decide +kernel) ⟨Nat.le_of_ble_eq_true rfl, Nat.le_of_ble_eq_true rfl⟩) ⟨fun a U g mk q => by obtain ⟨q0, q1, q2, qP, qK, qD, qN⟩ := q; exact ⟨q0, q1, q2, qP, va_K.moved (u := U) (U := U.calling g mk a) (Vm.Alike.refl U.vm) qK, qD, nx_same (u := U) (U := U.calling g mk a) rfl qN⟩, va_recv hK hP (ci := 9) (q0 := 0) rfl hQ.x0, fun U hU hW => ⟨rfl, by rw [hU], by rw [hU], by rw [hU]; exact hP, va_K.moved hW.alike hK, hD.weaken (fun _ _ _ _ => trivial), nx_warm hW hN⟩⟩ rfl rfl hl.1 rfl (lv_room (Nat.le_of_ble_eq_true rfl)) dX9_closeTurn_40 ⟨by show ce + 0 ≤ 2400; omega, by show se + 0 ≤ 84000; omega⟩) hS (fun q _ h => hFc q h) hFc (fun u_38 t H1 locs ht hvm hw hB hz1 hk1 hS => ?_)
         obtain ⟨ad_39, ga_40, gc_41, M_42, n_43, f_44, T_45, G_46, K_47, F_48⟩ := u_38
         have hB : ∃ w : va_W, va_P (dC, dI) vwCl w t.heap ∧ va_D (va_A ws s.heap.size) w ∧ Pic9 kc w ad ga gc M n f T_45 G_46 K F_48 ∧ I9 M n f T_45 gc G_46 K F_48 R ∧ hpS t.heap + (260 * M + 2 * S9 M gc) ≤ hpS s.heap + (260 * M + 2 * S9 M gc) ∧ 16 * t.heap.size + (256 * M + S9 M gc) ≤ 16 * s.heap.size + (256 * M + S9 M gc) := hB
         rw [ht] at hB
         obtain ⟨ws_49, hP, hD, hQ, hI_50, hy1, hy2⟩ := hB
         have hD := hD.weaken (fun k q _ h => hFc _ h)
         obtain ⟨i1_51, i2_52, i3_53, i4_54, i5_55, i6_56, i7_57, i8_58, i9_59, i10_60, i11_61⟩ := id hI_50
         have q1_ := i1_51
         unfold i1 at q1_
         have hSl := S9_le i8_58 i9_59
         have hb0_ := i8_58.2.1 0 (by omega)
         have hb1_ := i8_58.2.1 1 (by omega)
         have hb2_ := i8_58.2.1 2 (by omega)
         refine W_msr2 (fun hn1 hn2 hn3 => ?_)
         obtain ⟨ce2, se2, hk3, hk4, hr1, hr2⟩ : ∃ c2 s2 : Nat, H1.size ≤ s.heap.size + c2 ∧ hpS H1 ≤ hpS s.heap + s2 ∧ s2 + (260 * M + 2 * S9 M gc) ≤ (260 * M + 2 * S9 M gc) ∧ 16 * c2 + (256 * M + S9 M gc) ≤ (256 * M + S9 M gc) := ⟨H1.size - s.heap.size, hpS H1 - hpS s.heap, by omega, by omega, by have := hS.1; omega, by have := hS.1; omega⟩
         refine W_tightP hk3 hk4 ?_
         clear hm1 hm2 hm3 hn1 hn2 hn3 hk3 hk4
         clear hk1 hz1
         generalize ce2 = ce, se2 = se at hr1 hr2 ⊢
         generalize H1 = H at hP hS ⊢
         have hc_63 : (C9.mk n f T_45 G_46 K F_48) = k_leave i (C9.mk n f T G K F) := hw.1
         have w_62 : (∀ t : Nat, T_45 t = T t ∨ T_45 t = none) := hw.2
         exact by
          refine lv_aload_n hx hb dX9_closeTurn_43 rfl (lv_at hl 1 rfl) ?_
          have hCc : ([(50 + 16 * i)] : List Nat).map (fun i => ws_49[i]?) = ([(ad (50 + 16 * i), .inr (7, [.int (G_46 i 0), .int (G_46 i 1), .int (G_46 i 2), .int (G_46 i 3), .int (G_46 i 4), .int (G_46 i 5), .int (G_46 i 6), .int (G_46 i 7), .int (G_46 i 8), .int (G_46 i 9), .ref (ad (50 + 16 * i + 1)), .ref (ad (50 + 16 * i + 2)), .ref (ad (50 + 16 * i + 6)), .ref (ad (50 + 16 * i + 13)), .ref (ad (50 + 16 * i + 14))]))] : va_W).map some := mp1 (hQ.b0 hi)
          have hNd : ([(50 + 16 * i)] : List Nat).Nodup := (nd_off (50 + 16 * i) (l := [0]) (by decide))
          have hPc := hP.pick [(50 + 16 * i)] hCc
          have hDc := hD.pick [(50 + 16 * i)] hNd hCc
          have hKc := hK.sub (tys' := []) [] rfl
          have hFc := va_free (wc := [(ad (50 + 16 * i), .inr (7, [.int (G_46 i 0), .int (G_46 i 1), .int (G_46 i 2), .int (G_46 i 3), .int (G_46 i 4), .int (G_46 i 5), .int (G_46 i 6), .int (G_46 i 7), .int (G_46 i 8), .int (G_46 i 9), .ref (ad (50 + 16 * i + 1)), .ref (ad (50 + 16 * i + 2)), .ref (ad (50 + 16 * i + 6)), .ref (ad (50 + 16 * i + 13)), .ref (ad (50 + 16 * i + 14))]))]) hD hS hA [(50 + 16 * i)] hCc
          refine W_msr2 (fun hm1 hm2 hm3 => ?_)
          refine va_calli (va_runV (As := []) (rest := []) ⟨hx, hb, hml, hown, hg⟩ (c_X7_isOver l dC dI (ad (50 + 16 * i)) (ad (50 + 16 * i + 1)) (ad (50 + 16 * i + 2)) (ad (50 + 16 * i + 6)) (ad (50 + 16 * i + 13)) (ad (50 + 16 * i + 14)) (G_46 i 0) (G_46 i 1) (G_46 i 2) (G_46 i 3) (G_46 i 4) (G_46 i 5) (G_46 i 6) (G_46 i 7) (G_46 i 8) (G_46 i 9) H.size ) (cwV 0 hg (gw_V gm_methodLink_RX9_138_yX7_isOver gm_instanceMethod_yX7_isOver gm_selects_RX7_yX7_isOver_yX7_isOver gm_initialized_RX7 gm_code_yX7_isOver_cX7_isOver_1_some_boolean_) rfl rfl rfl (by decide +kernel) ⟨Nat.le_of_ble_eq_true rfl, Nat.le_of_ble_eq_true rfl⟩) ⟨fun a U g mk q => by obtain ⟨q0, q1, qP, qK, qD, qN⟩ := q; exact ⟨q0, q1, qP, va_K.moved (u := U) (U := U.calling g mk a) (Vm.Alike.refl U.vm) qK, qD, nx_same (u := U) (U := U.calling g mk a) rfl qN⟩, va_recv hK hP (ci := 7) (q0 := (50 + 16 * i)) rfl (hQ.b0 hi), fun U hU hW => ⟨rfl, by rw [hU], by rw [hU]; exact hPc, va_K.moved hW.alike hKc, hDc.weaken (fun _ _ _ _ => trivial), nx_warm hW hN⟩⟩ rfl rfl hl.1 rfl (lv_room (Nat.le_of_ble_eq_true rfl)) dX9_closeTurn_44 ⟨by show ce + 0 ≤ 2400; omega, by show se + 0 ≤ 84000; omega⟩) hS (fun q _ h => hFc q h) hFc (fun r_64 u_65 t H1 locs ht hvm hw hB hz1 hk1 hS => ?_)
          obtain ⟨hP1, hD1⟩ := hB
          rw [ht] at hP1
          obtain ⟨hP, hD⟩ := va_replS hP hD [(50 + 16 * i)] hCc hNd hk1 hFc hP1 hD1
          refine W.widen (k := ce) (n := se) (Nat.le_refl _) (Nat.le_refl _) ?_
          generalize H1 = H at hP hS ⊢
          rcases hw with ⟨rfl, w_66⟩ | ⟨rfl, w_66⟩
          · refine lv_if_eq (tgt := 55) hx hb dX9_closeTurn_47 (by decide) (fun c_67 => absurd c_67 (by decide)) (fun _ => ?_)
            exact by
             refine lv_aload_n hx hb dX9_closeTurn_50 rfl (lv_at hl 0 rfl) ?_
             refine lv_aload_n hx hb dX9_closeTurn_51 rfl (lv_at hl 1 rfl) ?_
             have hFc := free_all hD hS hA
             refine W_msr2 (fun hm1 hm2 hm3 => ?_)
             refine va_callv (va_runV (As := [.ref (ad (50 + 16 * i))]) (rest := []) ⟨hx, hb, hml, hown, hg⟩ (c_X9_tellUncaught l dC dI kc ws_49 ad ga gc M n f T_45 G_46 K F_48 R i H.size (hpS H) hQ ⟨i1_51, i2_52, i3_53, i4_54, i5_55, i6_56, i7_57, i8_58, i9_59, i10_60, i11_61⟩ (by show i < M; omega) (by show R ≤ 310000; omega)) (cwV 1 hg (gw_V gm_methodLink_RX9_319_yX9_tellUncaught gm_instanceMethod_yX9_tellUncaught gm_selects_RX9_yX9_tellUncaught_yX9_tellUncaught gm_initialized_RX9 gm_code_yX9_tellUncaught_cX9_tellUncaught_5_none) rfl rfl rfl (by decide +kernel) ⟨Nat.le_of_ble_eq_true rfl, Nat.le_of_ble_eq_true rfl⟩) ⟨fun a U g mk q => by obtain ⟨q0, q1, q2, qP, qK, qD, qN⟩ := q; exact ⟨q0, q1, q2, qP, va_K.moved (u := U) (U := U.calling g mk a) (Vm.Alike.refl U.vm) qK, qD, nx_same (u := U) (U := U.calling g mk a) rfl qN⟩, va_recv hK hP (ci := 9) (q0 := 0) rfl hQ.x0, fun U hU hW => ⟨rfl, by rw [hU], by rw [hU], by rw [hU]; exact hP, va_K.moved hW.alike hK, hD.weaken (fun _ _ _ _ => trivial), nx_warm hW hN⟩⟩ rfl rfl hl.1 rfl (lv_room (Nat.le_of_ble_eq_true rfl)) dX9_closeTurn_52 ⟨by show ce + 1800 ≤ 2400; omega, by show se + 67000 ≤ 84000; omega⟩) hS (fun q _ h => hFc q h) hFc (fun u_69 t H1 locs ht hvm hw hB hz1 hk1 hS => ?_)
             obtain ⟨ad_70, ga_71, gc_72, M_73, n_74, f_75, T_76, G_77, K_78, F_79⟩ := u_69
             have hB : ∃ w : va_W, va_P (dC, dI) vwCl w t.heap ∧ va_D (va_A ws_49 H.size) w ∧ Pic9 kc w ad ga_71 gc_72 M n_74 f_75 T_45 G_77 K F_48 ∧ I9 M n_74 f_75 T_45 gc_72 G_77 K F_48 R ∧ hpS t.heap + (260 * M + 2 * S9 M gc) ≤ hpS H + (260 * M + 2 * S9 M gc_72) ∧ 16 * t.heap.size + (256 * M + S9 M gc) ≤ 16 * H.size + (256 * M + S9 M gc_72) ∧ (n 0).toInt ≤ (n_74 0).toInt := hB
             rw [ht] at hB
             obtain ⟨ws_80, hP, hD, hQ, hI_82, hy1, hy2, hn_81⟩ := hB
             have hD := hD.weaken (fun k q _ h => hFc _ h)
             obtain ⟨i1_83, i2_84, i3_85, i4_86, i5_87, i6_88, i7_89, i8_90, i9_91, i10_92, i11_93⟩ := id hI_82
             have q1_ := i1_83
             unfold i1 at q1_
             have hSl := S9_le i8_90 i9_91
             have hb0_ := i8_90.2.1 0 (by omega)
             have hb1_ := i8_90.2.1 1 (by omega)
             have hb2_ := i8_90.2.1 2 (by omega)
             refine W_msr2 (fun hn1 hn2 hn3 => ?_)
             obtain ⟨ce2, se2, hk3, hk4, hr1, hr2⟩ : ∃ c2 s2 : Nat, H1.size ≤ s.heap.size + c2 ∧ hpS H1 ≤ hpS s.heap + s2 ∧ s2 + (260 * M + 2 * S9 M gc) ≤ (260 * M + 2 * S9 M gc_72) ∧ 16 * c2 + (256 * M + S9 M gc) ≤ (256 * M + S9 M gc_72) := ⟨H1.size - s.heap.size, hpS H1 - hpS s.heap, by omega, by omega, by have := hS.1; omega, by have := hS.1; omega⟩
             refine W_tightP hk3 hk4 ?_
             clear hm1 hm2 hm3 hn1 hn2 hn3 hk3 hk4
             clear hk1 hz1
             generalize ce2 = ce, se2 = se at hr1 hr2 ⊢
             generalize H1 = H at hP hS ⊢
             have hc_95 : (C9.mk n_74 f_75 T_45 G_77 K F_48) = k_tell i (C9.mk n f T_45 G_46 K F_48) := hw.1
             have w_94 : S9 M gc_72 + gc 1 ≤ S9 M gc + gc_72 1 ∧ (n_74 0).toInt = (n 0).toInt := hw.2
             refine W_msr2 (fun hm1 hm2 hm3 => ?_)
             have hSl := S9_le i8_90 i9_91
             have hb0_ := i8_90.2.1 0 (by omega)
             have hb1_ := i8_90.2.1 1 (by omega)
             have hb2_ := i8_90.2.1 2 (by omega)
             refine W.widen (k := 2400) (n := 84000) (by omega) (by omega) ?_
             exact W.vret hx hb hr (fun t ht hW => ⟨⟨(ad, ga_71, gc_72, M, n_74, f_75, T_45, G_77, K, F_48), rfl, ⟨(by show (C9.mk n_74 f_75 T_45 G_77 K F_48) = k_close i v2 (C9.mk n f T G K F); have hX := (k_close.eq_1 i v2 (C9.mk n f T G K F)).symm; (repeat (first | dsimp +instances only [c9n, c9f, c9T, c9G, c9K, c9F, b_come, b_leave, b_fill, awB, b_settle, b_wake, b_take, f_take, b_gather, f_gather, b_ask, a_ask, b_tell, c_close, d_close, k_add, k_rem, sco, k_clrF, k_mem, k_rebind, k_bnd, k_beg0, k_beg1, b_giveN, b_giveR, f_open, b_hand, k_op, b_turn, wlB, b_beat, f_anew, b_wipe, b_off, k_sadd, fits, frP, cntB, b_trace, b_child, k_lat, cond_true, cond_false, Option.elim_none, Option.elim_some, Option.getD_none, Option.getD_some] at hX | rw [← hc_63] at hX | rw [← hc_95] at hX | rw [if_pos (by first | with_reducible assumption | omega)] at hX | rw [if_neg (by first | with_reducible assumption | omega)] at hX | rw [jx_of (by omega)] at hX)); first | exact hX | (exfalso; omega) | exact hX), ⟨by show S9 M gc_72 + gc 1 ≤ S9 M gc + gc_72 1; omega, by show (n_74 0).toInt = (n 0).toInt; omega, w_62⟩⟩, ws_80, by rw [ht]; exact hP, hD, hQ, ⟨i1_83, i2_84, i3_85, i4_86, i5_87, i6_88, i7_89, i8_90, i9_91, i10_92, i11_93⟩, by rw [ht]; show hpS H + (260 * M + 2 * S9 M gc) ≤ hpS s.heap + (260 * M + 2 * S9 M gc_72); omega, by rw [ht]; show 16 * H.size + (256 * M + S9 M gc) ≤ 16 * s.heap.size + (256 * M + S9 M gc_72); omega, by show (n 0).toInt ≤ (n_74 0).toInt; omega⟩, hS.F ht⟩) hS.2.2 dX9_closeTurn_55
          · refine lv_if_eq (tgt := 55) hx hb dX9_closeTurn_47 (by decide) (fun _ => ?_) (fun c_96 => absurd c_96 (by decide))
            refine W_msr2 (fun hm1 hm2 hm3 => ?_)
            have hSl := S9_le i8_58 i9_59
            have hb0_ := i8_58.2.1 0 (by omega)
            have hb1_ := i8_58.2.1 1 (by omega)
            have hb2_ := i8_58.2.1 2 (by omega)
            refine W.widen (k := 2400) (n := 84000) (by omega) (by omega) ?_
            exact W.vret hx hb hr (fun t ht hW => ⟨⟨(ad, ga, gc, M, n, f, T_45, G_46, K, F_48), rfl, ⟨(by show (C9.mk n f T_45 G_46 K F_48) = k_close i v2 (C9.mk n f T G K F); have hX := (k_close.eq_1 i v2 (C9.mk n f T G K F)).symm; (repeat (first | dsimp +instances only [c9n, c9f, c9T, c9G, c9K, c9F, b_come, b_leave, b_fill, awB, b_settle, b_wake, b_take, f_take, b_gather, f_gather, b_ask, a_ask, b_tell, c_close, d_close, k_add, k_rem, sco, k_clrF, k_mem, k_rebind, k_bnd, k_beg0, k_beg1, b_giveN, b_giveR, f_open, b_hand, k_op, b_turn, wlB, b_beat, f_anew, b_wipe, b_off, k_sadd, fits, frP, cntB, b_trace, b_child, k_lat, cond_true, cond_false, Option.elim_none, Option.elim_some, Option.getD_none, Option.getD_some] at hX | rw [← hc_63] at hX | rw [if_pos (by first | with_reducible assumption | omega)] at hX | rw [if_neg (by first | with_reducible assumption | omega)] at hX | rw [jx_of (by omega)] at hX)); first | exact hX | (exfalso; omega) | exact hX), ⟨by show S9 M gc + gc 1 ≤ S9 M gc + gc 1; omega, by show (n 0).toInt = (n 0).toInt; omega, w_62⟩⟩, ws_49, by rw [ht]; exact hP, hD, hQ, ⟨i1_51, i2_52, i3_53, i4_54, i5_55, i6_56, i7_57, i8_58, i9_59, i10_60, i11_61⟩, by rw [ht]; show hpS H + (260 * M + 2 * S9 M gc) ≤ hpS s.heap + (260 * M + 2 * S9 M gc); omega, by rw [ht]; show 16 * H.size + (256 * M + S9 M gc) ≤ 16 * s.heap.size + (256 * M + S9 M gc); omega, by show (n 0).toInt ≤ (n 0).toInt; omega⟩, hS.F ht⟩) hS.2.2 dX9_closeTurn_55
     · simp only [i_lt, i_le, i_eq, ti_m2] at c_2
       refine lv_aload_n hx hb dX9_closeTurn_24 rfl (lv_at hl 0 rfl) ?_
       refine lv_aload_n hx hb dX9_closeTurn_25 rfl (lv_at hl 1 rfl) ?_
       refine lv_iload_n hx hb dX9_closeTurn_26 rfl (lv_at hl 2 rfl) ?_
       have hFc := free_all hD hS hA
       refine W_msr2 (fun hm1 hm2 hm3 => ?_)
       refine va_callv (va_runV (As := [.ref (ad (50 + 16 * i)), .int v2]) (rest := []) ⟨hx, hb, hml, hown, hg⟩ (c_X9_failWith l dC dI kc ws ad ga gc M n f T G K F R i v2 s.heap.size (hpS s.heap) hQ ⟨h_i1, h_i2, h_i3, h_i4, h_i5, h_i6, h_i7, h_i8, h_i9, h_i10, h_i11⟩ (by show i < M; omega)) (cwV 2 hg (gw_V gm_methodLink_RX9_313_yX9_failWith gm_instanceMethod_yX9_failWith gm_selects_RX9_yX9_failWith_yX9_failWith gm_initialized_RX9 gm_code_yX9_failWith_cX9_failWith_4_none) rfl rfl rfl (by decide +kernel) ⟨Nat.le_of_ble_eq_true rfl, Nat.le_of_ble_eq_true rfl⟩) ⟨fun a U g mk q => by obtain ⟨q0, q1, q2, qP, qK, qD, qN⟩ := q; exact ⟨q0, q1, q2, qP, va_K.moved (u := U) (U := U.calling g mk a) (Vm.Alike.refl U.vm) qK, qD, nx_same (u := U) (U := U.calling g mk a) rfl qN⟩, va_recv hK hP (ci := 9) (q0 := 0) rfl hQ.x0, fun U hU hW => ⟨rfl, by rw [hU], by rw [hU], by rw [hU]; exact hP, va_K.moved hW.alike hK, hD.weaken (fun _ _ _ _ => trivial), nx_warm hW hN⟩⟩ rfl rfl hl.1 rfl (lv_room (Nat.le_of_ble_eq_true rfl)) dX9_closeTurn_27 ⟨by show ce + 0 ≤ 2400; omega, by show se + 0 ≤ 84000; omega⟩) hS (fun q _ h => hFc q h) hFc (fun u_98 t H1 locs ht hvm hw hB hz1 hk1 hS => ?_)
       obtain ⟨ad_99, ga_100, gc_101, M_102, n_103, f_104, T_105, G_106, K_107, F_108⟩ := u_98
       have hB : ∃ w : va_W, va_P (dC, dI) vwCl w t.heap ∧ va_D (va_A ws s.heap.size) w ∧ Pic9 kc w ad ga gc M n f T G_106 K F_108 ∧ I9 M n f T gc G_106 K F_108 R ∧ hpS t.heap + (260 * M + 2 * S9 M gc) ≤ hpS s.heap + (260 * M + 2 * S9 M gc) ∧ 16 * t.heap.size + (256 * M + S9 M gc) ≤ 16 * s.heap.size + (256 * M + S9 M gc) := hB
       rw [ht] at hB
       obtain ⟨ws_109, hP, hD, hQ, hI_110, hy1, hy2⟩ := hB
       have hD := hD.weaken (fun k q _ h => hFc _ h)
       obtain ⟨i1_111, i2_112, i3_113, i4_114, i5_115, i6_116, i7_117, i8_118, i9_119, i10_120, i11_121⟩ := id hI_110
       have q1_ := i1_111
       unfold i1 at q1_
       have hSl := S9_le i8_118 i9_119
       have hb0_ := i8_118.2.1 0 (by omega)
       have hb1_ := i8_118.2.1 1 (by omega)
       have hb2_ := i8_118.2.1 2 (by omega)
       refine W_msr2 (fun hn1 hn2 hn3 => ?_)
       obtain ⟨ce2, se2, hk3, hk4, hr1, hr2⟩ : ∃ c2 s2 : Nat, H1.size ≤ s.heap.size + c2 ∧ hpS H1 ≤ hpS s.heap + s2 ∧ s2 + (260 * M + 2 * S9 M gc) ≤ (260 * M + 2 * S9 M gc) ∧ 16 * c2 + (256 * M + S9 M gc) ≤ (256 * M + S9 M gc) := ⟨H1.size - s.heap.size, hpS H1 - hpS s.heap, by omega, by omega, by have := hS.1; omega, by have := hS.1; omega⟩
       refine W_tightP hk3 hk4 ?_
       clear hm1 hm2 hm3 hn1 hn2 hn3 hk3 hk4
       clear hk1 hz1
       generalize ce2 = ce, se2 = se at hr1 hr2 ⊢
       generalize H1 = H at hP hS ⊢
       have hc_123 : (C9.mk n f T G_106 K F_108) = k_fail i v2 (C9.mk n f T G K F) := hw
       exact by
        refine lv_aload_n hx hb dX9_closeTurn_30 rfl (lv_at hl 1 rfl) ?_
        refine va_get (D := (dC, dI)) (ci := 7) (v := .int (G_106 i 2)) (C := RX7) (T := TX7) (N := 15) hx hb hg gb_7 hown hK hP (50 + 16 * i) (hQ.b0 hi) rfl 2 (by decide) (hg _ gm_fieldLink_RX9_145_ErrandGuild_Run_state_I_) (fun _ h9 => h9) rfl dX9_closeTurn_31 ?_
        refine lv_iconst (v := 1) hx hb dX9_closeTurn_34 (by decide) ?_
        refine lv_icmp_eq (tgt := 43) hx hb dX9_closeTurn_35 (by decide) (fun c_124 => ?_) (fun c_124 => ?_)
        · simp only [i_lt, i_le, i_eq, ti_1] at c_124
          refine lv_aload_n hx hb dX9_closeTurn_43 rfl (lv_at hl 1 rfl) ?_
          have hCc : ([(50 + 16 * i)] : List Nat).map (fun i => ws_109[i]?) = ([(ad (50 + 16 * i), .inr (7, [.int (G_106 i 0), .int (G_106 i 1), .int (G_106 i 2), .int (G_106 i 3), .int (G_106 i 4), .int (G_106 i 5), .int (G_106 i 6), .int (G_106 i 7), .int (G_106 i 8), .int (G_106 i 9), .ref (ad (50 + 16 * i + 1)), .ref (ad (50 + 16 * i + 2)), .ref (ad (50 + 16 * i + 6)), .ref (ad (50 + 16 * i + 13)), .ref (ad (50 + 16 * i + 14))]))] : va_W).map some := mp1 (hQ.b0 hi)
          have hNd : ([(50 + 16 * i)] : List Nat).Nodup := (nd_off (50 + 16 * i) (l := [0]) (by decide))
          have hPc := hP.pick [(50 + 16 * i)] hCc
          have hDc := hD.pick [(50 + 16 * i)] hNd hCc
          have hKc := hK.sub (tys' := []) [] rfl
          have hFc := va_free (wc := [(ad (50 + 16 * i), .inr (7, [.int (G_106 i 0), .int (G_106 i 1), .int (G_106 i 2), .int (G_106 i 3), .int (G_106 i 4), .int (G_106 i 5), .int (G_106 i 6), .int (G_106 i 7), .int (G_106 i 8), .int (G_106 i 9), .ref (ad (50 + 16 * i + 1)), .ref (ad (50 + 16 * i + 2)), .ref (ad (50 + 16 * i + 6)), .ref (ad (50 + 16 * i + 13)), .ref (ad (50 + 16 * i + 14))]))]) hD hS hA [(50 + 16 * i)] hCc
          refine W_msr2 (fun hm1 hm2 hm3 => ?_)
          exact by
           refine va_calli (va_runV (As := []) (rest := []) ⟨hx, hb, hml, hown, hg⟩ (c_X7_isOver l dC dI (ad (50 + 16 * i)) (ad (50 + 16 * i + 1)) (ad (50 + 16 * i + 2)) (ad (50 + 16 * i + 6)) (ad (50 + 16 * i + 13)) (ad (50 + 16 * i + 14)) (G_106 i 0) (G_106 i 1) (G_106 i 2) (G_106 i 3) (G_106 i 4) (G_106 i 5) (G_106 i 6) (G_106 i 7) (G_106 i 8) (G_106 i 9) H.size ) (cwV 0 hg (gw_V gm_methodLink_RX9_138_yX7_isOver gm_instanceMethod_yX7_isOver gm_selects_RX7_yX7_isOver_yX7_isOver gm_initialized_RX7 gm_code_yX7_isOver_cX7_isOver_1_some_boolean_) rfl rfl rfl (by decide +kernel) ⟨Nat.le_of_ble_eq_true rfl, Nat.le_of_ble_eq_true rfl⟩) ⟨fun a U g mk q => by obtain ⟨q0, q1, qP, qK, qD, qN⟩ := q; exact ⟨q0, q1, qP, va_K.moved (u := U) (U := U.calling g mk a) (Vm.Alike.refl U.vm) qK, qD, nx_same (u := U) (U := U.calling g mk a) rfl qN⟩, va_recv hK hP (ci := 7) (q0 := (50 + 16 * i)) rfl (hQ.b0 hi), fun U hU hW => ⟨rfl, by rw [hU], by rw [hU]; exact hPc, va_K.moved hW.alike hKc, hDc.weaken (fun _ _ _ _ => trivial), nx_warm hW hN⟩⟩ rfl rfl hl.1 rfl (lv_room (Nat.le_of_ble_eq_true rfl)) dX9_closeTurn_44 ⟨by show ce + 0 ≤ 2400; omega, by show se + 0 ≤ 84000; omega⟩) hS (fun q _ h => hFc q h) hFc (fun r_125 u_126 t H1 locs ht hvm hw hB hz1 hk1 hS => ?_)
           obtain ⟨hP1, hD1⟩ := hB
           rw [ht] at hP1
           obtain ⟨hP, hD⟩ := va_replS hP hD [(50 + 16 * i)] hCc hNd hk1 hFc hP1 hD1
           refine W.widen (k := ce) (n := se) (Nat.le_refl _) (Nat.le_refl _) ?_
           generalize H1 = H at hP hS ⊢
           rcases hw with ⟨rfl, w_127⟩ | ⟨rfl, w_127⟩
           · refine lv_if_eq (tgt := 55) hx hb dX9_closeTurn_47 (by decide) (fun c_128 => absurd c_128 (by decide)) (fun _ => ?_)
             refine lv_aload_n hx hb dX9_closeTurn_50 rfl (lv_at hl 0 rfl) ?_
             refine lv_aload_n hx hb dX9_closeTurn_51 rfl (lv_at hl 1 rfl) ?_
             have hFc := free_all hD hS hA
             refine W_msr2 (fun hm1 hm2 hm3 => ?_)
             exact by
              refine va_callv (va_runV (As := [.ref (ad (50 + 16 * i))]) (rest := []) ⟨hx, hb, hml, hown, hg⟩ (c_X9_tellUncaught l dC dI kc ws_109 ad ga gc M n f T G_106 K F_108 R i H.size (hpS H) hQ ⟨i1_111, i2_112, i3_113, i4_114, i5_115, i6_116, i7_117, i8_118, i9_119, i10_120, i11_121⟩ (by show i < M; omega) (by show R ≤ 310000; omega)) (cwV 1 hg (gw_V gm_methodLink_RX9_319_yX9_tellUncaught gm_instanceMethod_yX9_tellUncaught gm_selects_RX9_yX9_tellUncaught_yX9_tellUncaught gm_initialized_RX9 gm_code_yX9_tellUncaught_cX9_tellUncaught_5_none) rfl rfl rfl (by decide +kernel) ⟨Nat.le_of_ble_eq_true rfl, Nat.le_of_ble_eq_true rfl⟩) ⟨fun a U g mk q => by obtain ⟨q0, q1, q2, qP, qK, qD, qN⟩ := q; exact ⟨q0, q1, q2, qP, va_K.moved (u := U) (U := U.calling g mk a) (Vm.Alike.refl U.vm) qK, qD, nx_same (u := U) (U := U.calling g mk a) rfl qN⟩, va_recv hK hP (ci := 9) (q0 := 0) rfl hQ.x0, fun U hU hW => ⟨rfl, by rw [hU], by rw [hU], by rw [hU]; exact hP, va_K.moved hW.alike hK, hD.weaken (fun _ _ _ _ => trivial), nx_warm hW hN⟩⟩ rfl rfl hl.1 rfl (lv_room (Nat.le_of_ble_eq_true rfl)) dX9_closeTurn_52 ⟨by show ce + 1800 ≤ 2400; omega, by show se + 67000 ≤ 84000; omega⟩) hS (fun q _ h => hFc q h) hFc (fun u_130 t H1 locs ht hvm hw hB hz1 hk1 hS => ?_)
              obtain ⟨ad_131, ga_132, gc_133, M_134, n_135, f_136, T_137, G_138, K_139, F_140⟩ := u_130
              have hB : ∃ w : va_W, va_P (dC, dI) vwCl w t.heap ∧ va_D (va_A ws_109 H.size) w ∧ Pic9 kc w ad ga_132 gc_133 M n_135 f_136 T G_138 K F_108 ∧ I9 M n_135 f_136 T gc_133 G_138 K F_108 R ∧ hpS t.heap + (260 * M + 2 * S9 M gc) ≤ hpS H + (260 * M + 2 * S9 M gc_133) ∧ 16 * t.heap.size + (256 * M + S9 M gc) ≤ 16 * H.size + (256 * M + S9 M gc_133) ∧ (n 0).toInt ≤ (n_135 0).toInt := hB
              rw [ht] at hB
              obtain ⟨ws_141, hP, hD, hQ, hI_143, hy1, hy2, hn_142⟩ := hB
              have hD := hD.weaken (fun k q _ h => hFc _ h)
              obtain ⟨i1_144, i2_145, i3_146, i4_147, i5_148, i6_149, i7_150, i8_151, i9_152, i10_153, i11_154⟩ := id hI_143
              have q1_ := i1_144
              unfold i1 at q1_
              have hSl := S9_le i8_151 i9_152
              have hb0_ := i8_151.2.1 0 (by omega)
              have hb1_ := i8_151.2.1 1 (by omega)
              have hb2_ := i8_151.2.1 2 (by omega)
              refine W_msr2 (fun hn1 hn2 hn3 => ?_)
              obtain ⟨ce2, se2, hk3, hk4, hr1, hr2⟩ : ∃ c2 s2 : Nat, H1.size ≤ s.heap.size + c2 ∧ hpS H1 ≤ hpS s.heap + s2 ∧ s2 + (260 * M + 2 * S9 M gc) ≤ (260 * M + 2 * S9 M gc_133) ∧ 16 * c2 + (256 * M + S9 M gc) ≤ (256 * M + S9 M gc_133) := ⟨H1.size - s.heap.size, hpS H1 - hpS s.heap, by omega, by omega, by have := hS.1; omega, by have := hS.1; omega⟩
              refine W_tightP hk3 hk4 ?_
              clear hm1 hm2 hm3 hn1 hn2 hn3 hk3 hk4
              clear hk1 hz1
              generalize ce2 = ce, se2 = se at hr1 hr2 ⊢
              generalize H1 = H at hP hS ⊢
              have hc_156 : (C9.mk n_135 f_136 T G_138 K F_108) = k_tell i (C9.mk n f T G_106 K F_108) := hw.1
              have w_155 : S9 M gc_133 + gc 1 ≤ S9 M gc + gc_133 1 ∧ (n_135 0).toInt = (n 0).toInt := hw.2
              refine W_msr2 (fun hm1 hm2 hm3 => ?_)
              have hSl := S9_le i8_151 i9_152
              have hb0_ := i8_151.2.1 0 (by omega)
              have hb1_ := i8_151.2.1 1 (by omega)
              have hb2_ := i8_151.2.1 2 (by omega)
              refine W.widen (k := 2400) (n := 84000) (by omega) (by omega) ?_
              exact W.vret hx hb hr (fun t ht hW => ⟨⟨(ad, ga_132, gc_133, M, n_135, f_136, T, G_138, K, F_108), rfl, ⟨(by show (C9.mk n_135 f_136 T G_138 K F_108) = k_close i v2 (C9.mk n f T G K F); have hX := (k_close.eq_1 i v2 (C9.mk n f T G K F)).symm; (repeat (first | dsimp +instances only [c9n, c9f, c9T, c9G, c9K, c9F, b_come, b_leave, b_fill, awB, b_settle, b_wake, b_take, f_take, b_gather, f_gather, b_ask, a_ask, b_tell, c_close, d_close, k_add, k_rem, sco, k_clrF, k_mem, k_rebind, k_bnd, k_beg0, k_beg1, b_giveN, b_giveR, f_open, b_hand, k_op, b_turn, wlB, b_beat, f_anew, b_wipe, b_off, k_sadd, fits, frP, cntB, b_trace, b_child, k_lat, cond_true, cond_false, Option.elim_none, Option.elim_some, Option.getD_none, Option.getD_some] at hX | rw [← hc_123] at hX | rw [← hc_156] at hX | rw [if_pos (by first | with_reducible assumption | omega)] at hX | rw [if_neg (by first | with_reducible assumption | omega)] at hX | rw [jx_of (by omega)] at hX)); first | exact hX | (exfalso; omega) | exact hX), ⟨by show S9 M gc_133 + gc 1 ≤ S9 M gc + gc_133 1; omega, by show (n_135 0).toInt = (n 0).toInt; omega, (fun _ => Or.inl rfl)⟩⟩, ws_141, by rw [ht]; exact hP, hD, hQ, ⟨i1_144, i2_145, i3_146, i4_147, i5_148, i6_149, i7_150, i8_151, i9_152, i10_153, i11_154⟩, by rw [ht]; show hpS H + (260 * M + 2 * S9 M gc) ≤ hpS s.heap + (260 * M + 2 * S9 M gc_133); omega, by rw [ht]; show 16 * H.size + (256 * M + S9 M gc) ≤ 16 * s.heap.size + (256 * M + S9 M gc_133); omega, by show (n 0).toInt ≤ (n_135 0).toInt; omega⟩, hS.F ht⟩) hS.2.2 dX9_closeTurn_55
           · refine lv_if_eq (tgt := 55) hx hb dX9_closeTurn_47 (by decide) (fun _ => ?_) (fun c_157 => absurd c_157 (by decide))
             refine W_msr2 (fun hm1 hm2 hm3 => ?_)
             have hSl := S9_le i8_118 i9_119
             have hb0_ := i8_118.2.1 0 (by omega)
             have hb1_ := i8_118.2.1 1 (by omega)
             have hb2_ := i8_118.2.1 2 (by omega)
             refine W.widen (k := 2400) (n := 84000) (by omega) (by omega) ?_
             exact W.vret hx hb hr (fun t ht hW => ⟨⟨(ad, ga, gc, M, n, f, T, G_106, K, F_108), rfl, ⟨(by show (C9.mk n f T G_106 K F_108) = k_close i v2 (C9.mk n f T G K F); have hX := (k_close.eq_1 i v2 (C9.mk n f T G K F)).symm; (repeat (first | dsimp +instances only [c9n, c9f, c9T, c9G, c9K, c9F, b_come, b_leave, b_fill, awB, b_settle, b_wake, b_take, f_take, b_gather, f_gather, b_ask, a_ask, b_tell, c_close, d_close, k_add, k_rem, sco, k_clrF, k_mem, k_rebind, k_bnd, k_beg0, k_beg1, b_giveN, b_giveR, f_open, b_hand, k_op, b_turn, wlB, b_beat, f_anew, b_wipe, b_off, k_sadd, fits, frP, cntB, b_trace, b_child, k_lat, cond_true, cond_false, Option.elim_none, Option.elim_some, Option.getD_none, Option.getD_some] at hX | rw [← hc_123] at hX | rw [if_pos (by first | with_reducible assumption | omega)] at hX | rw [if_neg (by first | with_reducible assumption | omega)] at hX | rw [jx_of (by omega)] at hX)); first | exact hX | (exfalso; omega) | exact hX), ⟨by show S9 M gc + gc 1 ≤ S9 M gc + gc 1; omega, by show (n 0).toInt = (n 0).toInt; omega, (fun _ => Or.inl rfl)⟩⟩, ws_109, by rw [ht]; exact hP, hD, hQ, ⟨i1_111, i2_112, i3_113, i4_114, i5_115, i6_116, i7_117, i8_118, i9_119, i10_120, i11_121⟩, by rw [ht]; show hpS H + (260 * M + 2 * S9 M gc) ≤ hpS s.heap + (260 * M + 2 * S9 M gc); omega, by rw [ht]; show 16 * H.size + (256 * M + S9 M gc) ≤ 16 * s.heap.size + (256 * M + S9 M gc); omega, by show (n 0).toInt ≤ (n 0).toInt; omega⟩, hS.F ht⟩) hS.2.2 dX9_closeTurn_55
        · simp only [i_lt, i_le, i_eq, ti_1] at c_124
          refine lv_aload_n hx hb dX9_closeTurn_38 rfl (lv_at hl 0 rfl) ?_
          refine lv_aload_n hx hb dX9_closeTurn_39 rfl (lv_at hl 1 rfl) ?_
          have hFc := free_all hD hS hA
          refine W_msr2 (fun hm1 hm2 hm3 => ?_)
          refine va_callv (va_runV (As := [.ref (ad (50 + 16 * i))]) (rest := []) ⟨hx, hb, hml, hown, hg⟩ (c_X9_leaveThread l dC dI kc ws_109 ad ga gc M n f T G_106 K F_108 R i H.size (hpS H) hQ ⟨i1_111, i2_112, i3_113, i4_114, i5_115, i6_116, i7_117, i8_118, i9_119, i10_120, i11_121⟩ (by show i < M; omega) (by show (i : Int) < (n 0).toInt; omega) (by show (G_106 i 2).toInt ≠ 1; omega)) (cwV 1 hg (gw_V gm_methodLink_RX9_316_yX9_leaveThread gm_instanceMethod_yX9_leaveThread gm_selects_RX9_yX9_leaveThread_yX9_leaveThread gm_initialized_RX9 gm_code_yX9_leaveThread_cX9_leaveThread_3_none) rfl rfl rfl (by decide +kernel) ⟨Nat.le_of_ble_eq_true rfl, Nat.le_of_ble_eq_true rfl⟩) ⟨fun a U g mk q => by obtain ⟨q0, q1, q2, qP, qK, qD, qN⟩ := q; exact ⟨q0, q1, q2, qP, va_K.moved (u := U) (U := U.calling g mk a) (Vm.Alike.refl U.vm) qK, qD, nx_same (u := U) (U := U.calling g mk a) rfl qN⟩, va_recv hK hP (ci := 9) (q0 := 0) rfl hQ.x0, fun U hU hW => ⟨rfl, by rw [hU], by rw [hU], by rw [hU]; exact hP, va_K.moved hW.alike hK, hD.weaken (fun _ _ _ _ => trivial), nx_warm hW hN⟩⟩ rfl rfl hl.1 rfl (lv_room (Nat.le_of_ble_eq_true rfl)) dX9_closeTurn_40 ⟨by show ce + 0 ≤ 2400; omega, by show se + 0 ≤ 84000; omega⟩) hS (fun q _ h => hFc q h) hFc (fun u_159 t H1 locs ht hvm hw hB hz1 hk1 hS => ?_)
          obtain ⟨ad_160, ga_161, gc_162, M_163, n_164, f_165, T_166, G_167, K_168, F_169⟩ := u_159
          have hB : ∃ w : va_W, va_P (dC, dI) vwCl w t.heap ∧ va_D (va_A ws_109 H.size) w ∧ Pic9 kc w ad ga gc M n f T_166 G_167 K F_169 ∧ I9 M n f T_166 gc G_167 K F_169 R ∧ hpS t.heap + (260 * M + 2 * S9 M gc) ≤ hpS H + (260 * M + 2 * S9 M gc) ∧ 16 * t.heap.size + (256 * M + S9 M gc) ≤ 16 * H.size + (256 * M + S9 M gc) := hB
          rw [ht] at hB
          obtain ⟨ws_170, hP, hD, hQ, hI_171, hy1, hy2⟩ := hB
          have hD := hD.weaken (fun k q _ h => hFc _ h)
          obtain ⟨i1_172, i2_173, i3_174, i4_175, i5_176, i6_177, i7_178, i8_179, i9_180, i10_181, i11_182⟩ := id hI_171
          have q1_ := i1_172
          unfold i1 at q1_
          have hSl := S9_le i8_179 i9_180
          have hb0_ := i8_179.2.1 0 (by omega)
          have hb1_ := i8_179.2.1 1 (by omega)
          have hb2_ := i8_179.2.1 2 (by omega)
          refine W_msr2 (fun hn1 hn2 hn3 => ?_)
          obtain ⟨ce2, se2, hk3, hk4, hr1, hr2⟩ : ∃ c2 s2 : Nat, H1.size ≤ s.heap.size + c2 ∧ hpS H1 ≤ hpS s.heap + s2 ∧ s2 + (260 * M + 2 * S9 M gc) ≤ (260 * M + 2 * S9 M gc) ∧ 16 * c2 + (256 * M + S9 M gc) ≤ (256 * M + S9 M gc) := ⟨H1.size - s.heap.size, hpS H1 - hpS s.heap, by omega, by omega, by have := hS.1; omega, by have := hS.1; omega⟩
          refine W_tightP hk3 hk4 ?_
          clear hm1 hm2 hm3 hn1 hn2 hn3 hk3 hk4
          clear hk1 hz1
          generalize ce2 = ce, se2 = se at hr1 hr2 ⊢
          generalize H1 = H at hP hS ⊢
          have hc_184 : (C9.mk n f T_166 G_167 K F_169) = k_leave i (C9.mk n f T G_106 K F_108) := hw.1
          have w_183 : (∀ t : Nat, T_166 t = T t ∨ T_166 t = none) := hw.2
          exact by
           refine lv_aload_n hx hb dX9_closeTurn_43 rfl (lv_at hl 1 rfl) ?_
           have hCc : ([(50 + 16 * i)] : List Nat).map (fun i => ws_170[i]?) = ([(ad (50 + 16 * i), .inr (7, [.int (G_167 i 0), .int (G_167 i 1), .int (G_167 i 2), .int (G_167 i 3), .int (G_167 i 4), .int (G_167 i 5), .int (G_167 i 6), .int (G_167 i 7), .int (G_167 i 8), .int (G_167 i 9), .ref (ad (50 + 16 * i + 1)), .ref (ad (50 + 16 * i + 2)), .ref (ad (50 + 16 * i + 6)), .ref (ad (50 + 16 * i + 13)), .ref (ad (50 + 16 * i + 14))]))] : va_W).map some := mp1 (hQ.b0 hi)
           have hNd : ([(50 + 16 * i)] : List Nat).Nodup := (nd_off (50 + 16 * i) (l := [0]) (by decide))
           have hPc := hP.pick [(50 + 16 * i)] hCc
           have hDc := hD.pick [(50 + 16 * i)] hNd hCc
           have hKc := hK.sub (tys' := []) [] rfl
           have hFc := va_free (wc := [(ad (50 + 16 * i), .inr (7, [.int (G_167 i 0), .int (G_167 i 1), .int (G_167 i 2), .int (G_167 i 3), .int (G_167 i 4), .int (G_167 i 5), .int (G_167 i 6), .int (G_167 i 7), .int (G_167 i 8), .int (G_167 i 9), .ref (ad (50 + 16 * i + 1)), .ref (ad (50 + 16 * i + 2)), .ref (ad (50 + 16 * i + 6)), .ref (ad (50 + 16 * i + 13)), .ref (ad (50 + 16 * i + 14))]))]) hD hS hA [(50 + 16 * i)] hCc
           refine W_msr2 (fun hm1 hm2 hm3 => ?_)
           refine va_calli (va_runV (As := []) (rest := []) ⟨hx, hb, hml, hown, hg⟩ (c_X7_isOver l dC dI (ad (50 + 16 * i)) (ad (50 + 16 * i + 1)) (ad (50 + 16 * i + 2)) (ad (50 + 16 * i + 6)) (ad (50 + 16 * i + 13)) (ad (50 + 16 * i + 14)) (G_167 i 0) (G_167 i 1) (G_167 i 2) (G_167 i 3) (G_167 i 4) (G_167 i 5) (G_167 i 6) (G_167 i 7) (G_167 i 8) (G_167 i 9) H.size ) (cwV 0 hg (gw_V gm_methodLink_RX9_138_yX7_isOver gm_instanceMethod_yX7_isOver gm_selects_RX7_yX7_isOver_yX7_isOver gm_initialized_RX7 gm_code_yX7_isOver_cX7_isOver_1_some_boolean_) rfl rfl rfl (by decide +kernel) ⟨Nat.le_of_ble_eq_true rfl, Nat.le_of_ble_eq_true rfl⟩) ⟨fun a U g mk q => by obtain ⟨q0, q1, qP, qK, qD, qN⟩ := q; exact ⟨q0, q1, qP, va_K.moved (u := U) (U := U.calling g mk a) (Vm.Alike.refl U.vm) qK, qD, nx_same (u := U) (U := U.calling g mk a) rfl qN⟩, va_recv hK hP (ci := 7) (q0 := (50 + 16 * i)) rfl (hQ.b0 hi), fun U hU hW => ⟨rfl, by rw [hU], by rw [hU]; exact hPc, va_K.moved hW.alike hKc, hDc.weaken (fun _ _ _ _ => trivial), nx_warm hW hN⟩⟩ rfl rfl hl.1 rfl (lv_room (Nat.le_of_ble_eq_true rfl)) dX9_closeTurn_44 ⟨by show ce + 0 ≤ 2400; omega, by show se + 0 ≤ 84000; omega⟩) hS (fun q _ h => hFc q h) hFc (fun r_185 u_186 t H1 locs ht hvm hw hB hz1 hk1 hS => ?_)
           obtain ⟨hP1, hD1⟩ := hB
           rw [ht] at hP1
           obtain ⟨hP, hD⟩ := va_replS hP hD [(50 + 16 * i)] hCc hNd hk1 hFc hP1 hD1
           refine W.widen (k := ce) (n := se) (Nat.le_refl _) (Nat.le_refl _) ?_
           generalize H1 = H at hP hS ⊢
           rcases hw with ⟨rfl, w_187⟩ | ⟨rfl, w_187⟩
           · refine lv_if_eq (tgt := 55) hx hb dX9_closeTurn_47 (by decide) (fun c_188 => absurd c_188 (by decide)) (fun _ => ?_)
             exact by
              refine lv_aload_n hx hb dX9_closeTurn_50 rfl (lv_at hl 0 rfl) ?_
              refine lv_aload_n hx hb dX9_closeTurn_51 rfl (lv_at hl 1 rfl) ?_
              have hFc := free_all hD hS hA
              refine W_msr2 (fun hm1 hm2 hm3 => ?_)
              refine va_callv (va_runV (As := [.ref (ad (50 + 16 * i))]) (rest := []) ⟨hx, hb, hml, hown, hg⟩ (c_X9_tellUncaught l dC dI kc ws_170 ad ga gc M n f T_166 G_167 K F_169 R i H.size (hpS H) hQ ⟨i1_172, i2_173, i3_174, i4_175, i5_176, i6_177, i7_178, i8_179, i9_180, i10_181, i11_182⟩ (by show i < M; omega) (by show R ≤ 310000; omega)) (cwV 1 hg (gw_V gm_methodLink_RX9_319_yX9_tellUncaught gm_instanceMethod_yX9_tellUncaught gm_selects_RX9_yX9_tellUncaught_yX9_tellUncaught gm_initialized_RX9 gm_code_yX9_tellUncaught_cX9_tellUncaught_5_none) rfl rfl rfl (by decide +kernel) ⟨Nat.le_of_ble_eq_true rfl, Nat.le_of_ble_eq_true rfl⟩) ⟨fun a U g mk q => by obtain ⟨q0, q1, q2, qP, qK, qD, qN⟩ := q; exact ⟨q0, q1, q2, qP, va_K.moved (u := U) (U := U.calling g mk a) (Vm.Alike.refl U.vm) qK, qD, nx_same (u := U) (U := U.calling g mk a) rfl qN⟩, va_recv hK hP (ci := 9) (q0 := 0) rfl hQ.x0, fun U hU hW => ⟨rfl, by rw [hU], by rw [hU], by rw [hU]; exact hP, va_K.moved hW.alike hK, hD.weaken (fun _ _ _ _ => trivial), nx_warm hW hN⟩⟩ rfl rfl hl.1 rfl (lv_room (Nat.le_of_ble_eq_true rfl)) dX9_closeTurn_52 ⟨by show ce + 1800 ≤ 2400; omega, by show se + 67000 ≤ 84000; omega⟩) hS (fun q _ h => hFc q h) hFc (fun u_190 t H1 locs ht hvm hw hB hz1 hk1 hS => ?_)
              obtain ⟨ad_191, ga_192, gc_193, M_194, n_195, f_196, T_197, G_198, K_199, F_200⟩ := u_190
              have hB : ∃ w : va_W, va_P (dC, dI) vwCl w t.heap ∧ va_D (va_A ws_170 H.size) w ∧ Pic9 kc w ad ga_192 gc_193 M n_195 f_196 T_166 G_198 K F_169 ∧ I9 M n_195 f_196 T_166 gc_193 G_198 K F_169 R ∧ hpS t.heap + (260 * M + 2 * S9 M gc) ≤ hpS H + (260 * M + 2 * S9 M gc_193) ∧ 16 * t.heap.size + (256 * M + S9 M gc) ≤ 16 * H.size + (256 * M + S9 M gc_193) ∧ (n 0).toInt ≤ (n_195 0).toInt := hB
              rw [ht] at hB
              obtain ⟨ws_201, hP, hD, hQ, hI_203, hy1, hy2, hn_202⟩ := hB
              have hD := hD.weaken (fun k q _ h => hFc _ h)
              obtain ⟨i1_204, i2_205, i3_206, i4_207, i5_208, i6_209, i7_210, i8_211, i9_212, i10_213, i11_214⟩ := id hI_203
              have q1_ := i1_204
              unfold i1 at q1_
              have hSl := S9_le i8_211 i9_212
              have hb0_ := i8_211.2.1 0 (by omega)
              have hb1_ := i8_211.2.1 1 (by omega)
              have hb2_ := i8_211.2.1 2 (by omega)
              refine W_msr2 (fun hn1 hn2 hn3 => ?_)
              obtain ⟨ce2, se2, hk3, hk4, hr1, hr2⟩ : ∃ c2 s2 : Nat, H1.size ≤ s.heap.size + c2 ∧ hpS H1 ≤ hpS s.heap + s2 ∧ s2 + (260 * M + 2 * S9 M gc) ≤ (260 * M + 2 * S9 M gc_193) ∧ 16 * c2 + (256 * M + S9 M gc) ≤ (256 * M + S9 M gc_193) := ⟨H1.size - s.heap.size, hpS H1 - hpS s.heap, by omega, by omega, by have := hS.1; omega, by have := hS.1; omega⟩
              refine W_tightP hk3 hk4 ?_
              clear hm1 hm2 hm3 hn1 hn2 hn3 hk3 hk4
              clear hk1 hz1
              generalize ce2 = ce, se2 = se at hr1 hr2 ⊢
              generalize H1 = H at hP hS ⊢
              have hc_216 : (C9.mk n_195 f_196 T_166 G_198 K F_169) = k_tell i (C9.mk n f T_166 G_167 K F_169) := hw.1
              have w_215 : S9 M gc_193 + gc 1 ≤ S9 M gc + gc_193 1 ∧ (n_195 0).toInt = (n 0).toInt := hw.2
              refine W_msr2 (fun hm1 hm2 hm3 => ?_)
              have hSl := S9_le i8_211 i9_212
              have hb0_ := i8_211.2.1 0 (by omega)
              have hb1_ := i8_211.2.1 1 (by omega)
              have hb2_ := i8_211.2.1 2 (by omega)
              refine W.widen (k := 2400) (n := 84000) (by omega) (by omega) ?_
              exact W.vret hx hb hr (fun t ht hW => ⟨⟨(ad, ga_192, gc_193, M, n_195, f_196, T_166, G_198, K, F_169), rfl, ⟨(by show (C9.mk n_195 f_196 T_166 G_198 K F_169) = k_close i v2 (C9.mk n f T G K F); have hX := (k_close.eq_1 i v2 (C9.mk n f T G K F)).symm; (repeat (first | dsimp +instances only [c9n, c9f, c9T, c9G, c9K, c9F, b_come, b_leave, b_fill, awB, b_settle, b_wake, b_take, f_take, b_gather, f_gather, b_ask, a_ask, b_tell, c_close, d_close, k_add, k_rem, sco, k_clrF, k_mem, k_rebind, k_bnd, k_beg0, k_beg1, b_giveN, b_giveR, f_open, b_hand, k_op, b_turn, wlB, b_beat, f_anew, b_wipe, b_off, k_sadd, fits, frP, cntB, b_trace, b_child, k_lat, cond_true, cond_false, Option.elim_none, Option.elim_some, Option.getD_none, Option.getD_some] at hX | rw [← hc_123] at hX | rw [← hc_184] at hX | rw [← hc_216] at hX | rw [if_pos (by first | with_reducible assumption | omega)] at hX | rw [if_neg (by first | with_reducible assumption | omega)] at hX | rw [jx_of (by omega)] at hX)); first | exact hX | (exfalso; omega) | exact hX), ⟨by show S9 M gc_193 + gc 1 ≤ S9 M gc + gc_193 1; omega, by show (n_195 0).toInt = (n 0).toInt; omega, w_183⟩⟩, ws_201, by rw [ht]; exact hP, hD, hQ, ⟨i1_204, i2_205, i3_206, i4_207, i5_208, i6_209, i7_210, i8_211, i9_212, i10_213, i11_214⟩, by rw [ht]; show hpS H + (260 * M + 2 * S9 M gc) ≤ hpS s.heap + (260 * M + 2 * S9 M gc_193); omega, by rw [ht]; show 16 * H.size + (256 * M + S9 M gc) ≤ 16 * s.heap.size + (256 * M + S9 M gc_193); omega, by show (n 0).toInt ≤ (n_195 0).toInt; omega⟩, hS.F ht⟩) hS.2.2 dX9_closeTurn_55
           · refine lv_if_eq (tgt := 55) hx hb dX9_closeTurn_47 (by decide) (fun _ => ?_) (fun c_217 => absurd c_217 (by decide))
             refine W_msr2 (fun hm1 hm2 hm3 => ?_)
             have hSl := S9_le i8_179 i9_180
             have hb0_ := i8_179.2.1 0 (by omega)
             have hb1_ := i8_179.2.1 1 (by omega)
             have hb2_ := i8_179.2.1 2 (by omega)
             refine W.widen (k := 2400) (n := 84000) (by omega) (by omega) ?_
             exact W.vret hx hb hr (fun t ht hW => ⟨⟨(ad, ga, gc, M, n, f, T_166, G_167, K, F_169), rfl, ⟨(by show (C9.mk n f T_166 G_167 K F_169) = k_close i v2 (C9.mk n f T G K F); have hX := (k_close.eq_1 i v2 (C9.mk n f T G K F)).symm; (repeat (first | dsimp +instances only [c9n, c9f, c9T, c9G, c9K, c9F, b_come, b_leave, b_fill, awB, b_settle, b_wake, b_take, f_take, b_gather, f_gather, b_ask, a_ask, b_tell, c_close, d_close, k_add, k_rem, sco, k_clrF, k_mem, k_rebind, k_bnd, k_beg0, k_beg1, b_giveN, b_giveR, f_open, b_hand, k_op, b_turn, wlB, b_beat, f_anew, b_wipe, b_off, k_sadd, fits, frP, cntB, b_trace, b_child, k_lat, cond_true, cond_false, Option.elim_none, Option.elim_some, Option.getD_none, Option.getD_some] at hX | rw [← hc_123] at hX | rw [← hc_184] at hX | rw [if_pos (by first | with_reducible assumption | omega)] at hX | rw [if_neg (by first | with_reducible assumption | omega)] at hX | rw [jx_of (by omega)] at hX)); first | exact hX | (exfalso; omega) | exact hX), ⟨by show S9 M gc + gc 1 ≤ S9 M gc + gc 1; omega, by show (n 0).toInt = (n 0).toInt; omega, w_183⟩⟩, ws_170, by rw [ht]; exact hP, hD, hQ, ⟨i1_172, i2_173, i3_174, i4_175, i5_176, i6_177, i7_178, i8_179, i9_180, i10_181, i11_182⟩, by rw [ht]; show hpS H + (260 * M + 2 * S9 M gc) ≤ hpS s.heap + (260 * M + 2 * S9 M gc); omega, by rw [ht]; show 16 * H.size + (256 * M + S9 M gc) ≤ 16 * s.heap.size + (256 * M + S9 M gc); omega, by show (n 0).toInt ≤ (n 0).toInt; omega⟩, hS.F ht⟩) hS.2.2 dX9_closeTurn_55
   · simp only [i_lt, i_le, i_eq, ti_m1] at c_1
     refine lv_aload_n hx hb dX9_closeTurn_5 rfl (lv_at hl 1 rfl) ?_
     refine lv_dup hx hb dX9_closeTurn_6 rfl ?_
     refine va_get (D := (dC, dI)) (ci := 7) (v := .int (G i 6)) (C := RX7) (T := TX7) (N := 15) hx hb hg gb_7 hown hK hP (50 + 16 * i) (hQ.b0 hi) rfl 6 (by decide) (hg _ gm_fieldLink_RX9_174_ErrandGuild_Run_place_I_) (fun _ h9 => h9) rfl dX9_closeTurn_7 ?_
     refine lv_iconst (v := 1) hx hb dX9_closeTurn_10 (by decide) ?_
     refine lv_iadd hx hb dX9_closeTurn_11 ?_
     refine lv_topi (fun z_218 ez_218 => ?_)
     refine va_put (D := (dC, dI)) (ci := 7) (v := .int (z_218)) (ty := .int) (C := RX7) (T := TX7) (N := 15) hx hb hg gb_7 tyX7 tyX7_ok nmX7 hown hK hP hD hS (50 + 16 * i) (hQ.b0 hi) rfl 6 (by decide) (hg _ gm_fieldLink_RX9_174_ErrandGuild_Run_place_I_) (fun _ h9 => h9) rfl (by decide +kernel) rfl rfl (Nat.le_of_ble_eq_true rfl) dX9_closeTurn_12 (fun H locs hP hD hS => ?_)
     obtain ⟨ws_220, G_219, eG_219, hP, hD, hQ⟩ : ∃ (ws_220 : va_W) (G_219 : Nat → Nat → Int32), G_219 = u2 G i 6 z_218 ∧ va_P (dC, dI) vwCl ws_220 H ∧ va_D A ws_220 ∧ Pic9 kc ws_220 ad ga gc M n f T G_219 K F := ⟨_, _, rfl, hP, hD, hQ.run hi 6 (by decide) z_218⟩
     have i10_221 : i10 M G_219 K F := by rw [eG_219]; exact (i10.pG h_i10 hi _ (by decide))
     have i11_222 : i11 M n gc f G_219 F := by rw [eG_219]; exact (i11.pG h_i11 i _ (by decide))
     have i6_223 : i6 n T G_219 := by rw [eG_219]; exact (i6.pG h_i6 i _ (by decide))
     have i7_224 : i7 n G_219 := by rw [eG_219]; exact (i7.pG h_i7 i _ (by decide))
     have i8_225 : i8 M n gc G_219 := by rw [eG_219]; exact (i8.pG h_i8 i _ (by decide))
     have i9_226 : i9 M gc G_219 R := by rw [eG_219]; exact (i9.pG h_i9 i _ (by decide))
     have eg_227 : G_219 i 6 = z_218 := by rw [eG_219, u2_eq]
     exact by
      refine lv_goto (tgt := 30) hx hb dX9_closeTurn_15 (by decide) ?_
      refine lv_aload_n hx hb dX9_closeTurn_30 rfl (lv_at hl 1 rfl) ?_
      refine va_get (D := (dC, dI)) (ci := 7) (v := .int (G_219 i 2)) (C := RX7) (T := TX7) (N := 15) hx hb hg gb_7 hown hK hP (50 + 16 * i) (hQ.b0 hi) rfl 2 (by decide) (hg _ gm_fieldLink_RX9_145_ErrandGuild_Run_state_I_) (fun _ h9 => h9) rfl dX9_closeTurn_31 ?_
      refine lv_iconst (v := 1) hx hb dX9_closeTurn_34 (by decide) ?_
      refine lv_icmp_eq (tgt := 43) hx hb dX9_closeTurn_35 (by decide) (fun c_228 => ?_) (fun c_228 => ?_)
      · simp only [i_lt, i_le, i_eq, ti_1] at c_228
        refine lv_aload_n hx hb dX9_closeTurn_43 rfl (lv_at hl 1 rfl) ?_
        have hCc : ([(50 + 16 * i)] : List Nat).map (fun i => ws_220[i]?) = ([(ad (50 + 16 * i), .inr (7, [.int (G_219 i 0), .int (G_219 i 1), .int (G_219 i 2), .int (G_219 i 3), .int (G_219 i 4), .int (G_219 i 5), .int (G_219 i 6), .int (G_219 i 7), .int (G_219 i 8), .int (G_219 i 9), .ref (ad (50 + 16 * i + 1)), .ref (ad (50 + 16 * i + 2)), .ref (ad (50 + 16 * i + 6)), .ref (ad (50 + 16 * i + 13)), .ref (ad (50 + 16 * i + 14))]))] : va_W).map some := mp1 (hQ.b0 hi)
        have hNd : ([(50 + 16 * i)] : List Nat).Nodup := (nd_off (50 + 16 * i) (l := [0]) (by decide))
        have hPc := hP.pick [(50 + 16 * i)] hCc
        have hDc := hD.pick [(50 + 16 * i)] hNd hCc
        have hKc := hK.sub (tys' := []) [] rfl
        have hFc := va_free (wc := [(ad (50 + 16 * i), .inr (7, [.int (G_219 i 0), .int (G_219 i 1), .int (G_219 i 2), .int (G_219 i 3), .int (G_219 i 4), .int (G_219 i 5), .int (G_219 i 6), .int (G_219 i 7), .int (G_219 i 8), .int (G_219 i 9), .ref (ad (50 + 16 * i + 1)), .ref (ad (50 + 16 * i + 2)), .ref (ad (50 + 16 * i + 6)), .ref (ad (50 + 16 * i + 13)), .ref (ad (50 + 16 * i + 14))]))]) hD hS hA [(50 + 16 * i)] hCc
        refine W_msr2 (fun hm1 hm2 hm3 => ?_)
        exact by
         refine va_calli (va_runV (As := []) (rest := []) ⟨hx, hb, hml, hown, hg⟩ (c_X7_isOver l dC dI (ad (50 + 16 * i)) (ad (50 + 16 * i + 1)) (ad (50 + 16 * i + 2)) (ad (50 + 16 * i + 6)) (ad (50 + 16 * i + 13)) (ad (50 + 16 * i + 14)) (G_219 i 0) (G_219 i 1) (G_219 i 2) (G_219 i 3) (G_219 i 4) (G_219 i 5) (G_219 i 6) (G_219 i 7) (G_219 i 8) (G_219 i 9) H.size ) (cwV 0 hg (gw_V gm_methodLink_RX9_138_yX7_isOver gm_instanceMethod_yX7_isOver gm_selects_RX7_yX7_isOver_yX7_isOver gm_initialized_RX7 gm_code_yX7_isOver_cX7_isOver_1_some_boolean_) rfl rfl rfl (by decide +kernel) ⟨Nat.le_of_ble_eq_true rfl, Nat.le_of_ble_eq_true rfl⟩) ⟨fun a U g mk q => by obtain ⟨q0, q1, qP, qK, qD, qN⟩ := q; exact ⟨q0, q1, qP, va_K.moved (u := U) (U := U.calling g mk a) (Vm.Alike.refl U.vm) qK, qD, nx_same (u := U) (U := U.calling g mk a) rfl qN⟩, va_recv hK hP (ci := 7) (q0 := (50 + 16 * i)) rfl (hQ.b0 hi), fun U hU hW => ⟨rfl, by rw [hU], by rw [hU]; exact hPc, va_K.moved hW.alike hKc, hDc.weaken (fun _ _ _ _ => trivial), nx_warm hW hN⟩⟩ rfl rfl hl.1 rfl (lv_room (Nat.le_of_ble_eq_true rfl)) dX9_closeTurn_44 ⟨by show ce + 0 ≤ 2400; omega, by show se + 0 ≤ 84000; omega⟩) hS (fun q _ h => hFc q h) hFc (fun r_229 u_230 t H1 locs ht hvm hw hB hz1 hk1 hS => ?_)
         obtain ⟨hP1, hD1⟩ := hB
         rw [ht] at hP1
         obtain ⟨hP, hD⟩ := va_replS hP hD [(50 + 16 * i)] hCc hNd hk1 hFc hP1 hD1
         refine W.widen (k := ce) (n := se) (Nat.le_refl _) (Nat.le_refl _) ?_
         generalize H1 = H at hP hS ⊢
         rcases hw with ⟨rfl, w_231⟩ | ⟨rfl, w_231⟩
         · refine lv_if_eq (tgt := 55) hx hb dX9_closeTurn_47 (by decide) (fun c_232 => absurd c_232 (by decide)) (fun _ => ?_)
           refine lv_aload_n hx hb dX9_closeTurn_50 rfl (lv_at hl 0 rfl) ?_
           refine lv_aload_n hx hb dX9_closeTurn_51 rfl (lv_at hl 1 rfl) ?_
           have hFc := free_all hD hS hA
           refine W_msr2 (fun hm1 hm2 hm3 => ?_)
           exact by
            refine va_callv (va_runV (As := [.ref (ad (50 + 16 * i))]) (rest := []) ⟨hx, hb, hml, hown, hg⟩ (c_X9_tellUncaught l dC dI kc ws_220 ad ga gc M n f T G_219 K F R i H.size (hpS H) hQ ⟨h_i1, h_i2, h_i3, h_i4, h_i5, i6_223, i7_224, i8_225, i9_226, i10_221, i11_222⟩ (by show i < M; omega) (by show R ≤ 310000; omega)) (cwV 1 hg (gw_V gm_methodLink_RX9_319_yX9_tellUncaught gm_instanceMethod_yX9_tellUncaught gm_selects_RX9_yX9_tellUncaught_yX9_tellUncaught gm_initialized_RX9 gm_code_yX9_tellUncaught_cX9_tellUncaught_5_none) rfl rfl rfl (by decide +kernel) ⟨Nat.le_of_ble_eq_true rfl, Nat.le_of_ble_eq_true rfl⟩) ⟨fun a U g mk q => by obtain ⟨q0, q1, q2, qP, qK, qD, qN⟩ := q; exact ⟨q0, q1, q2, qP, va_K.moved (u := U) (U := U.calling g mk a) (Vm.Alike.refl U.vm) qK, qD, nx_same (u := U) (U := U.calling g mk a) rfl qN⟩, va_recv hK hP (ci := 9) (q0 := 0) rfl hQ.x0, fun U hU hW => ⟨rfl, by rw [hU], by rw [hU], by rw [hU]; exact hP, va_K.moved hW.alike hK, hD.weaken (fun _ _ _ _ => trivial), nx_warm hW hN⟩⟩ rfl rfl hl.1 rfl (lv_room (Nat.le_of_ble_eq_true rfl)) dX9_closeTurn_52 ⟨by show ce + 1800 ≤ 2400; omega, by show se + 67000 ≤ 84000; omega⟩) hS (fun q _ h => hFc q h) hFc (fun u_234 t H1 locs ht hvm hw hB hz1 hk1 hS => ?_)
            obtain ⟨ad_235, ga_236, gc_237, M_238, n_239, f_240, T_241, G_242, K_243, F_244⟩ := u_234
            have hB : ∃ w : va_W, va_P (dC, dI) vwCl w t.heap ∧ va_D (va_A ws_220 H.size) w ∧ Pic9 kc w ad ga_236 gc_237 M n_239 f_240 T G_242 K F ∧ I9 M n_239 f_240 T gc_237 G_242 K F R ∧ hpS t.heap + (260 * M + 2 * S9 M gc) ≤ hpS H + (260 * M + 2 * S9 M gc_237) ∧ 16 * t.heap.size + (256 * M + S9 M gc) ≤ 16 * H.size + (256 * M + S9 M gc_237) ∧ (n 0).toInt ≤ (n_239 0).toInt := hB
            rw [ht] at hB
            obtain ⟨ws_245, hP, hD, hQ, hI_247, hy1, hy2, hn_246⟩ := hB
            have hD := hD.weaken (fun k q _ h => hFc _ h)
            obtain ⟨i1_248, i2_249, i3_250, i4_251, i5_252, i6_253, i7_254, i8_255, i9_256, i10_257, i11_258⟩ := id hI_247
            have q1_ := i1_248
            unfold i1 at q1_
            have hSl := S9_le i8_255 i9_256
            have hb0_ := i8_255.2.1 0 (by omega)
            have hb1_ := i8_255.2.1 1 (by omega)
            have hb2_ := i8_255.2.1 2 (by omega)
            refine W_msr2 (fun hn1 hn2 hn3 => ?_)
            obtain ⟨ce2, se2, hk3, hk4, hr1, hr2⟩ : ∃ c2 s2 : Nat, H1.size ≤ s.heap.size + c2 ∧ hpS H1 ≤ hpS s.heap + s2 ∧ s2 + (260 * M + 2 * S9 M gc) ≤ (260 * M + 2 * S9 M gc_237) ∧ 16 * c2 + (256 * M + S9 M gc) ≤ (256 * M + S9 M gc_237) := ⟨H1.size - s.heap.size, hpS H1 - hpS s.heap, by omega, by omega, by have := hS.1; omega, by have := hS.1; omega⟩
            refine W_tightP hk3 hk4 ?_
            clear hm1 hm2 hm3 hn1 hn2 hn3 hk3 hk4
            clear hk1 hz1
            generalize ce2 = ce, se2 = se at hr1 hr2 ⊢
            generalize H1 = H at hP hS ⊢
            have hc_260 : (C9.mk n_239 f_240 T G_242 K F) = k_tell i (C9.mk n f T G_219 K F) := hw.1
            have w_259 : S9 M gc_237 + gc 1 ≤ S9 M gc + gc_237 1 ∧ (n_239 0).toInt = (n 0).toInt := hw.2
            refine W_msr2 (fun hm1 hm2 hm3 => ?_)
            have hSl := S9_le i8_255 i9_256
            have hb0_ := i8_255.2.1 0 (by omega)
            have hb1_ := i8_255.2.1 1 (by omega)
            have hb2_ := i8_255.2.1 2 (by omega)
            refine W.widen (k := 2400) (n := 84000) (by omega) (by omega) ?_
            exact W.vret hx hb hr (fun t ht hW => ⟨⟨(ad, ga_236, gc_237, M, n_239, f_240, T, G_242, K, F), rfl, ⟨(by show (C9.mk n_239 f_240 T G_242 K F) = k_close i v2 (C9.mk n f T G K F); subst eG_219; subst ez_218; have hX := (k_close.eq_1 i v2 (C9.mk n f T G K F)).symm; (repeat (first | dsimp +instances only [c9n, c9f, c9T, c9G, c9K, c9F, b_come, b_leave, b_fill, awB, b_settle, b_wake, b_take, f_take, b_gather, f_gather, b_ask, a_ask, b_tell, c_close, d_close, k_add, k_rem, sco, k_clrF, k_mem, k_rebind, k_bnd, k_beg0, k_beg1, b_giveN, b_giveR, f_open, b_hand, k_op, b_turn, wlB, b_beat, f_anew, b_wipe, b_off, k_sadd, fits, frP, cntB, b_trace, b_child, k_lat, cond_true, cond_false, Option.elim_none, Option.elim_some, Option.getD_none, Option.getD_some] at hX | rw [← hc_260] at hX | rw [if_pos (by first | with_reducible assumption | omega)] at hX | rw [if_neg (by first | with_reducible assumption | omega)] at hX | rw [jx_of (by omega)] at hX)); first | exact hX | (exfalso; omega) | exact hX), ⟨by show S9 M gc_237 + gc 1 ≤ S9 M gc + gc_237 1; omega, by show (n_239 0).toInt = (n 0).toInt; omega, (fun _ => Or.inl rfl)⟩⟩, ws_245, by rw [ht]; exact hP, hD, hQ, ⟨i1_248, i2_249, i3_250, i4_251, i5_252, i6_253, i7_254, i8_255, i9_256, i10_257, i11_258⟩, by rw [ht]; show hpS H + (260 * M + 2 * S9 M gc) ≤ hpS s.heap + (260 * M + 2 * S9 M gc_237); omega, by rw [ht]; show 16 * H.size + (256 * M + S9 M gc) ≤ 16 * s.heap.size + (256 * M + S9 M gc_237); omega, by show (n 0).toInt ≤ (n_239 0).toInt; omega⟩, hS.F ht⟩) hS.2.2 dX9_closeTurn_55
         · refine lv_if_eq (tgt := 55) hx hb dX9_closeTurn_47 (by decide) (fun _ => ?_) (fun c_261 => absurd c_261 (by decide))
           refine W_msr2 (fun hm1 hm2 hm3 => ?_)
           have hSl := S9_le i8_225 i9_226
           have hb0_ := i8_225.2.1 0 (by omega)
           have hb1_ := i8_225.2.1 1 (by omega)
           have hb2_ := i8_225.2.1 2 (by omega)
           refine W.widen (k := 2400) (n := 84000) (by omega) (by omega) ?_
           exact W.vret hx hb hr (fun t ht hW => ⟨⟨(ad, ga, gc, M, n, f, T, G_219, K, F), rfl, ⟨(by show (C9.mk n f T G_219 K F) = k_close i v2 (C9.mk n f T G K F); subst eG_219; subst ez_218; have hX := (k_close.eq_1 i v2 (C9.mk n f T G K F)).symm; (repeat (first | dsimp +instances only [c9n, c9f, c9T, c9G, c9K, c9F, b_come, b_leave, b_fill, awB, b_settle, b_wake, b_take, f_take, b_gather, f_gather, b_ask, a_ask, b_tell, c_close, d_close, k_add, k_rem, sco, k_clrF, k_mem, k_rebind, k_bnd, k_beg0, k_beg1, b_giveN, b_giveR, f_open, b_hand, k_op, b_turn, wlB, b_beat, f_anew, b_wipe, b_off, k_sadd, fits, frP, cntB, b_trace, b_child, k_lat, cond_true, cond_false, Option.elim_none, Option.elim_some, Option.getD_none, Option.getD_some] at hX | rw [if_pos (by first | with_reducible assumption | omega)] at hX | rw [if_neg (by first | with_reducible assumption | omega)] at hX | rw [jx_of (by omega)] at hX)); first | exact hX | (exfalso; omega) | exact hX), ⟨by show S9 M gc + gc 1 ≤ S9 M gc + gc 1; omega, by show (n 0).toInt = (n 0).toInt; omega, (fun _ => Or.inl rfl)⟩⟩, ws_220, by rw [ht]; exact hP, hD, hQ, ⟨h_i1, h_i2, h_i3, h_i4, h_i5, i6_223, i7_224, i8_225, i9_226, i10_221, i11_222⟩, by rw [ht]; show hpS H + (260 * M + 2 * S9 M gc) ≤ hpS s.heap + (260 * M + 2 * S9 M gc); omega, by rw [ht]; show 16 * H.size + (256 * M + S9 M gc) ≤ 16 * s.heap.size + (256 * M + S9 M gc); omega, by show (n 0).toInt ≤ (n 0).toInt; omega⟩, hS.F ht⟩) hS.2.2 dX9_closeTurn_55
      · simp only [i_lt, i_le, i_eq, ti_1] at c_228
        refine lv_aload_n hx hb dX9_closeTurn_38 rfl (lv_at hl 0 rfl) ?_
        refine lv_aload_n hx hb dX9_closeTurn_39 rfl (lv_at hl 1 rfl) ?_
        have hFc := free_all hD hS hA
        refine W_msr2 (fun hm1 hm2 hm3 => ?_)
        refine va_callv (va_runV (As := [.ref (ad (50 + 16 * i))]) (rest := []) ⟨hx, hb, hml, hown, hg⟩ (c_X9_leaveThread l dC dI kc ws_220 ad ga gc M n f T G_219 K F R i H.size (hpS H) hQ ⟨h_i1, h_i2, h_i3, h_i4, h_i5, i6_223, i7_224, i8_225, i9_226, i10_221, i11_222⟩ (by show i < M; omega) (by show (i : Int) < (n 0).toInt; omega) (by show (G_219 i 2).toInt ≠ 1; omega)) (cwV 1 hg (gw_V gm_methodLink_RX9_316_yX9_leaveThread gm_instanceMethod_yX9_leaveThread gm_selects_RX9_yX9_leaveThread_yX9_leaveThread gm_initialized_RX9 gm_code_yX9_leaveThread_cX9_leaveThread_3_none) rfl rfl rfl (by decide +kernel) ⟨Nat.le_of_ble_eq_true rfl, Nat.le_of_ble_eq_true rfl⟩) ⟨fun a U g mk q => by obtain ⟨q0, q1, q2, qP, qK, qD, qN⟩ := q; exact ⟨q0, q1, q2, qP, va_K.moved (u := U) (U := U.calling g mk a) (Vm.Alike.refl U.vm) qK, qD, nx_same (u := U) (U := U.calling g mk a) rfl qN⟩, va_recv hK hP (ci := 9) (q0 := 0) rfl hQ.x0, fun U hU hW => ⟨rfl, by rw [hU], by rw [hU], by rw [hU]; exact hP, va_K.moved hW.alike hK, hD.weaken (fun _ _ _ _ => trivial), nx_warm hW hN⟩⟩ rfl rfl hl.1 rfl (lv_room (Nat.le_of_ble_eq_true rfl)) dX9_closeTurn_40 ⟨by show ce + 0 ≤ 2400; omega, by show se + 0 ≤ 84000; omega⟩) hS (fun q _ h => hFc q h) hFc (fun u_263 t H1 locs ht hvm hw hB hz1 hk1 hS => ?_)
        obtain ⟨ad_264, ga_265, gc_266, M_267, n_268, f_269, T_270, G_271, K_272, F_273⟩ := u_263
        have hB : ∃ w : va_W, va_P (dC, dI) vwCl w t.heap ∧ va_D (va_A ws_220 H.size) w ∧ Pic9 kc w ad ga gc M n f T_270 G_271 K F_273 ∧ I9 M n f T_270 gc G_271 K F_273 R ∧ hpS t.heap + (260 * M + 2 * S9 M gc) ≤ hpS H + (260 * M + 2 * S9 M gc) ∧ 16 * t.heap.size + (256 * M + S9 M gc) ≤ 16 * H.size + (256 * M + S9 M gc) := hB
        rw [ht] at hB
        obtain ⟨ws_274, hP, hD, hQ, hI_275, hy1, hy2⟩ := hB
        have hD := hD.weaken (fun k q _ h => hFc _ h)
        obtain ⟨i1_276, i2_277, i3_278, i4_279, i5_280, i6_281, i7_282, i8_283, i9_284, i10_285, i11_286⟩ := id hI_275
        have q1_ := i1_276
        unfold i1 at q1_
        have hSl := S9_le i8_283 i9_284
        have hb0_ := i8_283.2.1 0 (by omega)
        have hb1_ := i8_283.2.1 1 (by omega)
        have hb2_ := i8_283.2.1 2 (by omega)
        refine W_msr2 (fun hn1 hn2 hn3 => ?_)
        obtain ⟨ce2, se2, hk3, hk4, hr1, hr2⟩ : ∃ c2 s2 : Nat, H1.size ≤ s.heap.size + c2 ∧ hpS H1 ≤ hpS s.heap + s2 ∧ s2 + (260 * M + 2 * S9 M gc) ≤ (260 * M + 2 * S9 M gc) ∧ 16 * c2 + (256 * M + S9 M gc) ≤ (256 * M + S9 M gc) := ⟨H1.size - s.heap.size, hpS H1 - hpS s.heap, by omega, by omega, by have := hS.1; omega, by have := hS.1; omega⟩
        refine W_tightP hk3 hk4 ?_
        clear hm1 hm2 hm3 hn1 hn2 hn3 hk3 hk4
        clear hk1 hz1
        generalize ce2 = ce, se2 = se at hr1 hr2 ⊢
        generalize H1 = H at hP hS ⊢
        have hc_288 : (C9.mk n f T_270 G_271 K F_273) = k_leave i (C9.mk n f T G_219 K F) := hw.1
        have w_287 : (∀ t : Nat, T_270 t = T t ∨ T_270 t = none) := hw.2
        exact by
         refine lv_aload_n hx hb dX9_closeTurn_43 rfl (lv_at hl 1 rfl) ?_
         have hCc : ([(50 + 16 * i)] : List Nat).map (fun i => ws_274[i]?) = ([(ad (50 + 16 * i), .inr (7, [.int (G_271 i 0), .int (G_271 i 1), .int (G_271 i 2), .int (G_271 i 3), .int (G_271 i 4), .int (G_271 i 5), .int (G_271 i 6), .int (G_271 i 7), .int (G_271 i 8), .int (G_271 i 9), .ref (ad (50 + 16 * i + 1)), .ref (ad (50 + 16 * i + 2)), .ref (ad (50 + 16 * i + 6)), .ref (ad (50 + 16 * i + 13)), .ref (ad (50 + 16 * i + 14))]))] : va_W).map some := mp1 (hQ.b0 hi)
         have hNd : ([(50 + 16 * i)] : List Nat).Nodup := (nd_off (50 + 16 * i) (l := [0]) (by decide))
         have hPc := hP.pick [(50 + 16 * i)] hCc
         have hDc := hD.pick [(50 + 16 * i)] hNd hCc
         have hKc := hK.sub (tys' := []) [] rfl
         have hFc := va_free (wc := [(ad (50 + 16 * i), .inr (7, [.int (G_271 i 0), .int (G_271 i 1), .int (G_271 i 2), .int (G_271 i 3), .int (G_271 i 4), .int (G_271 i 5), .int (G_271 i 6), .int (G_271 i 7), .int (G_271 i 8), .int (G_271 i 9), .ref (ad (50 + 16 * i + 1)), .ref (ad (50 + 16 * i + 2)), .ref (ad (50 + 16 * i + 6)), .ref (ad (50 + 16 * i + 13)), .ref (ad (50 + 16 * i + 14))]))]) hD hS hA [(50 + 16 * i)] hCc
         refine W_msr2 (fun hm1 hm2 hm3 => ?_)
         refine va_calli (va_runV (As := []) (rest := []) ⟨hx, hb, hml, hown, hg⟩ (c_X7_isOver l dC dI (ad (50 + 16 * i)) (ad (50 + 16 * i + 1)) (ad (50 + 16 * i + 2)) (ad (50 + 16 * i + 6)) (ad (50 + 16 * i + 13)) (ad (50 + 16 * i + 14)) (G_271 i 0) (G_271 i 1) (G_271 i 2) (G_271 i 3) (G_271 i 4) (G_271 i 5) (G_271 i 6) (G_271 i 7) (G_271 i 8) (G_271 i 9) H.size ) (cwV 0 hg (gw_V gm_methodLink_RX9_138_yX7_isOver gm_instanceMethod_yX7_isOver gm_selects_RX7_yX7_isOver_yX7_isOver gm_initialized_RX7 gm_code_yX7_isOver_cX7_isOver_1_some_boolean_) rfl rfl rfl (by decide +kernel) ⟨Nat.le_of_ble_eq_true rfl, Nat.le_of_ble_eq_true rfl⟩) ⟨fun a U g mk q => by obtain ⟨q0, q1, qP, qK, qD, qN⟩ := q; exact ⟨q0, q1, qP, va_K.moved (u := U) (U := U.calling g mk a) (Vm.Alike.refl U.vm) qK, qD, nx_same (u := U) (U := U.calling g mk a) rfl qN⟩, va_recv hK hP (ci := 7) (q0 := (50 + 16 * i)) rfl (hQ.b0 hi), fun U hU hW => ⟨rfl, by rw [hU], by rw [hU]; exact hPc, va_K.moved hW.alike hKc, hDc.weaken (fun _ _ _ _ => trivial), nx_warm hW hN⟩⟩ rfl rfl hl.1 rfl (lv_room (Nat.le_of_ble_eq_true rfl)) dX9_closeTurn_44 ⟨by show ce + 0 ≤ 2400; omega, by show se + 0 ≤ 84000; omega⟩) hS (fun q _ h => hFc q h) hFc (fun r_289 u_290 t H1 locs ht hvm hw hB hz1 hk1 hS => ?_)
         obtain ⟨hP1, hD1⟩ := hB
         rw [ht] at hP1
         obtain ⟨hP, hD⟩ := va_replS hP hD [(50 + 16 * i)] hCc hNd hk1 hFc hP1 hD1
         refine W.widen (k := ce) (n := se) (Nat.le_refl _) (Nat.le_refl _) ?_
         generalize H1 = H at hP hS ⊢
         rcases hw with ⟨rfl, w_291⟩ | ⟨rfl, w_291⟩
         · refine lv_if_eq (tgt := 55) hx hb dX9_closeTurn_47 (by decide) (fun c_292 => absurd c_292 (by decide)) (fun _ => ?_)
           exact by
            refine lv_aload_n hx hb dX9_closeTurn_50 rfl (lv_at hl 0 rfl) ?_
            refine lv_aload_n hx hb dX9_closeTurn_51 rfl (lv_at hl 1 rfl) ?_
            have hFc := free_all hD hS hA
            refine W_msr2 (fun hm1 hm2 hm3 => ?_)
            refine va_callv (va_runV (As := [.ref (ad (50 + 16 * i))]) (rest := []) ⟨hx, hb, hml, hown, hg⟩ (c_X9_tellUncaught l dC dI kc ws_274 ad ga gc M n f T_270 G_271 K F_273 R i H.size (hpS H) hQ ⟨i1_276, i2_277, i3_278, i4_279, i5_280, i6_281, i7_282, i8_283, i9_284, i10_285, i11_286⟩ (by show i < M; omega) (by show R ≤ 310000; omega)) (cwV 1 hg (gw_V gm_methodLink_RX9_319_yX9_tellUncaught gm_instanceMethod_yX9_tellUncaught gm_selects_RX9_yX9_tellUncaught_yX9_tellUncaught gm_initialized_RX9 gm_code_yX9_tellUncaught_cX9_tellUncaught_5_none) rfl rfl rfl (by decide +kernel) ⟨Nat.le_of_ble_eq_true rfl, Nat.le_of_ble_eq_true rfl⟩) ⟨fun a U g mk q => by obtain ⟨q0, q1, q2, qP, qK, qD, qN⟩ := q; exact ⟨q0, q1, q2, qP, va_K.moved (u := U) (U := U.calling g mk a) (Vm.Alike.refl U.vm) qK, qD, nx_same (u := U) (U := U.calling g mk a) rfl qN⟩, va_recv hK hP (ci := 9) (q0 := 0) rfl hQ.x0, fun U hU hW => ⟨rfl, by rw [hU], by rw [hU], by rw [hU]; exact hP, va_K.moved hW.alike hK, hD.weaken (fun _ _ _ _ => trivial), nx_warm hW hN⟩⟩ rfl rfl hl.1 rfl (lv_room (Nat.le_of_ble_eq_true rfl)) dX9_closeTurn_52 ⟨by show ce + 1800 ≤ 2400; omega, by show se + 67000 ≤ 84000; omega⟩) hS (fun q _ h => hFc q h) hFc (fun u_294 t H1 locs ht hvm hw hB hz1 hk1 hS => ?_)
            obtain ⟨ad_295, ga_296, gc_297, M_298, n_299, f_300, T_301, G_302, K_303, F_304⟩ := u_294
            have hB : ∃ w : va_W, va_P (dC, dI) vwCl w t.heap ∧ va_D (va_A ws_274 H.size) w ∧ Pic9 kc w ad ga_296 gc_297 M n_299 f_300 T_270 G_302 K F_273 ∧ I9 M n_299 f_300 T_270 gc_297 G_302 K F_273 R ∧ hpS t.heap + (260 * M + 2 * S9 M gc) ≤ hpS H + (260 * M + 2 * S9 M gc_297) ∧ 16 * t.heap.size + (256 * M + S9 M gc) ≤ 16 * H.size + (256 * M + S9 M gc_297) ∧ (n 0).toInt ≤ (n_299 0).toInt := hB
            rw [ht] at hB
            obtain ⟨ws_305, hP, hD, hQ, hI_307, hy1, hy2, hn_306⟩ := hB
            have hD := hD.weaken (fun k q _ h => hFc _ h)
            obtain ⟨i1_308, i2_309, i3_310, i4_311, i5_312, i6_313, i7_314, i8_315, i9_316, i10_317, i11_318⟩ := id hI_307
            have q1_ := i1_308
            unfold i1 at q1_
            have hSl := S9_le i8_315 i9_316
            have hb0_ := i8_315.2.1 0 (by omega)
            have hb1_ := i8_315.2.1 1 (by omega)
            have hb2_ := i8_315.2.1 2 (by omega)
            refine W_msr2 (fun hn1 hn2 hn3 => ?_)
            obtain ⟨ce2, se2, hk3, hk4, hr1, hr2⟩ : ∃ c2 s2 : Nat, H1.size ≤ s.heap.size + c2 ∧ hpS H1 ≤ hpS s.heap + s2 ∧ s2 + (260 * M + 2 * S9 M gc) ≤ (260 * M + 2 * S9 M gc_297) ∧ 16 * c2 + (256 * M + S9 M gc) ≤ (256 * M + S9 M gc_297) := ⟨H1.size - s.heap.size, hpS H1 - hpS s.heap, by omega, by omega, by have := hS.1; omega, by have := hS.1; omega⟩
            refine W_tightP hk3 hk4 ?_
            clear hm1 hm2 hm3 hn1 hn2 hn3 hk3 hk4
            clear hk1 hz1
            generalize ce2 = ce, se2 = se at hr1 hr2 ⊢
            generalize H1 = H at hP hS ⊢
            have hc_320 : (C9.mk n_299 f_300 T_270 G_302 K F_273) = k_tell i (C9.mk n f T_270 G_271 K F_273) := hw.1
            have w_319 : S9 M gc_297 + gc 1 ≤ S9 M gc + gc_297 1 ∧ (n_299 0).toInt = (n 0).toInt := hw.2
            refine W_msr2 (fun hm1 hm2 hm3 => ?_)
            have hSl := S9_le i8_315 i9_316
            have hb0_ := i8_315.2.1 0 (by omega)
            have hb1_ := i8_315.2.1 1 (by omega)
            have hb2_ := i8_315.2.1 2 (by omega)
            refine W.widen (k := 2400) (n := 84000) (by omega) (by omega) ?_
            exact W.vret hx hb hr (fun t ht hW => ⟨⟨(ad, ga_296, gc_297, M, n_299, f_300, T_270, G_302, K, F_273), rfl, ⟨(by show (C9.mk n_299 f_300 T_270 G_302 K F_273) = k_close i v2 (C9.mk n f T G K F); subst eG_219; subst ez_218; have hX := (k_close.eq_1 i v2 (C9.mk n f T G K F)).symm; (repeat (first | dsimp +instances only [c9n, c9f, c9T, c9G, c9K, c9F, b_come, b_leave, b_fill, awB, b_settle, b_wake, b_take, f_take, b_gather, f_gather, b_ask, a_ask, b_tell, c_close, d_close, k_add, k_rem, sco, k_clrF, k_mem, k_rebind, k_bnd, k_beg0, k_beg1, b_giveN, b_giveR, f_open, b_hand, k_op, b_turn, wlB, b_beat, f_anew, b_wipe, b_off, k_sadd, fits, frP, cntB, b_trace, b_child, k_lat, cond_true, cond_false, Option.elim_none, Option.elim_some, Option.getD_none, Option.getD_some] at hX | rw [← hc_288] at hX | rw [← hc_320] at hX | rw [if_pos (by first | with_reducible assumption | omega)] at hX | rw [if_neg (by first | with_reducible assumption | omega)] at hX | rw [jx_of (by omega)] at hX)); first | exact hX | (exfalso; omega) | exact hX), ⟨by show S9 M gc_297 + gc 1 ≤ S9 M gc + gc_297 1; omega, by show (n_299 0).toInt = (n 0).toInt; omega, w_287⟩⟩, ws_305, by rw [ht]; exact hP, hD, hQ, ⟨i1_308, i2_309, i3_310, i4_311, i5_312, i6_313, i7_314, i8_315, i9_316, i10_317, i11_318⟩, by rw [ht]; show hpS H + (260 * M + 2 * S9 M gc) ≤ hpS s.heap + (260 * M + 2 * S9 M gc_297); omega, by rw [ht]; show 16 * H.size + (256 * M + S9 M gc) ≤ 16 * s.heap.size + (256 * M + S9 M gc_297); omega, by show (n 0).toInt ≤ (n_299 0).toInt; omega⟩, hS.F ht⟩) hS.2.2 dX9_closeTurn_55
         · refine lv_if_eq (tgt := 55) hx hb dX9_closeTurn_47 (by decide) (fun _ => ?_) (fun c_321 => absurd c_321 (by decide))
           refine W_msr2 (fun hm1 hm2 hm3 => ?_)
           have hSl := S9_le i8_283 i9_284
           have hb0_ := i8_283.2.1 0 (by omega)
           have hb1_ := i8_283.2.1 1 (by omega)
           have hb2_ := i8_283.2.1 2 (by omega)
           refine W.widen (k := 2400) (n := 84000) (by omega) (by omega) ?_
           exact W.vret hx hb hr (fun t ht hW => ⟨⟨(ad, ga, gc, M, n, f, T_270, G_271, K, F_273), rfl, ⟨(by show (C9.mk n f T_270 G_271 K F_273) = k_close i v2 (C9.mk n f T G K F); subst eG_219; subst ez_218; have hX := (k_close.eq_1 i v2 (C9.mk n f T G K F)).symm; (repeat (first | dsimp +instances only [c9n, c9f, c9T, c9G, c9K, c9F, b_come, b_leave, b_fill, awB, b_settle, b_wake, b_take, f_take, b_gather, f_gather, b_ask, a_ask, b_tell, c_close, d_close, k_add, k_rem, sco, k_clrF, k_mem, k_rebind, k_bnd, k_beg0, k_beg1, b_giveN, b_giveR, f_open, b_hand, k_op, b_turn, wlB, b_beat, f_anew, b_wipe, b_off, k_sadd, fits, frP, cntB, b_trace, b_child, k_lat, cond_true, cond_false, Option.elim_none, Option.elim_some, Option.getD_none, Option.getD_some] at hX | rw [← hc_288] at hX | rw [if_pos (by first | with_reducible assumption | omega)] at hX | rw [if_neg (by first | with_reducible assumption | omega)] at hX | rw [jx_of (by omega)] at hX)); first | exact hX | (exfalso; omega) | exact hX), ⟨by show S9 M gc + gc 1 ≤ S9 M gc + gc 1; omega, by show (n 0).toInt = (n 0).toInt; omega, w_287⟩⟩, ws_274, by rw [ht]; exact hP, hD, hQ, ⟨i1_276, i2_277, i3_278, i4_279, i5_280, i6_281, i7_282, i8_283, i9_284, i10_285, i11_286⟩, by rw [ht]; show hpS H + (260 * M + 2 * S9 M gc) ≤ hpS s.heap + (260 * M + 2 * S9 M gc); omega, by rw [ht]; show 16 * H.size + (256 * M + S9 M gc) ≤ 16 * s.heap.size + (256 * M + S9 M gc); omega, by show (n 0).toInt ≤ (n 0).toInt; omega⟩, hS.F ht⟩) hS.2.2 dX9_closeTurn_55

set_option maxHeartbeats 8000000 in
set_option maxRecDepth 100000 in
theorem c_X4_adopt (l : Launch) (dC : Nat → ClassId) (dI : Nat → Nat → Nat) (kc : Nat → ClassId) (ws : va_W) (ad : Nat → Nat) (ga : Nat → Nat) (gc : Nat → Nat) (M : Nat) (n : Nat → Int32) (f : Nat → Nat → Int32) (T : Nat → Option Nat) (G : Nat → Nat → Int32) (K : Nat → Nat → Option Nat) (F : Nat → Nat → Nat → Int32) (R : Nat) (k : Nat) (cc : Nat) (sz hz : Nat) (hQ : Pic9 kc ws ad ga gc M n f T G K F) (hI : I9 M n f T gc G K F R) (hk : k < M) (hc : cc < M) (hcn : (cc : Int) < (n 0).toInt) (hkc : ∀ j : Nat, K k 3 = some j → j < cc) : Met l yX4_adopt (.code yX4_adopt cX4_adopt 2 none :: gw) ({ frames := 0, cells := 0, slots := 0, locals := 0 }) (va_Pc [.ref (ad (50 + 16 * k + 1)), .ref (ad (50 + 16 * cc))] (fun U => U.heap.size = sz ∧ hpS U.heap = hz ∧ va_P (dC, dI) vwCl ws U.heap ∧ va_K (dC, dI) vwCl (t9 kc) U ∧ va_D (fun _ => True) ws ∧ nx U)) (va_Qv (fun (u : (Nat → Nat) × (Nat → Nat) × (Nat → Nat) × Nat × (Nat → Int32) × (Nat → Nat → Int32) × (Nat → Option Nat) × (Nat → Nat → Int32) × (Nat → Nat → Option Nat) × (Nat → Nat → Nat → Int32)) => (C9.mk n f T u.2.2.2.2.2.2.2.1 u.2.2.2.2.2.2.2.2.1 F) = k_adopt k cc (C9.mk n f T G K F)) (fun u t => ∃ w : va_W, va_P (dC, dI) vwCl w t.heap ∧ va_D (va_A ws sz) w ∧ Pic9 kc w ad ga gc M n f T u.2.2.2.2.2.2.2.1 u.2.2.2.2.2.2.2.2.1 F ∧ I9 M n f T gc u.2.2.2.2.2.2.2.1 u.2.2.2.2.2.2.2.2.1 F R ∧ hpS t.heap + (260 * M + 2 * S9 M gc) ≤ hz + (260 * M + 2 * S9 M gc) ∧ 16 * t.heap.size + (256 * M + S9 M gc) ≤ 16 * sz + (256 * M + S9 M gc)) (va_A ws sz)) 0 0 (va_A ws sz) := by
  refine Met.ofW (cc := cX4_adopt) (maxL := 2) (ret := none) (by decide) rfl ?_
  intro p e s m args below meth c s₁ B hml hv
  obtain ⟨rfl, hsz, rfl, hP, hK, hD0, hN⟩ := hv
  have hx := B.exec
  have hb := B.bytes
  have hr := B.returns
  have hts := atoms_spec (ws := .code yX4_adopt cX4_adopt 2 none :: gw) B.pre
  have hg : ∀ w ∈ gw, w.before _ s = true := fun w h => hts w (List.mem_cons_of_mem _ h)
  have hown : s.vm.findClass RX4 = some m.cls := findClass_of_methodNamed B.named
  have hlocks := B.notSynchronized
  subst hsz
  have hD := hD0.self (sz := s.heap.size)
  generalize hAe : va_A ws s.heap.size = A at hD ⊢
  have hA : ∀ q : Nat, s.heap.size ≤ q → A q := fun q h => by rw [← hAe]; exact Or.inr h
  clear hAe
  have hS : va_S A s.heap s.heap [] := va_S.rf
  have hl := lv_entry ([.ref (ad (50 + 16 * k + 1)), .ref (ad (50 + 16 * cc))]) (n := 2) (Nat.le_of_ble_eq_true rfl)
  rw [lg_entry_eq]
  generalize (lg_sl ([.ref (ad (50 + 16 * k + 1)), .ref (ad (50 + 16 * cc))]) ++ List.replicate (2 - (lg_sl ([.ref (ad (50 + 16 * k + 1)), .ref (ad (50 + 16 * cc))])).length) Slot.unset).toArray = ls at hl ⊢
  have hl : lv_has ls 2 [(0, .ref (ad (50 + 16 * k + 1))), (1, .ref (ad (50 + 16 * cc)))] := hl
  obtain ⟨h_i1, h_i2, h_i3, h_i4, h_i5, h_i6, h_i7, h_i8, h_i9, h_i10, h_i11⟩ := id hI
  have q1_ := h_i1
  unfold i1 at q1_
  exact by
   refine lv_aload_n hx hb dX4_adopt_0 rfl (lv_at hl 0 rfl) ?_
   refine va_get (D := (dC, dI)) (ci := 4) (v := va_rf (rA9 ad (K k 3))) (C := RX4) (T := TX4) (N := 9) hx hb hg gb_4 hown hK hP (50 + 16 * k + 1) (hQ.b1 hk) rfl 6 (by decide) (hg _ gm_fieldLink_RX4_43_ErrandGuild_Kin_lastChild_LErrandGuild_Run_) (fun _ h9 => h9) rfl dX4_adopt_1 ?_
   rcases eo_1 : K k 3 with _ | j_2
   · refine W.eq (g2 := F0 m 4 ls [.null]) (by first | rfl | (rw [eo_1]; rfl)) ?_
     refine lv_ifnonnullN hx hb dX4_adopt_4 ?_
     refine lv_aload_n hx hb dX4_adopt_7 rfl (lv_at hl 0 rfl) ?_
     refine lv_aload_n hx hb dX4_adopt_8 rfl (lv_at hl 1 rfl) ?_
     refine va_put (D := (dC, dI)) (ci := 4) (v := .ref (ad (50 + 16 * cc))) (ty := .object "ErrandGuild$Run") (C := RX4) (T := TX4) (N := 9) hx hb hg gb_4 tyX4 tyX4_ok nmX4 hown hK hP hD hS (50 + 16 * k + 1) (hQ.b1 hk) rfl 5 (by decide) (hg _ gm_fieldLink_RX4_40_ErrandGuild_Kin_firstChild_LErrandGuild_Run_) (fun _ h9 => h9) rfl (by decide +kernel) rfl rfl (Nat.le_of_ble_eq_true rfl) dX4_adopt_9 (fun H locs hP hD hS => ?_)
     obtain ⟨ws_4, K_3, eK_3, hP, hD, hQ⟩ : ∃ (ws_4 : va_W) (K_3 : Nat → Nat → Option Nat), K_3 = u2 K k 2 (some cc) ∧ va_P (dC, dI) vwCl ws_4 H ∧ va_D A ws_4 ∧ Pic9 kc ws_4 ad ga gc M n f T G K_3 F := ⟨_, _, rfl, hP, hD, hQ.kinR hk 2 5 (by decide) (some cc)⟩
     have i3_5 : i3 M K_3 := by rw [eK_3]; exact i3.pK h_i3 k 2 (fun _ h => by cases h; exact hc)
     have i4_6 : i4 M K_3 := by rw [eK_3]; exact i4.pK h_i4 k _ (by decide)
     have i5_7 : i5 n K_3 := by rw [eK_3]; exact i5.pK h_i5 k _ (by decide)
     have i10_8 : i10 M G K_3 F := by rw [eK_3]; exact i10.pK h_i10 hk _ _
     exact by
      refine lv_goto (tgt := 26) hx hb dX4_adopt_12 (by decide) ?_
      refine lv_aload_n hx hb dX4_adopt_26 rfl (lv_at hl 0 rfl) ?_
      refine lv_aload_n hx hb dX4_adopt_27 rfl (lv_at hl 1 rfl) ?_
      refine va_put (D := (dC, dI)) (ci := 4) (v := .ref (ad (50 + 16 * cc))) (ty := .object "ErrandGuild$Run") (C := RX4) (T := TX4) (N := 9) hx hb hg gb_4 tyX4 tyX4_ok nmX4 hown hK hP hD hS (50 + 16 * k + 1) (hQ.b1 hk) rfl 6 (by decide) (hg _ gm_fieldLink_RX4_43_ErrandGuild_Kin_lastChild_LErrandGuild_Run_) (fun _ h9 => h9) rfl (by decide +kernel) rfl rfl (Nat.le_of_ble_eq_true rfl) dX4_adopt_28 (fun H locs hP hD hS => ?_)
      obtain ⟨ws_10, K_9, eK_9, hP, hD, hQ⟩ : ∃ (ws_10 : va_W) (K_9 : Nat → Nat → Option Nat), K_9 = u2 K_3 k 3 (some cc) ∧ va_P (dC, dI) vwCl ws_10 H ∧ va_D A ws_10 ∧ Pic9 kc ws_10 ad ga gc M n f T G K_9 F := ⟨_, _, rfl, hP, hD, hQ.kinR hk 3 6 (by decide) (some cc)⟩
      have i3_11 : i3 M K_9 := by rw [eK_9]; exact i3.pK i3_5 k 3 (fun _ h => by cases h; exact hc)
      have i4_12 : i4 M K_9 := by rw [eK_9]; exact i4.pK i4_6 k _ (by decide)
      have i5_13 : i5 n K_9 := by rw [eK_9]; exact i5.K3 i5_7 k (fun _ h _ => by cases h; omega)
      have i10_14 : i10 M G K_9 F := by rw [eK_9]; exact i10.pK i10_8 hk _ _
      refine lv_aload_n hx hb dX4_adopt_31 rfl (lv_at hl 0 rfl) ?_
      refine lv_dup hx hb dX4_adopt_32 rfl ?_
      refine va_get (D := (dC, dI)) (ci := 4) (v := .int (G k 13)) (C := RX4) (T := TX4) (N := 9) hx hb hg gb_4 hown hK hP (50 + 16 * k + 1) (hQ.b1 hk) rfl 8 (by decide) (hg _ gm_fieldLink_RX4_49_ErrandGuild_Kin_children_I_) (fun _ h9 => h9) rfl dX4_adopt_33 ?_
      exact by
       refine lv_iconst (v := 1) hx hb dX4_adopt_36 (by decide) ?_
       refine lv_iadd hx hb dX4_adopt_37 ?_
       refine lv_topi (fun z_15 ez_15 => ?_)
       refine va_put (D := (dC, dI)) (ci := 4) (v := .int (z_15)) (ty := .int) (C := RX4) (T := TX4) (N := 9) hx hb hg gb_4 tyX4 tyX4_ok nmX4 hown hK hP hD hS (50 + 16 * k + 1) (hQ.b1 hk) rfl 8 (by decide) (hg _ gm_fieldLink_RX4_49_ErrandGuild_Kin_children_I_) (fun _ h9 => h9) rfl (by decide +kernel) rfl rfl (Nat.le_of_ble_eq_true rfl) dX4_adopt_38 (fun H locs hP hD hS => ?_)
       obtain ⟨ws_17, G_16, eG_16, hP, hD, hQ⟩ : ∃ (ws_17 : va_W) (G_16 : Nat → Nat → Int32), G_16 = u2 G k 13 z_15 ∧ va_P (dC, dI) vwCl ws_17 H ∧ va_D A ws_17 ∧ Pic9 kc ws_17 ad ga gc M n f T G_16 K_9 F := ⟨_, _, rfl, hP, hD, hQ.kinI hk 13 8 (by decide) z_15⟩
       have i10_18 : i10 M G_16 K_9 F := by rw [eG_16]; exact (i10.pG i10_14 hk _ (by decide))
       have i11_19 : i11 M n gc f G_16 F := by rw [eG_16]; exact (i11.pG h_i11 k _ (by decide))
       have i6_20 : i6 n T G_16 := by rw [eG_16]; exact (i6.pG h_i6 k _ (by decide))
       have i7_21 : i7 n G_16 := by rw [eG_16]; exact (i7.pG h_i7 k _ (by decide))
       have i8_22 : i8 M n gc G_16 := by rw [eG_16]; exact (i8.pG h_i8 k _ (by decide))
       have i9_23 : i9 M gc G_16 R := by rw [eG_16]; exact (i9.pG h_i9 k _ (by decide))
       have eg_24 : G_16 k 13 = z_15 := by rw [eG_16, u2_eq]
       refine W_msr2 (fun hm1 hm2 hm3 => ?_)
       exact W.vret hx hb hr (fun t ht hW => ⟨⟨(ad, ga, gc, M, n, f, T, G_16, K_9, F), rfl, (by show (C9.mk n f T G_16 K_9 F) = k_adopt k cc (C9.mk n f T G K F); subst eK_3; subst eK_9; subst eG_16; subst ez_15; have hX := (k_adopt.eq_1 k cc (C9.mk n f T G K F)).symm; (repeat (first | dsimp +instances only [c9n, c9f, c9T, c9G, c9K, c9F, b_come, b_leave, b_fill, awB, b_settle, b_wake, b_take, f_take, b_gather, f_gather, b_ask, a_ask, b_tell, c_close, d_close, k_add, k_rem, sco, k_clrF, k_mem, k_rebind, k_bnd, k_beg0, k_beg1, b_giveN, b_giveR, f_open, b_hand, k_op, b_turn, wlB, b_beat, f_anew, b_wipe, b_off, k_sadd, fits, frP, cntB, b_trace, b_child, k_lat, cond_true, cond_false, Option.elim_none, Option.elim_some, Option.getD_none, Option.getD_some] at hX | rw [eo_1] at hX | rw [if_pos (by first | with_reducible assumption | omega)] at hX | rw [if_neg (by first | with_reducible assumption | omega)] at hX | rw [jx_of (by omega)] at hX)); first | exact hX | (exfalso; omega) | exact hX), ws_17, by rw [ht]; exact hP, hD, hQ, ⟨h_i1, h_i2, i3_11, i4_12, i5_13, i6_20, i7_21, i8_22, i9_23, i10_18, i11_19⟩, by rw [ht]; show hpS H + (260 * M + 2 * S9 M gc) ≤ hpS s.heap + (260 * M + 2 * S9 M gc); omega, by rw [ht]; show 16 * H.size + (256 * M + S9 M gc) ≤ 16 * s.heap.size + (256 * M + S9 M gc); omega⟩, hS.F ht⟩) hS.2.2 dX4_adopt_41
   · refine W.eq (g2 := F0 m 4 ls [.ref (ad (50 + 16 * j_2))]) (by first | rfl | (rw [eo_1]; rfl)) ?_
     have hj_2 : j_2 < M := h_i3 _ _ _ hk eo_1
     refine lv_ifnonnull (tgt := 15) hx hb dX4_adopt_4 (by decide) ?_
     refine lv_aload_n hx hb dX4_adopt_15 rfl (lv_at hl 0 rfl) ?_
     refine va_get (D := (dC, dI)) (ci := 4) (v := va_rf (rA9 ad (K k 3))) (C := RX4) (T := TX4) (N := 9) hx hb hg gb_4 hown hK hP (50 + 16 * k + 1) (hQ.b1 hk) rfl 6 (by decide) (hg _ gm_fieldLink_RX4_43_ErrandGuild_Kin_lastChild_LErrandGuild_Run_) (fun _ h9 => h9) rfl dX4_adopt_16 ?_
     refine W.eq (g2 := F0 m 19 ls [.ref (ad (50 + 16 * j_2))]) (by rw [eo_1]; rfl) ?_
     refine va_get (D := (dC, dI)) (ci := 7) (v := .ref (ad (50 + 16 * j_2 + 1))) (C := RX7) (T := TX7) (N := 15) hx hb hg gb_7 hown hK hP (50 + 16 * j_2) (hQ.b0 hj_2) rfl 10 (by decide) (hg _ gm_fieldLink_RX4_23_ErrandGuild_Run_kin_LErrandGuild_Kin_) (fun _ h9 => h9) rfl dX4_adopt_19 ?_
     refine lv_aload_n hx hb dX4_adopt_22 rfl (lv_at hl 1 rfl) ?_
     refine va_put (D := (dC, dI)) (ci := 4) (v := .ref (ad (50 + 16 * cc))) (ty := .object "ErrandGuild$Run") (C := RX4) (T := TX4) (N := 9) hx hb hg gb_4 tyX4 tyX4_ok nmX4 hown hK hP hD hS (50 + 16 * j_2 + 1) (hQ.b1 hj_2) rfl 7 (by decide) (hg _ gm_fieldLink_RX4_46_ErrandGuild_Kin_nextSibling_LErrandGuild_Run_) (fun _ h9 => h9) rfl (by decide +kernel) rfl rfl (Nat.le_of_ble_eq_true rfl) dX4_adopt_23 (fun H locs hP hD hS => ?_)
     obtain ⟨ws_26, K_25, eK_25, hP, hD, hQ⟩ : ∃ (ws_26 : va_W) (K_25 : Nat → Nat → Option Nat), K_25 = u2 K j_2 4 (some cc) ∧ va_P (dC, dI) vwCl ws_26 H ∧ va_D A ws_26 ∧ Pic9 kc ws_26 ad ga gc M n f T G K_25 F := ⟨_, _, rfl, hP, hD, hQ.kinR hj_2 4 7 (by decide) (some cc)⟩
     have i3_27 : i3 M K_25 := by rw [eK_25]; exact i3.pK h_i3 j_2 4 (fun _ h => by cases h; exact hc)
     have i4_28 : i4 M K_25 := by rw [eK_25]; exact i4.K4 h_i4 j_2 (fun _ h => by cases h; exact hkc _ eo_1)
     have i5_29 : i5 n K_25 := by rw [eK_25]; exact i5.pK h_i5 j_2 _ (by decide)
     have i10_30 : i10 M G K_25 F := by rw [eK_25]; exact i10.pK h_i10 hj_2 _ _
     exact by
      refine lv_aload_n hx hb dX4_adopt_26 rfl (lv_at hl 0 rfl) ?_
      refine lv_aload_n hx hb dX4_adopt_27 rfl (lv_at hl 1 rfl) ?_
      refine va_put (D := (dC, dI)) (ci := 4) (v := .ref (ad (50 + 16 * cc))) (ty := .object "ErrandGuild$Run") (C := RX4) (T := TX4) (N := 9) hx hb hg gb_4 tyX4 tyX4_ok nmX4 hown hK hP hD hS (50 + 16 * k + 1) (hQ.b1 hk) rfl 6 (by decide) (hg _ gm_fieldLink_RX4_43_ErrandGuild_Kin_lastChild_LErrandGuild_Run_) (fun _ h9 => h9) rfl (by decide +kernel) rfl rfl (Nat.le_of_ble_eq_true rfl) dX4_adopt_28 (fun H locs hP hD hS => ?_)
      obtain ⟨ws_32, K_31, eK_31, hP, hD, hQ⟩ : ∃ (ws_32 : va_W) (K_31 : Nat → Nat → Option Nat), K_31 = u2 K_25 k 3 (some cc) ∧ va_P (dC, dI) vwCl ws_32 H ∧ va_D A ws_32 ∧ Pic9 kc ws_32 ad ga gc M n f T G K_31 F := ⟨_, _, rfl, hP, hD, hQ.kinR hk 3 6 (by decide) (some cc)⟩
      have i3_33 : i3 M K_31 := by rw [eK_31]; exact i3.pK i3_27 k 3 (fun _ h => by cases h; exact hc)
      have i4_34 : i4 M K_31 := by rw [eK_31]; exact i4.pK i4_28 k _ (by decide)
      have i5_35 : i5 n K_31 := by rw [eK_31]; exact i5.K3 i5_29 k (fun _ h _ => by cases h; omega)
      have i10_36 : i10 M G K_31 F := by rw [eK_31]; exact i10.pK i10_30 hk _ _
      refine lv_aload_n hx hb dX4_adopt_31 rfl (lv_at hl 0 rfl) ?_
      refine lv_dup hx hb dX4_adopt_32 rfl ?_
      refine va_get (D := (dC, dI)) (ci := 4) (v := .int (G k 13)) (C := RX4) (T := TX4) (N := 9) hx hb hg gb_4 hown hK hP (50 + 16 * k + 1) (hQ.b1 hk) rfl 8 (by decide) (hg _ gm_fieldLink_RX4_49_ErrandGuild_Kin_children_I_) (fun _ h9 => h9) rfl dX4_adopt_33 ?_
      refine lv_iconst (v := 1) hx hb dX4_adopt_36 (by decide) ?_
      exact by
       refine lv_iadd hx hb dX4_adopt_37 ?_
       refine lv_topi (fun z_37 ez_37 => ?_)
       refine va_put (D := (dC, dI)) (ci := 4) (v := .int (z_37)) (ty := .int) (C := RX4) (T := TX4) (N := 9) hx hb hg gb_4 tyX4 tyX4_ok nmX4 hown hK hP hD hS (50 + 16 * k + 1) (hQ.b1 hk) rfl 8 (by decide) (hg _ gm_fieldLink_RX4_49_ErrandGuild_Kin_children_I_) (fun _ h9 => h9) rfl (by decide +kernel) rfl rfl (Nat.le_of_ble_eq_true rfl) dX4_adopt_38 (fun H locs hP hD hS => ?_)
       obtain ⟨ws_39, G_38, eG_38, hP, hD, hQ⟩ : ∃ (ws_39 : va_W) (G_38 : Nat → Nat → Int32), G_38 = u2 G k 13 z_37 ∧ va_P (dC, dI) vwCl ws_39 H ∧ va_D A ws_39 ∧ Pic9 kc ws_39 ad ga gc M n f T G_38 K_31 F := ⟨_, _, rfl, hP, hD, hQ.kinI hk 13 8 (by decide) z_37⟩
       have i10_40 : i10 M G_38 K_31 F := by rw [eG_38]; exact (i10.pG i10_36 hk _ (by decide))
       have i11_41 : i11 M n gc f G_38 F := by rw [eG_38]; exact (i11.pG h_i11 k _ (by decide))
       have i6_42 : i6 n T G_38 := by rw [eG_38]; exact (i6.pG h_i6 k _ (by decide))
       have i7_43 : i7 n G_38 := by rw [eG_38]; exact (i7.pG h_i7 k _ (by decide))
       have i8_44 : i8 M n gc G_38 := by rw [eG_38]; exact (i8.pG h_i8 k _ (by decide))
       have i9_45 : i9 M gc G_38 R := by rw [eG_38]; exact (i9.pG h_i9 k _ (by decide))
       have eg_46 : G_38 k 13 = z_37 := by rw [eG_38, u2_eq]
       refine W_msr2 (fun hm1 hm2 hm3 => ?_)
       exact W.vret hx hb hr (fun t ht hW => ⟨⟨(ad, ga, gc, M, n, f, T, G_38, K_31, F), rfl, (by show (C9.mk n f T G_38 K_31 F) = k_adopt k cc (C9.mk n f T G K F); subst eK_25; subst eK_31; subst eG_38; subst ez_37; have hX := (k_adopt.eq_1 k cc (C9.mk n f T G K F)).symm; (repeat (first | dsimp +instances only [c9n, c9f, c9T, c9G, c9K, c9F, b_come, b_leave, b_fill, awB, b_settle, b_wake, b_take, f_take, b_gather, f_gather, b_ask, a_ask, b_tell, c_close, d_close, k_add, k_rem, sco, k_clrF, k_mem, k_rebind, k_bnd, k_beg0, k_beg1, b_giveN, b_giveR, f_open, b_hand, k_op, b_turn, wlB, b_beat, f_anew, b_wipe, b_off, k_sadd, fits, frP, cntB, b_trace, b_child, k_lat, cond_true, cond_false, Option.elim_none, Option.elim_some, Option.getD_none, Option.getD_some] at hX | rw [eo_1] at hX | rw [if_pos (by first | with_reducible assumption | omega)] at hX | rw [if_neg (by first | with_reducible assumption | omega)] at hX | rw [jx_of (by omega)] at hX)); first | exact hX | (exfalso; omega) | exact hX), ws_39, by rw [ht]; exact hP, hD, hQ, ⟨h_i1, h_i2, i3_33, i4_34, i5_35, i6_42, i7_43, i8_44, i9_45, i10_40, i11_41⟩, by rw [ht]; show hpS H + (260 * M + 2 * S9 M gc) ≤ hpS s.heap + (260 * M + 2 * S9 M gc); omega, by rw [ht]; show 16 * H.size + (256 * M + S9 M gc) ≤ 16 * s.heap.size + (256 * M + S9 M gc); omega⟩, hS.F ht⟩) hS.2.2 dX4_adopt_41

set_option maxHeartbeats 8000000 in
set_option maxRecDepth 100000 in
theorem c_X4_begin_n (l : Launch) (dC : Nat → ClassId) (dI : Nat → Nat → Nat) (kc : Nat → ClassId) (ws : va_W) (ad : Nat → Nat) (ga : Nat → Nat) (gc : Nat → Nat) (M : Nat) (n : Nat → Int32) (f : Nat → Nat → Int32) (T : Nat → Option Nat) (G : Nat → Nat → Int32) (K : Nat → Nat → Option Nat) (F : Nat → Nat → Nat → Int32) (R : Nat) (i : Nat) (sz hz : Nat) (hQ : Pic9 kc ws ad ga gc M n f T G K F) (hI : I9 M n f T gc G K F R) (hi : i < M) : Met l yX4_begin (.code yX4_begin cX4_begin 2 none :: gw) ({ frames := 0, cells := 0, slots := 0, locals := 0 }) (va_Pc [.ref (ad (50 + 16 * i + 1)), .null] (fun U => U.heap.size = sz ∧ hpS U.heap = hz ∧ va_P (dC, dI) vwCl ws U.heap ∧ va_K (dC, dI) vwCl (t9 kc) U ∧ va_D (fun _ => True) ws ∧ nx U)) (va_Qv (fun (u : (Nat → Nat) × (Nat → Nat) × (Nat → Nat) × Nat × (Nat → Int32) × (Nat → Nat → Int32) × (Nat → Option Nat) × (Nat → Nat → Int32) × (Nat → Nat → Option Nat) × (Nat → Nat → Nat → Int32)) => (C9.mk n f T u.2.2.2.2.2.2.2.1 u.2.2.2.2.2.2.2.2.1 F) = k_kinN i (C9.mk n f T G K F) ∧ (∀ a : Nat, u.2.2.2.2.2.2.2.1 a 2 = G a 2) ∧ (∀ a : Nat, u.2.2.2.2.2.2.2.1 a 3 = G a 3) ∧ u.2.2.2.2.2.2.2.2.1 i 3 = none ∧ (∀ a : Nat, a ≠ i → u.2.2.2.2.2.2.2.2.1 a = K a)) (fun u t => ∃ w : va_W, va_P (dC, dI) vwCl w t.heap ∧ va_D (va_A ws sz) w ∧ Pic9 kc w ad ga gc M n f T u.2.2.2.2.2.2.2.1 u.2.2.2.2.2.2.2.2.1 F ∧ I9 M n f T gc u.2.2.2.2.2.2.2.1 u.2.2.2.2.2.2.2.2.1 F R ∧ hpS t.heap + (260 * M + 2 * S9 M gc) ≤ hz + (260 * M + 2 * S9 M gc) ∧ 16 * t.heap.size + (256 * M + S9 M gc) ≤ 16 * sz + (256 * M + S9 M gc)) (va_A ws sz)) 0 0 (va_A ws sz) := by
  refine Met.ofW (cc := cX4_begin) (maxL := 2) (ret := none) (by decide) rfl ?_
  intro p e s m args below meth c s₁ B hml hv
  obtain ⟨rfl, hsz, rfl, hP, hK, hD0, hN⟩ := hv
  have hx := B.exec
  have hb := B.bytes
  have hr := B.returns
  have hts := atoms_spec (ws := .code yX4_begin cX4_begin 2 none :: gw) B.pre
  have hg : ∀ w ∈ gw, w.before _ s = true := fun w h => hts w (List.mem_cons_of_mem _ h)
  have hown : s.vm.findClass RX4 = some m.cls := findClass_of_methodNamed B.named
  have hlocks := B.notSynchronized
  subst hsz
  have hD := hD0.self (sz := s.heap.size)
  generalize hAe : va_A ws s.heap.size = A at hD ⊢
  have hA : ∀ q : Nat, s.heap.size ≤ q → A q := fun q h => by rw [← hAe]; exact Or.inr h
  clear hAe
  have hS : va_S A s.heap s.heap [] := va_S.rf
  have hl := lv_entry ([.ref (ad (50 + 16 * i + 1)), .null]) (n := 2) (Nat.le_of_ble_eq_true rfl)
  rw [lg_entry_eq]
  generalize (lg_sl ([.ref (ad (50 + 16 * i + 1)), .null]) ++ List.replicate (2 - (lg_sl ([.ref (ad (50 + 16 * i + 1)), .null])).length) Slot.unset).toArray = ls at hl ⊢
  have hl : lv_has ls 2 [(0, .ref (ad (50 + 16 * i + 1))), (1, .null)] := hl
  obtain ⟨h_i1, h_i2, h_i3, h_i4, h_i5, h_i6, h_i7, h_i8, h_i9, h_i10, h_i11⟩ := id hI
  have q1_ := h_i1
  unfold i1 at q1_
  exact by
   refine lv_aload_n hx hb dX4_begin_0 rfl (lv_at hl 0 rfl) ?_
   refine lv_aload_nN hx hb dX4_begin_1 rfl (lv_at hl 1 rfl) ?_
   refine va_put (D := (dC, dI)) (ci := 4) (v := .null) (ty := .object "ErrandGuild$Run") (C := RX4) (T := TX4) (N := 9) hx hb hg gb_4 tyX4 tyX4_ok nmX4 hown hK hP hD hS (50 + 16 * i + 1) (hQ.b1 hi) rfl 0 (by decide) (hg _ gm_fieldLink_RX4_9_ErrandGuild_Kin_giver_LErrandGuild_Run_) (fun _ h9 => h9) rfl (by decide +kernel) rfl rfl (Nat.le_of_ble_eq_true rfl) dX4_begin_2 (fun H locs hP hD hS => ?_)
   obtain ⟨ws_2, K_1, eK_1, hP, hD, hQ⟩ : ∃ (ws_2 : va_W) (K_1 : Nat → Nat → Option Nat), K_1 = u2 K i 0 none ∧ va_P (dC, dI) vwCl ws_2 H ∧ va_D A ws_2 ∧ Pic9 kc ws_2 ad ga gc M n f T G K_1 F := ⟨_, _, rfl, hP, hD, hQ.kinR hi 0 0 (by decide) none⟩
   have i3_3 : i3 M K_1 := by rw [eK_1]; exact i3.pK h_i3 i 0 (fun _ h => by cases h)
   have i4_4 : i4 M K_1 := by rw [eK_1]; exact i4.pK h_i4 i _ (by decide)
   have i5_5 : i5 n K_1 := by rw [eK_1]; exact i5.pK h_i5 i _ (by decide)
   have i10_6 : i10 M G K_1 F := by rw [eK_1]; exact i10.pK h_i10 hi _ _
   refine lv_aload_n hx hb dX4_begin_5 rfl (lv_at hl 0 rfl) ?_
   refine lv_aload_nN hx hb dX4_begin_6 rfl (lv_at hl 1 rfl) ?_
   refine lv_ifnonnullN hx hb dX4_begin_7 ?_
   refine lv_null hx hb dX4_begin_10 ?_
   exact by
    refine lv_goto (tgt := 18) hx hb dX4_begin_11 (by decide) ?_
    refine va_put (D := (dC, dI)) (ci := 4) (v := .null) (ty := .object "ErrandGuild$Run") (C := RX4) (T := TX4) (N := 9) hx hb hg gb_4 tyX4 tyX4_ok nmX4 hown hK hP hD hS (50 + 16 * i + 1) (hQ.b1 hi) rfl 1 (by decide) (hg _ gm_fieldLink_RX4_21_ErrandGuild_Kin_root_LErrandGuild_Run_) (fun _ h9 => h9) rfl (by decide +kernel) rfl rfl (Nat.le_of_ble_eq_true rfl) dX4_begin_18 (fun H locs hP hD hS => ?_)
    obtain ⟨ws_8, K_7, eK_7, hP, hD, hQ⟩ : ∃ (ws_8 : va_W) (K_7 : Nat → Nat → Option Nat), K_7 = u2 K_1 i 1 none ∧ va_P (dC, dI) vwCl ws_8 H ∧ va_D A ws_8 ∧ Pic9 kc ws_8 ad ga gc M n f T G K_7 F := ⟨_, _, rfl, hP, hD, hQ.kinR hi 1 1 (by decide) none⟩
    have i3_9 : i3 M K_7 := by rw [eK_7]; exact i3.pK i3_3 i 1 (fun _ h => by cases h)
    have i4_10 : i4 M K_7 := by rw [eK_7]; exact i4.pK i4_4 i _ (by decide)
    have i5_11 : i5 n K_7 := by rw [eK_7]; exact i5.pK i5_5 i _ (by decide)
    have i10_12 : i10 M G K_7 F := by rw [eK_7]; exact i10.pK i10_6 hi _ _
    refine lv_aload_n hx hb dX4_begin_21 rfl (lv_at hl 0 rfl) ?_
    refine lv_aload_nN hx hb dX4_begin_22 rfl (lv_at hl 1 rfl) ?_
    refine lv_ifnonnullN hx hb dX4_begin_23 ?_
    refine lv_iconst (v := 0) hx hb dX4_begin_26 (by decide) ?_
    refine lv_goto (tgt := 39) hx hb dX4_begin_27 (by decide) ?_
    exact by
     refine va_put (D := (dC, dI)) (ci := 4) (v := .int (0)) (ty := .int) (C := RX4) (T := TX4) (N := 9) hx hb hg gb_4 tyX4 tyX4_ok nmX4 hown hK hP hD hS (50 + 16 * i + 1) (hQ.b1 hi) rfl 2 (by decide) (hg _ gm_fieldLink_RX4_27_ErrandGuild_Kin_depth_I_) (fun _ h9 => h9) rfl (by decide +kernel) rfl rfl (Nat.le_of_ble_eq_true rfl) dX4_begin_39 (fun H locs hP hD hS => ?_)
     obtain ⟨ws_14, G_13, eG_13, hP, hD, hQ⟩ : ∃ (ws_14 : va_W) (G_13 : Nat → Nat → Int32), G_13 = u2 G i 10 0 ∧ va_P (dC, dI) vwCl ws_14 H ∧ va_D A ws_14 ∧ Pic9 kc ws_14 ad ga gc M n f T G_13 K_7 F := ⟨_, _, rfl, hP, hD, hQ.kinI hi 10 2 (by decide) 0⟩
     have i10_15 : i10 M G_13 K_7 F := by rw [eG_13]; exact (i10.pG i10_12 hi _ (by decide))
     have i11_16 : i11 M n gc f G_13 F := by rw [eG_13]; exact (i11.pG h_i11 i _ (by decide))
     have i6_17 : i6 n T G_13 := by rw [eG_13]; exact (i6.pG h_i6 i _ (by decide))
     have i7_18 : i7 n G_13 := by rw [eG_13]; exact (i7.pG h_i7 i _ (by decide))
     have i8_19 : i8 M n gc G_13 := by rw [eG_13]; exact (i8.pG h_i8 i _ (by decide))
     have i9_20 : i9 M gc G_13 R := by rw [eG_13]; exact (i9.pG h_i9 i _ (by decide))
     have eg_21 : G_13 i 10 = 0 := by rw [eG_13, u2_eq]
     refine lv_aload_n hx hb dX4_begin_42 rfl (lv_at hl 0 rfl) ?_
     refine lv_aload_nN hx hb dX4_begin_43 rfl (lv_at hl 1 rfl) ?_
     refine lv_ifnonnullN hx hb dX4_begin_44 ?_
     exact by
      refine lv_iconst (v := 0) hx hb dX4_begin_47 (by decide) ?_
      refine lv_goto (tgt := 55) hx hb dX4_begin_48 (by decide) ?_
      refine va_put (D := (dC, dI)) (ci := 4) (v := .int (0)) (ty := .int) (C := RX4) (T := TX4) (N := 9) hx hb hg gb_4 tyX4 tyX4_ok nmX4 hown hK hP hD hS (50 + 16 * i + 1) (hQ.b1 hi) rfl 3 (by decide) (hg _ gm_fieldLink_RX4_34_ErrandGuild_Kin_handedAt_I_) (fun _ h9 => h9) rfl (by decide +kernel) rfl rfl (Nat.le_of_ble_eq_true rfl) dX4_begin_55 (fun H locs hP hD hS => ?_)
      obtain ⟨ws_23, G_22, eG_22, hP, hD, hQ⟩ : ∃ (ws_23 : va_W) (G_22 : Nat → Nat → Int32), G_22 = u2 G_13 i 11 0 ∧ va_P (dC, dI) vwCl ws_23 H ∧ va_D A ws_23 ∧ Pic9 kc ws_23 ad ga gc M n f T G_22 K_7 F := ⟨_, _, rfl, hP, hD, hQ.kinI hi 11 3 (by decide) 0⟩
      have i10_24 : i10 M G_22 K_7 F := by rw [eG_22]; exact (i10.pG i10_15 hi _ (by decide))
      have i11_25 : i11 M n gc f G_22 F := by rw [eG_22]; exact (i11.pG i11_16 i _ (by decide))
      have i6_26 : i6 n T G_22 := by rw [eG_22]; exact (i6.pG i6_17 i _ (by decide))
      have i7_27 : i7 n G_22 := by rw [eG_22]; exact (i7.pG i7_18 i _ (by decide))
      have i8_28 : i8 M n gc G_22 := by rw [eG_22]; exact (i8.pG i8_19 i _ (by decide))
      have i9_29 : i9 M gc G_22 R := by rw [eG_22]; exact (i9.pG i9_20 i _ (by decide))
      have eg_30 : G_22 i 11 = 0 := by rw [eG_22, u2_eq]
      refine lv_aload_n hx hb dX4_begin_58 rfl (lv_at hl 0 rfl) ?_
      exact by
       refine lv_iconst (v := 0) hx hb dX4_begin_59 (by decide) ?_
       refine va_put (D := (dC, dI)) (ci := 4) (v := .int (0)) (ty := .int) (C := RX4) (T := TX4) (N := 9) hx hb hg gb_4 tyX4 tyX4_ok nmX4 hown hK hP hD hS (50 + 16 * i + 1) (hQ.b1 hi) rfl 4 (by decide) (hg _ gm_fieldLink_RX4_37_ErrandGuild_Kin_claim_I_) (fun _ h9 => h9) rfl (by decide +kernel) rfl rfl (Nat.le_of_ble_eq_true rfl) dX4_begin_60 (fun H locs hP hD hS => ?_)
       obtain ⟨ws_32, G_31, eG_31, hP, hD, hQ⟩ : ∃ (ws_32 : va_W) (G_31 : Nat → Nat → Int32), G_31 = u2 G_22 i 12 0 ∧ va_P (dC, dI) vwCl ws_32 H ∧ va_D A ws_32 ∧ Pic9 kc ws_32 ad ga gc M n f T G_31 K_7 F := ⟨_, _, rfl, hP, hD, hQ.kinI hi 12 4 (by decide) 0⟩
       have i10_33 : i10 M G_31 K_7 F := by rw [eG_31]; exact (i10.pG i10_24 hi _ (by decide))
       have i11_34 : i11 M n gc f G_31 F := by rw [eG_31]; exact (i11.pG i11_25 i _ (by decide))
       have i6_35 : i6 n T G_31 := by rw [eG_31]; exact (i6.pG i6_26 i _ (by decide))
       have i7_36 : i7 n G_31 := by rw [eG_31]; exact (i7.pG i7_27 i _ (by decide))
       have i8_37 : i8 M n gc G_31 := by rw [eG_31]; exact (i8.pG i8_28 i _ (by decide))
       have i9_38 : i9 M gc G_31 R := by rw [eG_31]; exact (i9.pG i9_29 i _ (by decide))
       have eg_39 : G_31 i 12 = 0 := by rw [eG_31, u2_eq]
       refine lv_aload_n hx hb dX4_begin_63 rfl (lv_at hl 0 rfl) ?_
       refine lv_null hx hb dX4_begin_64 ?_
       exact by
        refine va_put (D := (dC, dI)) (ci := 4) (v := .null) (ty := .object "ErrandGuild$Run") (C := RX4) (T := TX4) (N := 9) hx hb hg gb_4 tyX4 tyX4_ok nmX4 hown hK hP hD hS (50 + 16 * i + 1) (hQ.b1 hi) rfl 5 (by decide) (hg _ gm_fieldLink_RX4_40_ErrandGuild_Kin_firstChild_LErrandGuild_Run_) (fun _ h9 => h9) rfl (by decide +kernel) rfl rfl (Nat.le_of_ble_eq_true rfl) dX4_begin_65 (fun H locs hP hD hS => ?_)
        obtain ⟨ws_41, K_40, eK_40, hP, hD, hQ⟩ : ∃ (ws_41 : va_W) (K_40 : Nat → Nat → Option Nat), K_40 = u2 K_7 i 2 none ∧ va_P (dC, dI) vwCl ws_41 H ∧ va_D A ws_41 ∧ Pic9 kc ws_41 ad ga gc M n f T G_31 K_40 F := ⟨_, _, rfl, hP, hD, hQ.kinR hi 2 5 (by decide) none⟩
        have i3_42 : i3 M K_40 := by rw [eK_40]; exact i3.pK i3_9 i 2 (fun _ h => by cases h)
        have i4_43 : i4 M K_40 := by rw [eK_40]; exact i4.pK i4_10 i _ (by decide)
        have i5_44 : i5 n K_40 := by rw [eK_40]; exact i5.pK i5_11 i _ (by decide)
        have i10_45 : i10 M G_31 K_40 F := by rw [eK_40]; exact i10.pK i10_33 hi _ _
        refine lv_aload_n hx hb dX4_begin_68 rfl (lv_at hl 0 rfl) ?_
        refine lv_null hx hb dX4_begin_69 ?_
        refine va_put (D := (dC, dI)) (ci := 4) (v := .null) (ty := .object "ErrandGuild$Run") (C := RX4) (T := TX4) (N := 9) hx hb hg gb_4 tyX4 tyX4_ok nmX4 hown hK hP hD hS (50 + 16 * i + 1) (hQ.b1 hi) rfl 6 (by decide) (hg _ gm_fieldLink_RX4_43_ErrandGuild_Kin_lastChild_LErrandGuild_Run_) (fun _ h9 => h9) rfl (by decide +kernel) rfl rfl (Nat.le_of_ble_eq_true rfl) dX4_begin_70 (fun H locs hP hD hS => ?_)
        obtain ⟨ws_47, K_46, eK_46, hP, hD, hQ⟩ : ∃ (ws_47 : va_W) (K_46 : Nat → Nat → Option Nat), K_46 = u2 K_40 i 3 none ∧ va_P (dC, dI) vwCl ws_47 H ∧ va_D A ws_47 ∧ Pic9 kc ws_47 ad ga gc M n f T G_31 K_46 F := ⟨_, _, rfl, hP, hD, hQ.kinR hi 3 6 (by decide) none⟩
        have i3_48 : i3 M K_46 := by rw [eK_46]; exact i3.pK i3_42 i 3 (fun _ h => by cases h)
        have i4_49 : i4 M K_46 := by rw [eK_46]; exact i4.pK i4_43 i _ (by decide)
        have i5_50 : i5 n K_46 := by rw [eK_46]; exact i5.K3 i5_44 i (fun _ h => by cases h)
        have i10_51 : i10 M G_31 K_46 F := by rw [eK_46]; exact i10.pK i10_45 hi _ _
        exact by
         refine lv_aload_n hx hb dX4_begin_73 rfl (lv_at hl 0 rfl) ?_
         refine lv_null hx hb dX4_begin_74 ?_
         refine va_put (D := (dC, dI)) (ci := 4) (v := .null) (ty := .object "ErrandGuild$Run") (C := RX4) (T := TX4) (N := 9) hx hb hg gb_4 tyX4 tyX4_ok nmX4 hown hK hP hD hS (50 + 16 * i + 1) (hQ.b1 hi) rfl 7 (by decide) (hg _ gm_fieldLink_RX4_46_ErrandGuild_Kin_nextSibling_LErrandGuild_Run_) (fun _ h9 => h9) rfl (by decide +kernel) rfl rfl (Nat.le_of_ble_eq_true rfl) dX4_begin_75 (fun H locs hP hD hS => ?_)
         obtain ⟨ws_53, K_52, eK_52, hP, hD, hQ⟩ : ∃ (ws_53 : va_W) (K_52 : Nat → Nat → Option Nat), K_52 = u2 K_46 i 4 none ∧ va_P (dC, dI) vwCl ws_53 H ∧ va_D A ws_53 ∧ Pic9 kc ws_53 ad ga gc M n f T G_31 K_52 F := ⟨_, _, rfl, hP, hD, hQ.kinR hi 4 7 (by decide) none⟩
         have i3_54 : i3 M K_52 := by rw [eK_52]; exact i3.pK i3_48 i 4 (fun _ h => by cases h)
         have i4_55 : i4 M K_52 := by rw [eK_52]; exact i4.K4 i4_49 i (fun _ h => by cases h)
         have i5_56 : i5 n K_52 := by rw [eK_52]; exact i5.pK i5_50 i _ (by decide)
         have i10_57 : i10 M G_31 K_52 F := by rw [eK_52]; exact i10.pK i10_51 hi _ _
         refine lv_aload_n hx hb dX4_begin_78 rfl (lv_at hl 0 rfl) ?_
         refine lv_iconst (v := 0) hx hb dX4_begin_79 (by decide) ?_
         refine va_put (D := (dC, dI)) (ci := 4) (v := .int (0)) (ty := .int) (C := RX4) (T := TX4) (N := 9) hx hb hg gb_4 tyX4 tyX4_ok nmX4 hown hK hP hD hS (50 + 16 * i + 1) (hQ.b1 hi) rfl 8 (by decide) (hg _ gm_fieldLink_RX4_49_ErrandGuild_Kin_children_I_) (fun _ h9 => h9) rfl (by decide +kernel) rfl rfl (Nat.le_of_ble_eq_true rfl) dX4_begin_80 (fun H locs hP hD hS => ?_)
         obtain ⟨ws_59, G_58, eG_58, hP, hD, hQ⟩ : ∃ (ws_59 : va_W) (G_58 : Nat → Nat → Int32), G_58 = u2 G_31 i 13 0 ∧ va_P (dC, dI) vwCl ws_59 H ∧ va_D A ws_59 ∧ Pic9 kc ws_59 ad ga gc M n f T G_58 K_52 F := ⟨_, _, rfl, hP, hD, hQ.kinI hi 13 8 (by decide) 0⟩
         have i10_60 : i10 M G_58 K_52 F := by rw [eG_58]; exact (i10.pG i10_57 hi _ (by decide))
         have i11_61 : i11 M n gc f G_58 F := by rw [eG_58]; exact (i11.pG i11_34 i _ (by decide))
         have i6_62 : i6 n T G_58 := by rw [eG_58]; exact (i6.pG i6_35 i _ (by decide))
         have i7_63 : i7 n G_58 := by rw [eG_58]; exact (i7.pG i7_36 i _ (by decide))
         have i8_64 : i8 M n gc G_58 := by rw [eG_58]; exact (i8.pG i8_37 i _ (by decide))
         have i9_65 : i9 M gc G_58 R := by rw [eG_58]; exact (i9.pG i9_38 i _ (by decide))
         have eg_66 : G_58 i 13 = 0 := by rw [eG_58, u2_eq]
         refine W_msr2 (fun hm1 hm2 hm3 => ?_)
         exact W.vret hx hb hr (fun t ht hW => ⟨⟨(ad, ga, gc, M, n, f, T, G_58, K_52, F), rfl, ⟨(by show (C9.mk n f T G_58 K_52 F) = k_kinN i (C9.mk n f T G K F); subst eK_1; subst eK_7; subst eG_13; subst eG_22; subst eG_31; subst eK_40; subst eK_46; subst eK_52; subst eG_58; have hX := (k_kinN.eq_1 i (C9.mk n f T G K F)).symm; (repeat (first | dsimp +instances only [c9n, c9f, c9T, c9G, c9K, c9F, b_come, b_leave, b_fill, awB, b_settle, b_wake, b_take, f_take, b_gather, f_gather, b_ask, a_ask, b_tell, c_close, d_close, k_add, k_rem, sco, k_clrF, k_mem, k_rebind, k_bnd, k_beg0, k_beg1, b_giveN, b_giveR, f_open, b_hand, k_op, b_turn, wlB, b_beat, f_anew, b_wipe, b_off, k_sadd, fits, frP, cntB, b_trace, b_child, k_lat, cond_true, cond_false, Option.elim_none, Option.elim_some, Option.getD_none, Option.getD_some] at hX | rw [if_pos (by first | with_reducible assumption | omega)] at hX | rw [if_neg (by first | with_reducible assumption | omega)] at hX | rw [jx_of (by omega)] at hX)); first | exact hX | (exfalso; omega) | exact hX), ⟨fun a => by show G_58 a 2 = G a 2; rw [eG_58]; (repeat rw [u2_n2 _ _ _ _ (show (2 : Nat) ≠ _ by decide)]); rw [eG_31]; (repeat rw [u2_n2 _ _ _ _ (show (2 : Nat) ≠ _ by decide)]); rw [eG_22]; (repeat rw [u2_n2 _ _ _ _ (show (2 : Nat) ≠ _ by decide)]); rw [eG_13]; (repeat rw [u2_n2 _ _ _ _ (show (2 : Nat) ≠ _ by decide)]), fun a => by show G_58 a 3 = G a 3; rw [eG_58]; (repeat rw [u2_n2 _ _ _ _ (show (3 : Nat) ≠ _ by decide)]); rw [eG_31]; (repeat rw [u2_n2 _ _ _ _ (show (3 : Nat) ≠ _ by decide)]); rw [eG_22]; (repeat rw [u2_n2 _ _ _ _ (show (3 : Nat) ≠ _ by decide)]); rw [eG_13]; (repeat rw [u2_n2 _ _ _ _ (show (3 : Nat) ≠ _ by decide)]), by show K_52 i 3 = none; rw [eK_52, u2_n2 _ _ _ _ (by decide), eK_46, u2_eq], fun a ha => by show K_52 a = K a; rw [eK_52, u2_n1 _ _ _ ha]; rw [eK_46, u2_n1 _ _ _ ha]; rw [eK_40, u2_n1 _ _ _ ha]; rw [eK_7, u2_n1 _ _ _ ha]; rw [eK_1, u2_n1 _ _ _ ha]⟩⟩, ws_59, by rw [ht]; exact hP, hD, hQ, ⟨h_i1, h_i2, i3_54, i4_55, i5_56, i6_62, i7_63, i8_64, i9_65, i10_60, i11_61⟩, by rw [ht]; show hpS H + (260 * M + 2 * S9 M gc) ≤ hpS s.heap + (260 * M + 2 * S9 M gc); omega, by rw [ht]; show 16 * H.size + (256 * M + S9 M gc) ≤ 16 * s.heap.size + (256 * M + S9 M gc); omega⟩, hS.F ht⟩) hS.2.2 dX4_begin_83

set_option maxHeartbeats 8000000 in
set_option maxRecDepth 100000 in
theorem c_X4_begin_r (l : Launch) (dC : Nat → ClassId) (dI : Nat → Nat → Nat) (kc : Nat → ClassId) (ws : va_W) (ad : Nat → Nat) (ga : Nat → Nat) (gc : Nat → Nat) (M : Nat) (n : Nat → Int32) (f : Nat → Nat → Int32) (T : Nat → Option Nat) (G : Nat → Nat → Int32) (K : Nat → Nat → Option Nat) (F : Nat → Nat → Nat → Int32) (R : Nat) (i : Nat) (q : Nat) (sz hz : Nat) (hQ : Pic9 kc ws ad ga gc M n f T G K F) (hI : I9 M n f T gc G K F R) (hi : i < M) (hq : q < M) : Met l yX4_begin (.code yX4_begin cX4_begin 2 none :: gw) ({ frames := 1, cells := 0, slots := 0, locals := 20 }) (va_Pc [.ref (ad (50 + 16 * i + 1)), .ref (ad (50 + 16 * q))] (fun U => U.heap.size = sz ∧ hpS U.heap = hz ∧ va_P (dC, dI) vwCl ws U.heap ∧ va_K (dC, dI) vwCl (t9 kc) U ∧ va_D (fun _ => True) ws ∧ nx U)) (va_Qv (fun (u : (Nat → Nat) × (Nat → Nat) × (Nat → Nat) × Nat × (Nat → Int32) × (Nat → Nat → Int32) × (Nat → Option Nat) × (Nat → Nat → Int32) × (Nat → Nat → Option Nat) × (Nat → Nat → Nat → Int32)) => (C9.mk n f T u.2.2.2.2.2.2.2.1 u.2.2.2.2.2.2.2.2.1 F) = k_kinR i q (C9.mk n f T G K F) ∧ (∀ a : Nat, u.2.2.2.2.2.2.2.1 a 2 = G a 2) ∧ (∀ a : Nat, u.2.2.2.2.2.2.2.1 a 3 = G a 3) ∧ u.2.2.2.2.2.2.2.2.1 i 3 = none ∧ (∀ a : Nat, a ≠ i → u.2.2.2.2.2.2.2.2.1 a = K a)) (fun u t => ∃ w : va_W, va_P (dC, dI) vwCl w t.heap ∧ va_D (va_A ws sz) w ∧ Pic9 kc w ad ga gc M n f T u.2.2.2.2.2.2.2.1 u.2.2.2.2.2.2.2.2.1 F ∧ I9 M n f T gc u.2.2.2.2.2.2.2.1 u.2.2.2.2.2.2.2.2.1 F R ∧ hpS t.heap + (260 * M + 2 * S9 M gc) ≤ hz + (260 * M + 2 * S9 M gc) ∧ 16 * t.heap.size + (256 * M + S9 M gc) ≤ 16 * sz + (256 * M + S9 M gc)) (va_A ws sz)) 0 0 (va_A ws sz) := by
  refine Met.ofW (cc := cX4_begin) (maxL := 2) (ret := none) (by decide) rfl ?_
  intro p e s m args below meth c s₁ B hml hv
  obtain ⟨rfl, hsz, rfl, hP, hK, hD0, hN⟩ := hv
  have hx := B.exec
  have hb := B.bytes
  have hr := B.returns
  have hts := atoms_spec (ws := .code yX4_begin cX4_begin 2 none :: gw) B.pre
  have hg : ∀ w ∈ gw, w.before _ s = true := fun w h => hts w (List.mem_cons_of_mem _ h)
  have hown : s.vm.findClass RX4 = some m.cls := findClass_of_methodNamed B.named
  have hlocks := B.notSynchronized
  subst hsz
  have hD := hD0.self (sz := s.heap.size)
  generalize hAe : va_A ws s.heap.size = A at hD ⊢
  have hA : ∀ q : Nat, s.heap.size ≤ q → A q := fun q h => by rw [← hAe]; exact Or.inr h
  clear hAe
  have hS : va_S A s.heap s.heap [] := va_S.rf
  have hl := lv_entry ([.ref (ad (50 + 16 * i + 1)), .ref (ad (50 + 16 * q))]) (n := 2) (Nat.le_of_ble_eq_true rfl)
  rw [lg_entry_eq]
  generalize (lg_sl ([.ref (ad (50 + 16 * i + 1)), .ref (ad (50 + 16 * q))]) ++ List.replicate (2 - (lg_sl ([.ref (ad (50 + 16 * i + 1)), .ref (ad (50 + 16 * q))])).length) Slot.unset).toArray = ls at hl ⊢
  have hl : lv_has ls 2 [(0, .ref (ad (50 + 16 * i + 1))), (1, .ref (ad (50 + 16 * q)))] := hl
  obtain ⟨h_i1, h_i2, h_i3, h_i4, h_i5, h_i6, h_i7, h_i8, h_i9, h_i10, h_i11⟩ := id hI
  have q1_ := h_i1
  unfold i1 at q1_
  exact by
   refine lv_aload_n hx hb dX4_begin_0 rfl (lv_at hl 0 rfl) ?_
   refine lv_aload_n hx hb dX4_begin_1 rfl (lv_at hl 1 rfl) ?_
   refine va_put (D := (dC, dI)) (ci := 4) (v := .ref (ad (50 + 16 * q))) (ty := .object "ErrandGuild$Run") (C := RX4) (T := TX4) (N := 9) hx hb hg gb_4 tyX4 tyX4_ok nmX4 hown hK hP hD hS (50 + 16 * i + 1) (hQ.b1 hi) rfl 0 (by decide) (hg _ gm_fieldLink_RX4_9_ErrandGuild_Kin_giver_LErrandGuild_Run_) (fun _ h9 => h9) rfl (by decide +kernel) rfl rfl (Nat.le_of_ble_eq_true rfl) dX4_begin_2 (fun H locs hP hD hS => ?_)
   obtain ⟨ws_2, K_1, eK_1, hP, hD, hQ⟩ : ∃ (ws_2 : va_W) (K_1 : Nat → Nat → Option Nat), K_1 = u2 K i 0 (some q) ∧ va_P (dC, dI) vwCl ws_2 H ∧ va_D A ws_2 ∧ Pic9 kc ws_2 ad ga gc M n f T G K_1 F := ⟨_, _, rfl, hP, hD, hQ.kinR hi 0 0 (by decide) (some q)⟩
   have i3_3 : i3 M K_1 := by rw [eK_1]; exact i3.pK h_i3 i 0 (fun _ h => by cases h; exact hq)
   have i4_4 : i4 M K_1 := by rw [eK_1]; exact i4.pK h_i4 i _ (by decide)
   have i5_5 : i5 n K_1 := by rw [eK_1]; exact i5.pK h_i5 i _ (by decide)
   have i10_6 : i10 M G K_1 F := by rw [eK_1]; exact i10.pK h_i10 hi _ _
   refine lv_aload_n hx hb dX4_begin_5 rfl (lv_at hl 0 rfl) ?_
   refine lv_aload_n hx hb dX4_begin_6 rfl (lv_at hl 1 rfl) ?_
   refine lv_ifnonnull (tgt := 14) hx hb dX4_begin_7 (by decide) ?_
   refine lv_aload_n hx hb dX4_begin_14 rfl (lv_at hl 1 rfl) ?_
   have hFc := free_all hD hS hA
   exact by
    refine va_callq (va_runV (As := []) (rest := [.ref (ad (50 + 16 * i + 1))]) ⟨hx, hb, hml, hown, hg⟩ (c_X7_root l dC dI kc ws_2 ad ga gc M n f T G K_1 F R q H.size (hpS H) hQ ⟨h_i1, h_i2, i3_3, i4_4, i5_5, h_i6, h_i7, h_i8, h_i9, i10_6, h_i11⟩ (by show q < M; omega)) (cwV 0 hg (gw_V gm_methodLink_RX4_15_yX7_root gm_instanceMethod_yX7_root gm_selects_RX7_yX7_root_yX7_root gm_initialized_RX7 gm_code_yX7_root_cX7_root_1_some_object_ErrandGuild_Run_) rfl rfl rfl (by decide +kernel) ⟨Nat.le_of_ble_eq_true rfl, Nat.le_of_ble_eq_true rfl⟩) ⟨fun a U g mk q => by obtain ⟨q0, q1, q2, qP, qK, qD, qN⟩ := q; exact ⟨q0, q1, q2, qP, va_K.moved (u := U) (U := U.calling g mk a) (Vm.Alike.refl U.vm) qK, qD, nx_same (u := U) (U := U.calling g mk a) rfl qN⟩, va_recv hK hP (ci := 7) (q0 := (50 + 16 * q)) rfl (hQ.b0 hq), fun U hU hW => ⟨rfl, by rw [hU], by rw [hU], by rw [hU]; exact hP, va_K.moved hW.alike hK, hD.weaken (fun _ _ _ _ => trivial), nx_warm hW hN⟩⟩ rfl rfl hl.1 rfl (lv_room (Nat.le_of_ble_eq_true rfl)) dX4_begin_15 ⟨Nat.le_of_ble_eq_true rfl, Nat.le_of_ble_eq_true rfl⟩) hS (fun q _ h => hFc q h) hFc (fun r_7 u_8 t H1 locs ht hvm hw hB hz1 hk1 hS => ?_)
    obtain ⟨hP, hD, hy1, hy2⟩ := hB
    rw [ht] at hP hy1 hy2
    have hD := hD.weaken (fun k q _ h => hFc _ h)
    have q1_ := h_i1
    unfold i1 at q1_
    generalize H1 = H at hP hS ⊢
    obtain rfl : r_7 = some (ad (50 + 16 * (rt9 K_1 q))) := hw
    have hl_10 : (rt9 K_1 q) < M := rt9_lt i3_3 hq
    refine W.eq (g2 := F0 m 18 ls [.ref (ad (50 + 16 * (rt9 K_1 q))), .ref (ad (50 + 16 * i + 1))]) rfl ?_
    refine va_put (D := (dC, dI)) (ci := 4) (v := .ref (ad (50 + 16 * (rt9 K_1 q)))) (ty := .object "ErrandGuild$Run") (C := RX4) (T := TX4) (N := 9) hx hb hg gb_4 tyX4 tyX4_ok nmX4 hown hK hP hD hS (50 + 16 * i + 1) (hQ.b1 hi) rfl 1 (by decide) (hg _ gm_fieldLink_RX4_21_ErrandGuild_Kin_root_LErrandGuild_Run_) (fun _ h9 => h9) rfl (by decide +kernel) rfl rfl (Nat.le_of_ble_eq_true rfl) dX4_begin_18 (fun H locs hP hD hS => ?_)
    obtain ⟨ws_12, K_11, eK_11, hP, hD, hQ⟩ : ∃ (ws_12 : va_W) (K_11 : Nat → Nat → Option Nat), K_11 = u2 K_1 i 1 (some (rt9 K_1 q)) ∧ va_P (dC, dI) vwCl ws_12 H ∧ va_D A ws_12 ∧ Pic9 kc ws_12 ad ga gc M n f T G K_11 F := ⟨_, _, rfl, hP, hD, hQ.kinR hi 1 1 (by decide) (some (rt9 K_1 q))⟩
    have i3_13 : i3 M K_11 := by rw [eK_11]; exact i3.pK i3_3 i 1 (fun _ h => by cases h; exact hl_10)
    have i4_14 : i4 M K_11 := by rw [eK_11]; exact i4.pK i4_4 i _ (by decide)
    have i5_15 : i5 n K_11 := by rw [eK_11]; exact i5.pK i5_5 i _ (by decide)
    have i10_16 : i10 M G K_11 F := by rw [eK_11]; exact i10.pK i10_6 hi _ _
    exact by
     refine lv_aload_n hx hb dX4_begin_21 rfl (lv_at hl 0 rfl) ?_
     refine lv_aload_n hx hb dX4_begin_22 rfl (lv_at hl 1 rfl) ?_
     refine lv_ifnonnull (tgt := 30) hx hb dX4_begin_23 (by decide) ?_
     refine lv_aload_n hx hb dX4_begin_30 rfl (lv_at hl 1 rfl) ?_
     refine va_get (D := (dC, dI)) (ci := 7) (v := .ref (ad (50 + 16 * q + 1))) (C := RX7) (T := TX7) (N := 15) hx hb hg gb_7 hown hK hP (50 + 16 * q) (hQ.b0 hq) rfl 10 (by decide) (hg _ gm_fieldLink_RX4_23_ErrandGuild_Run_kin_LErrandGuild_Kin_) (fun _ h9 => h9) rfl dX4_begin_31 ?_
     refine va_get (D := (dC, dI)) (ci := 4) (v := .int (G q 10)) (C := RX4) (T := TX4) (N := 9) hx hb hg gb_4 hown hK hP (50 + 16 * q + 1) (hQ.b1 hq) rfl 2 (by decide) (hg _ gm_fieldLink_RX4_27_ErrandGuild_Kin_depth_I_) (fun _ h9 => h9) rfl dX4_begin_34 ?_
     refine lv_iconst (v := 1) hx hb dX4_begin_37 (by decide) ?_
     refine lv_iadd hx hb dX4_begin_38 ?_
     refine lv_topi (fun z_17 ez_17 => ?_)
     refine va_put (D := (dC, dI)) (ci := 4) (v := .int (z_17)) (ty := .int) (C := RX4) (T := TX4) (N := 9) hx hb hg gb_4 tyX4 tyX4_ok nmX4 hown hK hP hD hS (50 + 16 * i + 1) (hQ.b1 hi) rfl 2 (by decide) (hg _ gm_fieldLink_RX4_27_ErrandGuild_Kin_depth_I_) (fun _ h9 => h9) rfl (by decide +kernel) rfl rfl (Nat.le_of_ble_eq_true rfl) dX4_begin_39 (fun H locs hP hD hS => ?_)
     obtain ⟨ws_19, G_18, eG_18, hP, hD, hQ⟩ : ∃ (ws_19 : va_W) (G_18 : Nat → Nat → Int32), G_18 = u2 G i 10 z_17 ∧ va_P (dC, dI) vwCl ws_19 H ∧ va_D A ws_19 ∧ Pic9 kc ws_19 ad ga gc M n f T G_18 K_11 F := ⟨_, _, rfl, hP, hD, hQ.kinI hi 10 2 (by decide) z_17⟩
     have i10_20 : i10 M G_18 K_11 F := by rw [eG_18]; exact (i10.pG i10_16 hi _ (by decide))
     have i11_21 : i11 M n gc f G_18 F := by rw [eG_18]; exact (i11.pG h_i11 i _ (by decide))
     have i6_22 : i6 n T G_18 := by rw [eG_18]; exact (i6.pG h_i6 i _ (by decide))
     have i7_23 : i7 n G_18 := by rw [eG_18]; exact (i7.pG h_i7 i _ (by decide))
     have i8_24 : i8 M n gc G_18 := by rw [eG_18]; exact (i8.pG h_i8 i _ (by decide))
     have i9_25 : i9 M gc G_18 R := by rw [eG_18]; exact (i9.pG h_i9 i _ (by decide))
     have eg_26 : G_18 i 10 = z_17 := by rw [eG_18, u2_eq]
     exact by
      refine lv_aload_n hx hb dX4_begin_42 rfl (lv_at hl 0 rfl) ?_
      refine lv_aload_n hx hb dX4_begin_43 rfl (lv_at hl 1 rfl) ?_
      refine lv_ifnonnull (tgt := 51) hx hb dX4_begin_44 (by decide) ?_
      refine lv_aload_n hx hb dX4_begin_51 rfl (lv_at hl 1 rfl) ?_
      refine va_get (D := (dC, dI)) (ci := 7) (v := .int (G_18 q 6)) (C := RX7) (T := TX7) (N := 15) hx hb hg gb_7 hown hK hP (50 + 16 * q) (hQ.b0 hq) rfl 6 (by decide) (hg _ gm_fieldLink_RX4_31_ErrandGuild_Run_place_I_) (fun _ h9 => h9) rfl dX4_begin_52 ?_
      refine va_put (D := (dC, dI)) (ci := 4) (v := .int (G_18 q 6)) (ty := .int) (C := RX4) (T := TX4) (N := 9) hx hb hg gb_4 tyX4 tyX4_ok nmX4 hown hK hP hD hS (50 + 16 * i + 1) (hQ.b1 hi) rfl 3 (by decide) (hg _ gm_fieldLink_RX4_34_ErrandGuild_Kin_handedAt_I_) (fun _ h9 => h9) rfl (by decide +kernel) rfl rfl (Nat.le_of_ble_eq_true rfl) dX4_begin_55 (fun H locs hP hD hS => ?_)
      obtain ⟨ws_28, G_27, eG_27, hP, hD, hQ⟩ : ∃ (ws_28 : va_W) (G_27 : Nat → Nat → Int32), G_27 = u2 G_18 i 11 (G_18 q 6) ∧ va_P (dC, dI) vwCl ws_28 H ∧ va_D A ws_28 ∧ Pic9 kc ws_28 ad ga gc M n f T G_27 K_11 F := ⟨_, _, rfl, hP, hD, hQ.kinI hi 11 3 (by decide) (G_18 q 6)⟩
      have i10_29 : i10 M G_27 K_11 F := by rw [eG_27]; exact (i10.pG i10_20 hi _ (by decide))
      have i11_30 : i11 M n gc f G_27 F := by rw [eG_27]; exact (i11.pG i11_21 i _ (by decide))
      have i6_31 : i6 n T G_27 := by rw [eG_27]; exact (i6.pG i6_22 i _ (by decide))
      have i7_32 : i7 n G_27 := by rw [eG_27]; exact (i7.pG i7_23 i _ (by decide))
      have i8_33 : i8 M n gc G_27 := by rw [eG_27]; exact (i8.pG i8_24 i _ (by decide))
      have i9_34 : i9 M gc G_27 R := by rw [eG_27]; exact (i9.pG i9_25 i _ (by decide))
      have eg_35 : G_27 i 11 = (G_18 q 6) := by rw [eG_27, u2_eq]
      exact by
       refine lv_aload_n hx hb dX4_begin_58 rfl (lv_at hl 0 rfl) ?_
       refine lv_iconst (v := 0) hx hb dX4_begin_59 (by decide) ?_
       refine va_put (D := (dC, dI)) (ci := 4) (v := .int (0)) (ty := .int) (C := RX4) (T := TX4) (N := 9) hx hb hg gb_4 tyX4 tyX4_ok nmX4 hown hK hP hD hS (50 + 16 * i + 1) (hQ.b1 hi) rfl 4 (by decide) (hg _ gm_fieldLink_RX4_37_ErrandGuild_Kin_claim_I_) (fun _ h9 => h9) rfl (by decide +kernel) rfl rfl (Nat.le_of_ble_eq_true rfl) dX4_begin_60 (fun H locs hP hD hS => ?_)
       obtain ⟨ws_37, G_36, eG_36, hP, hD, hQ⟩ : ∃ (ws_37 : va_W) (G_36 : Nat → Nat → Int32), G_36 = u2 G_27 i 12 0 ∧ va_P (dC, dI) vwCl ws_37 H ∧ va_D A ws_37 ∧ Pic9 kc ws_37 ad ga gc M n f T G_36 K_11 F := ⟨_, _, rfl, hP, hD, hQ.kinI hi 12 4 (by decide) 0⟩
       have i10_38 : i10 M G_36 K_11 F := by rw [eG_36]; exact (i10.pG i10_29 hi _ (by decide))
       have i11_39 : i11 M n gc f G_36 F := by rw [eG_36]; exact (i11.pG i11_30 i _ (by decide))
       have i6_40 : i6 n T G_36 := by rw [eG_36]; exact (i6.pG i6_31 i _ (by decide))
       have i7_41 : i7 n G_36 := by rw [eG_36]; exact (i7.pG i7_32 i _ (by decide))
       have i8_42 : i8 M n gc G_36 := by rw [eG_36]; exact (i8.pG i8_33 i _ (by decide))
       have i9_43 : i9 M gc G_36 R := by rw [eG_36]; exact (i9.pG i9_34 i _ (by decide))
       have eg_44 : G_36 i 12 = 0 := by rw [eG_36, u2_eq]
       refine lv_aload_n hx hb dX4_begin_63 rfl (lv_at hl 0 rfl) ?_
       exact by
        refine lv_null hx hb dX4_begin_64 ?_
        refine va_put (D := (dC, dI)) (ci := 4) (v := .null) (ty := .object "ErrandGuild$Run") (C := RX4) (T := TX4) (N := 9) hx hb hg gb_4 tyX4 tyX4_ok nmX4 hown hK hP hD hS (50 + 16 * i + 1) (hQ.b1 hi) rfl 5 (by decide) (hg _ gm_fieldLink_RX4_40_ErrandGuild_Kin_firstChild_LErrandGuild_Run_) (fun _ h9 => h9) rfl (by decide +kernel) rfl rfl (Nat.le_of_ble_eq_true rfl) dX4_begin_65 (fun H locs hP hD hS => ?_)
        obtain ⟨ws_46, K_45, eK_45, hP, hD, hQ⟩ : ∃ (ws_46 : va_W) (K_45 : Nat → Nat → Option Nat), K_45 = u2 K_11 i 2 none ∧ va_P (dC, dI) vwCl ws_46 H ∧ va_D A ws_46 ∧ Pic9 kc ws_46 ad ga gc M n f T G_36 K_45 F := ⟨_, _, rfl, hP, hD, hQ.kinR hi 2 5 (by decide) none⟩
        have i3_47 : i3 M K_45 := by rw [eK_45]; exact i3.pK i3_13 i 2 (fun _ h => by cases h)
        have i4_48 : i4 M K_45 := by rw [eK_45]; exact i4.pK i4_14 i _ (by decide)
        have i5_49 : i5 n K_45 := by rw [eK_45]; exact i5.pK i5_15 i _ (by decide)
        have i10_50 : i10 M G_36 K_45 F := by rw [eK_45]; exact i10.pK i10_38 hi _ _
        refine lv_aload_n hx hb dX4_begin_68 rfl (lv_at hl 0 rfl) ?_
        refine lv_null hx hb dX4_begin_69 ?_
        refine va_put (D := (dC, dI)) (ci := 4) (v := .null) (ty := .object "ErrandGuild$Run") (C := RX4) (T := TX4) (N := 9) hx hb hg gb_4 tyX4 tyX4_ok nmX4 hown hK hP hD hS (50 + 16 * i + 1) (hQ.b1 hi) rfl 6 (by decide) (hg _ gm_fieldLink_RX4_43_ErrandGuild_Kin_lastChild_LErrandGuild_Run_) (fun _ h9 => h9) rfl (by decide +kernel) rfl rfl (Nat.le_of_ble_eq_true rfl) dX4_begin_70 (fun H locs hP hD hS => ?_)
        obtain ⟨ws_52, K_51, eK_51, hP, hD, hQ⟩ : ∃ (ws_52 : va_W) (K_51 : Nat → Nat → Option Nat), K_51 = u2 K_45 i 3 none ∧ va_P (dC, dI) vwCl ws_52 H ∧ va_D A ws_52 ∧ Pic9 kc ws_52 ad ga gc M n f T G_36 K_51 F := ⟨_, _, rfl, hP, hD, hQ.kinR hi 3 6 (by decide) none⟩
        have i3_53 : i3 M K_51 := by rw [eK_51]; exact i3.pK i3_47 i 3 (fun _ h => by cases h)
        have i4_54 : i4 M K_51 := by rw [eK_51]; exact i4.pK i4_48 i _ (by decide)
        have i5_55 : i5 n K_51 := by rw [eK_51]; exact i5.K3 i5_49 i (fun _ h => by cases h)
        have i10_56 : i10 M G_36 K_51 F := by rw [eK_51]; exact i10.pK i10_50 hi _ _
        exact by
         refine lv_aload_n hx hb dX4_begin_73 rfl (lv_at hl 0 rfl) ?_
         refine lv_null hx hb dX4_begin_74 ?_
         refine va_put (D := (dC, dI)) (ci := 4) (v := .null) (ty := .object "ErrandGuild$Run") (C := RX4) (T := TX4) (N := 9) hx hb hg gb_4 tyX4 tyX4_ok nmX4 hown hK hP hD hS (50 + 16 * i + 1) (hQ.b1 hi) rfl 7 (by decide) (hg _ gm_fieldLink_RX4_46_ErrandGuild_Kin_nextSibling_LErrandGuild_Run_) (fun _ h9 => h9) rfl (by decide +kernel) rfl rfl (Nat.le_of_ble_eq_true rfl) dX4_begin_75 (fun H locs hP hD hS => ?_)
         obtain ⟨ws_58, K_57, eK_57, hP, hD, hQ⟩ : ∃ (ws_58 : va_W) (K_57 : Nat → Nat → Option Nat), K_57 = u2 K_51 i 4 none ∧ va_P (dC, dI) vwCl ws_58 H ∧ va_D A ws_58 ∧ Pic9 kc ws_58 ad ga gc M n f T G_36 K_57 F := ⟨_, _, rfl, hP, hD, hQ.kinR hi 4 7 (by decide) none⟩
         have i3_59 : i3 M K_57 := by rw [eK_57]; exact i3.pK i3_53 i 4 (fun _ h => by cases h)
         have i4_60 : i4 M K_57 := by rw [eK_57]; exact i4.K4 i4_54 i (fun _ h => by cases h)
         have i5_61 : i5 n K_57 := by rw [eK_57]; exact i5.pK i5_55 i _ (by decide)
         have i10_62 : i10 M G_36 K_57 F := by rw [eK_57]; exact i10.pK i10_56 hi _ _
         refine lv_aload_n hx hb dX4_begin_78 rfl (lv_at hl 0 rfl) ?_
         refine lv_iconst (v := 0) hx hb dX4_begin_79 (by decide) ?_
         refine va_put (D := (dC, dI)) (ci := 4) (v := .int (0)) (ty := .int) (C := RX4) (T := TX4) (N := 9) hx hb hg gb_4 tyX4 tyX4_ok nmX4 hown hK hP hD hS (50 + 16 * i + 1) (hQ.b1 hi) rfl 8 (by decide) (hg _ gm_fieldLink_RX4_49_ErrandGuild_Kin_children_I_) (fun _ h9 => h9) rfl (by decide +kernel) rfl rfl (Nat.le_of_ble_eq_true rfl) dX4_begin_80 (fun H locs hP hD hS => ?_)
         obtain ⟨ws_64, G_63, eG_63, hP, hD, hQ⟩ : ∃ (ws_64 : va_W) (G_63 : Nat → Nat → Int32), G_63 = u2 G_36 i 13 0 ∧ va_P (dC, dI) vwCl ws_64 H ∧ va_D A ws_64 ∧ Pic9 kc ws_64 ad ga gc M n f T G_63 K_57 F := ⟨_, _, rfl, hP, hD, hQ.kinI hi 13 8 (by decide) 0⟩
         have i10_65 : i10 M G_63 K_57 F := by rw [eG_63]; exact (i10.pG i10_62 hi _ (by decide))
         have i11_66 : i11 M n gc f G_63 F := by rw [eG_63]; exact (i11.pG i11_39 i _ (by decide))
         have i6_67 : i6 n T G_63 := by rw [eG_63]; exact (i6.pG i6_40 i _ (by decide))
         have i7_68 : i7 n G_63 := by rw [eG_63]; exact (i7.pG i7_41 i _ (by decide))
         have i8_69 : i8 M n gc G_63 := by rw [eG_63]; exact (i8.pG i8_42 i _ (by decide))
         have i9_70 : i9 M gc G_63 R := by rw [eG_63]; exact (i9.pG i9_43 i _ (by decide))
         have eg_71 : G_63 i 13 = 0 := by rw [eG_63, u2_eq]
         refine W_msr2 (fun hm1 hm2 hm3 => ?_)
         exact W.vret hx hb hr (fun t ht hW => ⟨⟨(ad, ga, gc, M, n, f, T, G_63, K_57, F), rfl, ⟨(by show (C9.mk n f T G_63 K_57 F) = k_kinR i q (C9.mk n f T G K F); subst eK_1; subst eK_11; subst eG_18; subst eG_27; subst eG_36; subst eK_45; subst eK_51; subst eK_57; subst eG_63; subst ez_17; have hX := (k_kinR.eq_1 i q (C9.mk n f T G K F)).symm; (repeat (first | dsimp +instances only [c9n, c9f, c9T, c9G, c9K, c9F, b_come, b_leave, b_fill, awB, b_settle, b_wake, b_take, f_take, b_gather, f_gather, b_ask, a_ask, b_tell, c_close, d_close, k_add, k_rem, sco, k_clrF, k_mem, k_rebind, k_bnd, k_beg0, k_beg1, b_giveN, b_giveR, f_open, b_hand, k_op, b_turn, wlB, b_beat, f_anew, b_wipe, b_off, k_sadd, fits, frP, cntB, b_trace, b_child, k_lat, cond_true, cond_false, Option.elim_none, Option.elim_some, Option.getD_none, Option.getD_some] at hX | rw [if_pos (by first | with_reducible assumption | omega)] at hX | rw [if_neg (by first | with_reducible assumption | omega)] at hX | rw [jx_of (by omega)] at hX)); first | exact hX | (exfalso; omega) | exact hX), ⟨fun a => by show G_63 a 2 = G a 2; rw [eG_63]; (repeat rw [u2_n2 _ _ _ _ (show (2 : Nat) ≠ _ by decide)]); rw [eG_36]; (repeat rw [u2_n2 _ _ _ _ (show (2 : Nat) ≠ _ by decide)]); rw [eG_27]; (repeat rw [u2_n2 _ _ _ _ (show (2 : Nat) ≠ _ by decide)]); rw [eG_18]; (repeat rw [u2_n2 _ _ _ _ (show (2 : Nat) ≠ _ by decide)]), fun a => by show G_63 a 3 = G a 3; rw [eG_63]; (repeat rw [u2_n2 _ _ _ _ (show (3 : Nat) ≠ _ by decide)]); rw [eG_36]; (repeat rw [u2_n2 _ _ _ _ (show (3 : Nat) ≠ _ by decide)]); rw [eG_27]; (repeat rw [u2_n2 _ _ _ _ (show (3 : Nat) ≠ _ by decide)]); rw [eG_18]; (repeat rw [u2_n2 _ _ _ _ (show (3 : Nat) ≠ _ by decide)]), by show K_57 i 3 = none; rw [eK_57, u2_n2 _ _ _ _ (by decide), eK_51, u2_eq], fun a ha => by show K_57 a = K a; rw [eK_57, u2_n1 _ _ _ ha]; rw [eK_51, u2_n1 _ _ _ ha]; rw [eK_45, u2_n1 _ _ _ ha]; rw [eK_11, u2_n1 _ _ _ ha]; rw [eK_1, u2_n1 _ _ _ ha]⟩⟩, ws_64, by rw [ht]; exact hP, hD, hQ, ⟨h_i1, h_i2, i3_59, i4_60, i5_61, i6_67, i7_68, i8_69, i9_70, i10_65, i11_66⟩, by rw [ht]; show hpS H + (260 * M + 2 * S9 M gc) ≤ hpS s.heap + (260 * M + 2 * S9 M gc); omega, by rw [ht]; show 16 * H.size + (256 * M + S9 M gc) ≤ 16 * s.heap.size + (256 * M + S9 M gc); omega⟩, hS.F ht⟩) hS.2.2 dX4_begin_83

set_option maxHeartbeats 8000000 in
set_option maxRecDepth 100000 in
theorem c_X7_begin_n (l : Launch) (dC : Nat → ClassId) (dI : Nat → Nat → Nat) (kc : Nat → ClassId) (ws : va_W) (ad : Nat → Nat) (ga : Nat → Nat) (gc : Nat → Nat) (M : Nat) (n : Nat → Int32) (f : Nat → Nat → Int32) (T : Nat → Option Nat) (G : Nat → Nat → Int32) (K : Nat → Nat → Option Nat) (F : Nat → Nat → Nat → Int32) (R : Nat) (i : Nat) (v1 : Int32) (sz hz : Nat) (hQ : Pic9 kc ws ad ga gc M n f T G K F) (hI : I9 M n f T gc G K F R) (hi : i < M) : Met l yX7_begin (.code yX7_begin cX7_begin 3 none :: gw) ({ frames := 1, cells := 0, slots := 0, locals := 21 }) (va_Pc [.ref (ad (50 + 16 * i)), .int v1, .null] (fun U => U.heap.size = sz ∧ hpS U.heap = hz ∧ va_P (dC, dI) vwCl ws U.heap ∧ va_K (dC, dI) vwCl (t9 kc) U ∧ va_D (fun _ => True) ws ∧ nx U)) (va_Qv (fun (u : (Nat → Nat) × (Nat → Nat) × (Nat → Nat) × Nat × (Nat → Int32) × (Nat → Nat → Int32) × (Nat → Option Nat) × (Nat → Nat → Int32) × (Nat → Nat → Option Nat) × (Nat → Nat → Nat → Int32)) => (C9.mk n f T u.2.2.2.2.2.2.2.1 u.2.2.2.2.2.2.2.2.1 u.2.2.2.2.2.2.2.2.2) = k_begN i v1 (C9.mk n f T G K F) ∧ (u.2.2.2.2.2.2.2.1 i 2).toInt = 0 ∧ (u.2.2.2.2.2.2.2.1 i 3).toInt = -1 ∧ u.2.2.2.2.2.2.2.2.1 i 3 = none ∧ (∀ a : Nat, a ≠ i → u.2.2.2.2.2.2.2.2.1 a = K a)) (fun u t => ∃ w : va_W, va_P (dC, dI) vwCl w t.heap ∧ va_D (va_A ws sz) w ∧ Pic9 kc w ad ga gc M n f T u.2.2.2.2.2.2.2.1 u.2.2.2.2.2.2.2.2.1 u.2.2.2.2.2.2.2.2.2 ∧ I9 M n f T gc u.2.2.2.2.2.2.2.1 u.2.2.2.2.2.2.2.2.1 u.2.2.2.2.2.2.2.2.2 R ∧ hpS t.heap + (260 * M + 2 * S9 M gc) ≤ hz + (260 * M + 2 * S9 M gc) ∧ 16 * t.heap.size + (256 * M + S9 M gc) ≤ 16 * sz + (256 * M + S9 M gc)) (va_A ws sz)) 0 0 (va_A ws sz) := by
  refine Met.ofW (cc := cX7_begin) (maxL := 3) (ret := none) (by decide) rfl ?_
  intro p e s m args below meth c s₁ B hml hv
  obtain ⟨rfl, hsz, rfl, hP, hK, hD0, hN⟩ := hv
  have hx := B.exec
  have hb := B.bytes
  have hr := B.returns
  have hts := atoms_spec (ws := .code yX7_begin cX7_begin 3 none :: gw) B.pre
  have hg : ∀ w ∈ gw, w.before _ s = true := fun w h => hts w (List.mem_cons_of_mem _ h)
  have hown : s.vm.findClass RX7 = some m.cls := findClass_of_methodNamed B.named
  have hlocks := B.notSynchronized
  subst hsz
  have hD := hD0.self (sz := s.heap.size)
  generalize hAe : va_A ws s.heap.size = A at hD ⊢
  have hA : ∀ q : Nat, s.heap.size ≤ q → A q := fun q h => by rw [← hAe]; exact Or.inr h
  clear hAe
  have hS : va_S A s.heap s.heap [] := va_S.rf
  have hl := lv_entry ([.ref (ad (50 + 16 * i)), .int v1, .null]) (n := 3) (Nat.le_of_ble_eq_true rfl)
  rw [lg_entry_eq]
  generalize (lg_sl ([.ref (ad (50 + 16 * i)), .int v1, .null]) ++ List.replicate (3 - (lg_sl ([.ref (ad (50 + 16 * i)), .int v1, .null])).length) Slot.unset).toArray = ls at hl ⊢
  have hl : lv_has ls 3 [(0, .ref (ad (50 + 16 * i))), (1, .int v1), (2, .null)] := hl
  obtain ⟨h_i1, h_i2, h_i3, h_i4, h_i5, h_i6, h_i7, h_i8, h_i9, h_i10, h_i11⟩ := id hI
  have q1_ := h_i1
  unfold i1 at q1_
  exact by
   refine lv_aload_n hx hb dX7_begin_0 rfl (lv_at hl 0 rfl) ?_
   refine lv_iload_n hx hb dX7_begin_1 rfl (lv_at hl 1 rfl) ?_
   refine va_put (D := (dC, dI)) (ci := 7) (v := .int (v1)) (ty := .int) (C := RX7) (T := TX7) (N := 15) hx hb hg gb_7 tyX7 tyX7_ok nmX7 hown hK hP hD hS (50 + 16 * i) (hQ.b0 hi) rfl 1 (by decide) (hg _ gm_fieldLink_RX7_53_ErrandGuild_Run_errand_I_) (fun _ h9 => h9) rfl (by decide +kernel) rfl rfl (Nat.le_of_ble_eq_true rfl) dX7_begin_2 (fun H locs hP hD hS => ?_)
   obtain ⟨ws_2, G_1, eG_1, hP, hD, hQ⟩ : ∃ (ws_2 : va_W) (G_1 : Nat → Nat → Int32), G_1 = u2 G i 1 v1 ∧ va_P (dC, dI) vwCl ws_2 H ∧ va_D A ws_2 ∧ Pic9 kc ws_2 ad ga gc M n f T G_1 K F := ⟨_, _, rfl, hP, hD, hQ.run hi 1 (by decide) v1⟩
   have i10_3 : i10 M G_1 K F := by rw [eG_1]; exact (i10.pG h_i10 hi _ (by decide))
   have i11_4 : i11 M n gc f G_1 F := by rw [eG_1]; exact (i11.pG h_i11 i _ (by decide))
   have i6_5 : i6 n T G_1 := by rw [eG_1]; exact (i6.pG h_i6 i _ (by decide))
   have i7_6 : i7 n G_1 := by rw [eG_1]; exact (i7.pG h_i7 i _ (by decide))
   have i8_7 : i8 M n gc G_1 := by rw [eG_1]; exact (i8.pG h_i8 i _ (by decide))
   have i9_8 : i9 M gc G_1 R := by rw [eG_1]; exact (i9.pG h_i9 i _ (by decide))
   have eg_9 : G_1 i 1 = v1 := by rw [eG_1, u2_eq]
   refine lv_aload_n hx hb dX7_begin_5 rfl (lv_at hl 0 rfl) ?_
   exact by
    refine lv_iconst (v := 0) hx hb dX7_begin_6 (by decide) ?_
    refine va_put (D := (dC, dI)) (ci := 7) (v := .int (0)) (ty := .int) (C := RX7) (T := TX7) (N := 15) hx hb hg gb_7 tyX7 tyX7_ok nmX7 hown hK hP hD hS (50 + 16 * i) (hQ.b0 hi) rfl 2 (by decide) (hg _ gm_fieldLink_RX7_56_ErrandGuild_Run_state_I_) (fun _ h9 => h9) rfl (by decide +kernel) rfl rfl (Nat.le_of_ble_eq_true rfl) dX7_begin_7 (fun H locs hP hD hS => ?_)
    obtain ⟨ws_11, G_10, eG_10, hP, hD, hQ⟩ : ∃ (ws_11 : va_W) (G_10 : Nat → Nat → Int32), G_10 = u2 G_1 i 2 0 ∧ va_P (dC, dI) vwCl ws_11 H ∧ va_D A ws_11 ∧ Pic9 kc ws_11 ad ga gc M n f T G_10 K F := ⟨_, _, rfl, hP, hD, hQ.run hi 2 (by decide) 0⟩
    have i10_12 : i10 M G_10 K F := by rw [eG_10]; exact (i10.pG i10_3 hi _ (by decide))
    have i11_13 : i11 M n gc f G_10 F := by rw [eG_10]; exact (i11.pG i11_4 i _ (by decide))
    have i6_14 : i6 n T G_10 := by rw [eG_10]; exact (i6.pG i6_5 i _ (by decide))
    have i7_15 : i7 n G_10 := by rw [eG_10]; exact (i7.st i7_6 i (by decide))
    have i8_16 : i8 M n gc G_10 := by rw [eG_10]; exact (i8.pG i8_7 i _ (by decide))
    have i9_17 : i9 M gc G_10 R := by rw [eG_10]; exact (i9.pG i9_8 i _ (by decide))
    have eg_18 : G_10 i 2 = 0 := by rw [eG_10, u2_eq]
    refine lv_aload_n hx hb dX7_begin_10 rfl (lv_at hl 0 rfl) ?_
    refine lv_iconst (v := -1) hx hb dX7_begin_11 (by decide) ?_
    exact by
     refine va_put (D := (dC, dI)) (ci := 7) (v := .int (-1)) (ty := .int) (C := RX7) (T := TX7) (N := 15) hx hb hg gb_7 tyX7 tyX7_ok nmX7 hown hK hP hD hS (50 + 16 * i) (hQ.b0 hi) rfl 3 (by decide) (hg _ gm_fieldLink_RX7_59_ErrandGuild_Run_thread_I_) (fun _ h9 => h9) rfl (by decide +kernel) rfl rfl (Nat.le_of_ble_eq_true rfl) dX7_begin_12 (fun H locs hP hD hS => ?_)
     obtain ⟨ws_20, G_19, eG_19, hP, hD, hQ⟩ : ∃ (ws_20 : va_W) (G_19 : Nat → Nat → Int32), G_19 = u2 G_10 i 3 (-1) ∧ va_P (dC, dI) vwCl ws_20 H ∧ va_D A ws_20 ∧ Pic9 kc ws_20 ad ga gc M n f T G_19 K F := ⟨_, _, rfl, hP, hD, hQ.run hi 3 (by decide) (-1)⟩
     have i10_21 : i10 M G_19 K F := by rw [eG_19]; exact (i10.pG i10_12 hi _ (by decide))
     have i11_22 : i11 M n gc f G_19 F := by rw [eG_19]; exact (i11.pG i11_13 i _ (by decide))
     have i6_23 : i6 n T G_19 := by rw [eG_19]; exact i6.off i6_14 i (by decide)
     have i7_24 : i7 n G_19 := by rw [eG_19]; exact i7.off i7_15 _ (by rw [eg_18]; decide)
     have i8_25 : i8 M n gc G_19 := by rw [eG_19]; exact (i8.pG i8_16 i _ (by decide))
     have i9_26 : i9 M gc G_19 R := by rw [eG_19]; exact (i9.pG i9_17 i _ (by decide))
     have eg_27 : G_19 i 3 = (-1) := by rw [eG_19, u2_eq]
     refine lv_aload_n hx hb dX7_begin_15 rfl (lv_at hl 0 rfl) ?_
     refine lv_iconst (v := 0) hx hb dX7_begin_16 (by decide) ?_
     refine va_put (D := (dC, dI)) (ci := 7) (v := .int (0)) (ty := .int) (C := RX7) (T := TX7) (N := 15) hx hb hg gb_7 tyX7 tyX7_ok nmX7 hown hK hP hD hS (50 + 16 * i) (hQ.b0 hi) rfl 4 (by decide) (hg _ gm_fieldLink_RX7_62_ErrandGuild_Run_visits_I_) (fun _ h9 => h9) rfl (by decide +kernel) rfl rfl (Nat.le_of_ble_eq_true rfl) dX7_begin_17 (fun H locs hP hD hS => ?_)
     obtain ⟨ws_29, G_28, eG_28, hP, hD, hQ⟩ : ∃ (ws_29 : va_W) (G_28 : Nat → Nat → Int32), G_28 = u2 G_19 i 4 0 ∧ va_P (dC, dI) vwCl ws_29 H ∧ va_D A ws_29 ∧ Pic9 kc ws_29 ad ga gc M n f T G_28 K F := ⟨_, _, rfl, hP, hD, hQ.run hi 4 (by decide) 0⟩
     have i10_30 : i10 M G_28 K F := by rw [eG_28]; exact (i10.pG i10_21 hi _ (by decide))
     have i11_31 : i11 M n gc f G_28 F := by rw [eG_28]; exact (i11.pG i11_22 i _ (by decide))
     have i6_32 : i6 n T G_28 := by rw [eG_28]; exact (i6.pG i6_23 i _ (by decide))
     have i7_33 : i7 n G_28 := by rw [eG_28]; exact (i7.pG i7_24 i _ (by decide))
     have i8_34 : i8 M n gc G_28 := by rw [eG_28]; exact (i8.pG i8_25 i _ (by decide))
     have i9_35 : i9 M gc G_28 R := by rw [eG_28]; exact (i9.pG i9_26 i _ (by decide))
     have eg_36 : G_28 i 4 = 0 := by rw [eG_28, u2_eq]
     exact by
      refine lv_aload_n hx hb dX7_begin_20 rfl (lv_at hl 0 rfl) ?_
      refine lv_iconst (v := 0) hx hb dX7_begin_21 (by decide) ?_
      refine va_put (D := (dC, dI)) (ci := 7) (v := .int (0)) (ty := .int) (C := RX7) (T := TX7) (N := 15) hx hb hg gb_7 tyX7 tyX7_ok nmX7 hown hK hP hD hS (50 + 16 * i) (hQ.b0 hi) rfl 5 (by decide) (hg _ gm_fieldLink_RX7_65_ErrandGuild_Run_sum_I_) (fun _ h9 => h9) rfl (by decide +kernel) rfl rfl (Nat.le_of_ble_eq_true rfl) dX7_begin_22 (fun H locs hP hD hS => ?_)
      obtain ⟨ws_38, G_37, eG_37, hP, hD, hQ⟩ : ∃ (ws_38 : va_W) (G_37 : Nat → Nat → Int32), G_37 = u2 G_28 i 5 0 ∧ va_P (dC, dI) vwCl ws_38 H ∧ va_D A ws_38 ∧ Pic9 kc ws_38 ad ga gc M n f T G_37 K F := ⟨_, _, rfl, hP, hD, hQ.run hi 5 (by decide) 0⟩
      have i10_39 : i10 M G_37 K F := by rw [eG_37]; exact (i10.pG i10_30 hi _ (by decide))
      have i11_40 : i11 M n gc f G_37 F := by rw [eG_37]; exact (i11.pG i11_31 i _ (by decide))
      have i6_41 : i6 n T G_37 := by rw [eG_37]; exact (i6.pG i6_32 i _ (by decide))
      have i7_42 : i7 n G_37 := by rw [eG_37]; exact (i7.pG i7_33 i _ (by decide))
      have i8_43 : i8 M n gc G_37 := by rw [eG_37]; exact (i8.pG i8_34 i _ (by decide))
      have i9_44 : i9 M gc G_37 R := by rw [eG_37]; exact (i9.pG i9_35 i _ (by decide))
      have eg_45 : G_37 i 5 = 0 := by rw [eG_37, u2_eq]
      refine lv_aload_n hx hb dX7_begin_25 rfl (lv_at hl 0 rfl) ?_
      exact by
       refine lv_iconst (v := 0) hx hb dX7_begin_26 (by decide) ?_
       refine va_put (D := (dC, dI)) (ci := 7) (v := .int (0)) (ty := .int) (C := RX7) (T := TX7) (N := 15) hx hb hg gb_7 tyX7 tyX7_ok nmX7 hown hK hP hD hS (50 + 16 * i) (hQ.b0 hi) rfl 6 (by decide) (hg _ gm_fieldLink_RX7_68_ErrandGuild_Run_place_I_) (fun _ h9 => h9) rfl (by decide +kernel) rfl rfl (Nat.le_of_ble_eq_true rfl) dX7_begin_27 (fun H locs hP hD hS => ?_)
       obtain ⟨ws_47, G_46, eG_46, hP, hD, hQ⟩ : ∃ (ws_47 : va_W) (G_46 : Nat → Nat → Int32), G_46 = u2 G_37 i 6 0 ∧ va_P (dC, dI) vwCl ws_47 H ∧ va_D A ws_47 ∧ Pic9 kc ws_47 ad ga gc M n f T G_46 K F := ⟨_, _, rfl, hP, hD, hQ.run hi 6 (by decide) 0⟩
       have i10_48 : i10 M G_46 K F := by rw [eG_46]; exact (i10.pG i10_39 hi _ (by decide))
       have i11_49 : i11 M n gc f G_46 F := by rw [eG_46]; exact (i11.pG i11_40 i _ (by decide))
       have i6_50 : i6 n T G_46 := by rw [eG_46]; exact (i6.pG i6_41 i _ (by decide))
       have i7_51 : i7 n G_46 := by rw [eG_46]; exact (i7.pG i7_42 i _ (by decide))
       have i8_52 : i8 M n gc G_46 := by rw [eG_46]; exact (i8.pG i8_43 i _ (by decide))
       have i9_53 : i9 M gc G_46 R := by rw [eG_46]; exact (i9.pG i9_44 i _ (by decide))
       have eg_54 : G_46 i 6 = 0 := by rw [eG_46, u2_eq]
       refine lv_aload_n hx hb dX7_begin_30 rfl (lv_at hl 0 rfl) ?_
       refine lv_iconst (v := -1) hx hb dX7_begin_31 (by decide) ?_
       exact by
        refine va_put (D := (dC, dI)) (ci := 7) (v := .int (-1)) (ty := .int) (C := RX7) (T := TX7) (N := 15) hx hb hg gb_7 tyX7 tyX7_ok nmX7 hown hK hP hD hS (50 + 16 * i) (hQ.b0 hi) rfl 7 (by decide) (hg _ gm_fieldLink_RX7_71_ErrandGuild_Run_overBeat_I_) (fun _ h9 => h9) rfl (by decide +kernel) rfl rfl (Nat.le_of_ble_eq_true rfl) dX7_begin_32 (fun H locs hP hD hS => ?_)
        obtain ⟨ws_56, G_55, eG_55, hP, hD, hQ⟩ : ∃ (ws_56 : va_W) (G_55 : Nat → Nat → Int32), G_55 = u2 G_46 i 7 (-1) ∧ va_P (dC, dI) vwCl ws_56 H ∧ va_D A ws_56 ∧ Pic9 kc ws_56 ad ga gc M n f T G_55 K F := ⟨_, _, rfl, hP, hD, hQ.run hi 7 (by decide) (-1)⟩
        have i10_57 : i10 M G_55 K F := by rw [eG_55]; exact (i10.pG i10_48 hi _ (by decide))
        have i11_58 : i11 M n gc f G_55 F := by rw [eG_55]; exact (i11.pG i11_49 i _ (by decide))
        have i6_59 : i6 n T G_55 := by rw [eG_55]; exact (i6.pG i6_50 i _ (by decide))
        have i7_60 : i7 n G_55 := by rw [eG_55]; exact (i7.pG i7_51 i _ (by decide))
        have i8_61 : i8 M n gc G_55 := by rw [eG_55]; exact (i8.pG i8_52 i _ (by decide))
        have i9_62 : i9 M gc G_55 R := by rw [eG_55]; exact (i9.pG i9_53 i _ (by decide))
        have eg_63 : G_55 i 7 = (-1) := by rw [eG_55, u2_eq]
        refine lv_aload_n hx hb dX7_begin_35 rfl (lv_at hl 0 rfl) ?_
        refine lv_iconst (v := 0) hx hb dX7_begin_36 (by decide) ?_
        refine va_put (D := (dC, dI)) (ci := 7) (v := .int (0)) (ty := .boolean) (C := RX7) (T := TX7) (N := 15) hx hb hg gb_7 tyX7 tyX7_ok nmX7 hown hK hP hD hS (50 + 16 * i) (hQ.b0 hi) rfl 8 (by decide) (hg _ gm_fieldLink_RX7_74_ErrandGuild_Run_interrupted_Z_) (fun _ h9 => h9) rfl (by decide +kernel) rfl rfl (Nat.le_of_ble_eq_true rfl) dX7_begin_37 (fun H locs hP hD hS => ?_)
        obtain ⟨ws_65, G_64, eG_64, hP, hD, hQ⟩ : ∃ (ws_65 : va_W) (G_64 : Nat → Nat → Int32), G_64 = u2 G_55 i 8 0 ∧ va_P (dC, dI) vwCl ws_65 H ∧ va_D A ws_65 ∧ Pic9 kc ws_65 ad ga gc M n f T G_64 K F := ⟨_, _, rfl, hP, hD, hQ.run hi 8 (by decide) 0⟩
        have i10_66 : i10 M G_64 K F := by rw [eG_64]; exact (i10.pG i10_57 hi _ (by decide))
        have i11_67 : i11 M n gc f G_64 F := by rw [eG_64]; exact (i11.pG i11_58 i _ (by decide))
        have i6_68 : i6 n T G_64 := by rw [eG_64]; exact (i6.pG i6_59 i _ (by decide))
        have i7_69 : i7 n G_64 := by rw [eG_64]; exact (i7.pG i7_60 i _ (by decide))
        have i8_70 : i8 M n gc G_64 := by rw [eG_64]; exact (i8.pG i8_61 i _ (by decide))
        have i9_71 : i9 M gc G_64 R := by rw [eG_64]; exact (i9.pG i9_62 i _ (by decide))
        have eg_72 : G_64 i 8 = 0 := by rw [eG_64, u2_eq]
        exact by
         refine lv_aload_n hx hb dX7_begin_40 rfl (lv_at hl 0 rfl) ?_
         refine lv_iconst (v := 0) hx hb dX7_begin_41 (by decide) ?_
         refine va_put (D := (dC, dI)) (ci := 7) (v := .int (0)) (ty := .boolean) (C := RX7) (T := TX7) (N := 15) hx hb hg gb_7 tyX7 tyX7_ok nmX7 hown hK hP hD hS (50 + 16 * i) (hQ.b0 hi) rfl 9 (by decide) (hg _ gm_fieldLink_RX7_78_ErrandGuild_Run_returning_Z_) (fun _ h9 => h9) rfl (by decide +kernel) rfl rfl (Nat.le_of_ble_eq_true rfl) dX7_begin_42 (fun H locs hP hD hS => ?_)
         obtain ⟨ws_74, G_73, eG_73, hP, hD, hQ⟩ : ∃ (ws_74 : va_W) (G_73 : Nat → Nat → Int32), G_73 = u2 G_64 i 9 0 ∧ va_P (dC, dI) vwCl ws_74 H ∧ va_D A ws_74 ∧ Pic9 kc ws_74 ad ga gc M n f T G_73 K F := ⟨_, _, rfl, hP, hD, hQ.run hi 9 (by decide) 0⟩
         have i10_75 : i10 M G_73 K F := by rw [eG_73]; exact (i10.pG i10_66 hi _ (by decide))
         have i11_76 : i11 M n gc f G_73 F := by rw [eG_73]; exact (i11.pG i11_67 i _ (by decide))
         have i6_77 : i6 n T G_73 := by rw [eG_73]; exact (i6.pG i6_68 i _ (by decide))
         have i7_78 : i7 n G_73 := by rw [eG_73]; exact (i7.pG i7_69 i _ (by decide))
         have i8_79 : i8 M n gc G_73 := by rw [eG_73]; exact (i8.pG i8_70 i _ (by decide))
         have i9_80 : i9 M gc G_73 R := by rw [eG_73]; exact (i9.pG i9_71 i _ (by decide))
         have eg_81 : G_73 i 9 = 0 := by rw [eG_73, u2_eq]
         refine lv_aload_n hx hb dX7_begin_45 rfl (lv_at hl 0 rfl) ?_
         exact by
          refine va_get (D := (dC, dI)) (ci := 7) (v := .ref (ad (50 + 16 * i + 1))) (C := RX7) (T := TX7) (N := 15) hx hb hg gb_7 hown hK hP (50 + 16 * i) (hQ.b0 hi) rfl 10 (by decide) (hg _ gm_fieldLink_RX7_12_ErrandGuild_Run_kin_LErrandGuild_Kin_) (fun _ h9 => h9) rfl dX7_begin_46 ?_
          refine lv_aload_nN hx hb dX7_begin_49 rfl (lv_at hl 2 rfl) ?_
          have hFc := free_all hD hS hA
          refine va_callv (va_runV (As := [.null]) (rest := []) ⟨hx, hb, hml, hown, hg⟩ (c_X4_begin_n l dC dI kc ws_74 ad ga gc M n f T G_73 K F R i H.size (hpS H) hQ ⟨h_i1, h_i2, h_i3, h_i4, h_i5, i6_77, i7_78, i8_79, i9_80, i10_75, i11_76⟩ (by show i < M; omega)) (cwV 1 hg (gw_V gm_methodLink_RX7_81_yX4_begin gm_instanceMethod_yX4_begin gm_selects_RX4_yX4_begin_yX4_begin gm_initialized_RX4 gm_code_yX4_begin_cX4_begin_2_none) rfl rfl rfl (by decide +kernel) ⟨Nat.le_of_ble_eq_true rfl, Nat.le_of_ble_eq_true rfl⟩) ⟨fun a U g mk q => by obtain ⟨q0, q1, q2, qP, qK, qD, qN⟩ := q; exact ⟨q0, q1, q2, qP, va_K.moved (u := U) (U := U.calling g mk a) (Vm.Alike.refl U.vm) qK, qD, nx_same (u := U) (U := U.calling g mk a) rfl qN⟩, va_recv hK hP (ci := 4) (q0 := (50 + 16 * i + 1)) rfl (hQ.b1 hi), fun U hU hW => ⟨rfl, by rw [hU], by rw [hU], by rw [hU]; exact hP, va_K.moved hW.alike hK, hD.weaken (fun _ _ _ _ => trivial), nx_warm hW hN⟩⟩ rfl rfl hl.1 rfl (lv_room (Nat.le_of_ble_eq_true rfl)) dX7_begin_50 ⟨Nat.le_of_ble_eq_true rfl, Nat.le_of_ble_eq_true rfl⟩) hS (fun q _ h => hFc q h) hFc (fun u_83 t H1 locs ht hvm hw hB hz1 hk1 hS => ?_)
          obtain ⟨ad_84, ga_85, gc_86, M_87, n_88, f_89, T_90, G_91, K_92, F_93⟩ := u_83
          have hB : ∃ w : va_W, va_P (dC, dI) vwCl w t.heap ∧ va_D (va_A ws_74 H.size) w ∧ Pic9 kc w ad ga gc M n f T G_91 K_92 F ∧ I9 M n f T gc G_91 K_92 F R ∧ hpS t.heap + (260 * M + 2 * S9 M gc) ≤ hpS H + (260 * M + 2 * S9 M gc) ∧ 16 * t.heap.size + (256 * M + S9 M gc) ≤ 16 * H.size + (256 * M + S9 M gc) := hB
          rw [ht] at hB
          obtain ⟨ws_94, hP, hD, hQ, hI_95, hy1, hy2⟩ := hB
          have hD := hD.weaken (fun k q _ h => hFc _ h)
          obtain ⟨i1_96, i2_97, i3_98, i4_99, i5_100, i6_101, i7_102, i8_103, i9_104, i10_105, i11_106⟩ := id hI_95
          have q1_ := i1_96
          unfold i1 at q1_
          generalize H1 = H at hP hS ⊢
          have hc_108 : (C9.mk n f T G_91 K_92 F) = k_kinN i (C9.mk n f T G_73 K F) := hw.1
          have w_107 : (∀ a : Nat, G_91 a 2 = G_73 a 2) ∧ (∀ a : Nat, G_91 a 3 = G_73 a 3) ∧ K_92 i 3 = none ∧ (∀ a : Nat, a ≠ i → K_92 a = K a) := hw.2
          exact by
           refine lv_aload_n hx hb dX7_begin_53 rfl (lv_at hl 0 rfl) ?_
           refine va_get (D := (dC, dI)) (ci := 7) (v := .ref (ad (50 + 16 * i + 2))) (C := RX7) (T := TX7) (N := 15) hx hb hg gb_7 hown hK hP (50 + 16 * i) (hQ.b0 hi) rfl 11 (by decide) (hg _ gm_fieldLink_RX7_21_ErrandGuild_Run_memory_LErrandGuild_Memory_) (fun _ h9 => h9) rfl dX7_begin_54 ?_
           have hCc : ([(50 + 16 * i + 2), (50 + 16 * i + 3), (50 + 16 * i + 5)] : List Nat).map (fun i => ws_94[i]?) = ([(ad (50 + 16 * i + 2), .inr (6, [.ref (ad (50 + 16 * i + 3)), .ref (ad (50 + 16 * i + 4)), .ref (ad (50 + 16 * i + 5))])), (ad (50 + 16 * i + 3), .inl (kc 1, 8, .inl (F i 0))), (ad (50 + 16 * i + 5), .inl (kc 0, 8, .inl (F i 2)))] : va_W).map some := mp3 (hQ.b2 hi) (hQ.b3 hi) (hQ.b5 hi)
           have hNd : ([(50 + 16 * i + 2), (50 + 16 * i + 3), (50 + 16 * i + 5)] : List Nat).Nodup := (nd_off (50 + 16 * i) (l := [2, 3, 5]) (by decide))
           have hPc := hP.pick [(50 + 16 * i + 2), (50 + 16 * i + 3), (50 + 16 * i + 5)] hCc
           have hDc := hD.pick [(50 + 16 * i + 2), (50 + 16 * i + 3), (50 + 16 * i + 5)] hNd hCc
           have hKc := hK.sub (tys' := [((kc 1), .boolean), ((kc 0), .int)]) [1, 0] rfl
           have hFc := va_free (wc := [(ad (50 + 16 * i + 2), .inr (6, [.ref (ad (50 + 16 * i + 3)), .ref (ad (50 + 16 * i + 4)), .ref (ad (50 + 16 * i + 5))])), (ad (50 + 16 * i + 3), .inl (kc 1, 8, .inl (F i 0))), (ad (50 + 16 * i + 5), .inl (kc 0, 8, .inl (F i 2)))]) hD hS hA [(50 + 16 * i + 2), (50 + 16 * i + 3), (50 + 16 * i + 5)] hCc
           refine va_callv (va_runV (As := []) (rest := []) ⟨hx, hb, hml, hown, hg⟩ (c_X6_clear l dC dI (ad (50 + 16 * i + 2)) (ad (50 + 16 * i + 3)) (ad (50 + 16 * i + 4)) (ad (50 + 16 * i + 5)) (kc 1) (kc 0) (F i 0) (F i 2) H.size ) (cwV 0 hg (gw_V gm_methodLink_RX7_85_yX6_clear gm_instanceMethod_yX6_clear gm_selects_RX6_yX6_clear_yX6_clear gm_initialized_RX6 gm_code_yX6_clear_cX6_clear_2_none) rfl rfl rfl (by decide +kernel) ⟨Nat.le_of_ble_eq_true rfl, Nat.le_of_ble_eq_true rfl⟩) ⟨fun a U g mk q => by obtain ⟨q0, q1, qP, qK, qD, qN⟩ := q; exact ⟨q0, q1, qP, va_K.moved (u := U) (U := U.calling g mk a) (Vm.Alike.refl U.vm) qK, qD, nx_same (u := U) (U := U.calling g mk a) rfl qN⟩, va_recv hK hP (ci := 6) (q0 := (50 + 16 * i + 2)) rfl (hQ.b2 hi), fun U hU hW => ⟨rfl, by rw [hU], by rw [hU]; exact hPc, va_K.moved hW.alike hKc, hDc.weaken (fun _ _ _ _ => trivial), nx_warm hW hN⟩⟩ rfl rfl hl.1 rfl (lv_room (Nat.le_of_ble_eq_true rfl)) dX7_begin_57 ⟨Nat.le_of_ble_eq_true rfl, Nat.le_of_ble_eq_true rfl⟩) hS (fun q _ h => hFc q h) hFc (fun u_110 t H1 locs ht hvm hw hB hz1 hk1 hS => ?_)
           obtain ⟨ad_111, ac_112, af_113, ag_114⟩ := u_110
           obtain ⟨hP1, hD1, hK1, qe_115, qe_116⟩ := hB
           rw [ht] at hP1
           have hP1 : va_P (dC, dI) vwCl [((ad (50 + 16 * i + 2)), .inr (6, [.ref (ad (50 + 16 * i + 3)), .ref (ad (50 + 16 * i + 4)), .ref (ad (50 + 16 * i + 5))])), ((ad (50 + 16 * i + 3)), .inl ((kc 1), 8, .inl (af_113 0))), ((ad (50 + 16 * i + 5)), .inl ((kc 0), 8, .inl (af_113 2)))] H1 := hP1
           have hD1 : va_D _ [((ad (50 + 16 * i + 2)), .inr (6, [.ref (ad (50 + 16 * i + 3)), .ref (ad (50 + 16 * i + 4)), .ref (ad (50 + 16 * i + 5))])), ((ad (50 + 16 * i + 3)), .inl ((kc 1), 8, .inl (af_113 0))), ((ad (50 + 16 * i + 5)), .inl ((kc 0), 8, .inl (af_113 2)))] := hD1
           have qe_115 : (af_113 0) = clr8 (F i 0) 8 := qe_115
           have qe_116 : (af_113 2) = clr8 (F i 2) 8 := qe_116
           rw [qe_115, qe_116] at hP1 hD1
           obtain ⟨hP, hD⟩ := va_repl (w1 := [((ad (50 + 16 * i + 2)), .inr (6, [.ref (ad (50 + 16 * i + 3)), .ref (ad (50 + 16 * i + 4)), .ref (ad (50 + 16 * i + 5))])), ((ad (50 + 16 * i + 3)), .inl ((kc 1), 8, .inl (clr8 (F i 0) 8))), ((ad (50 + 16 * i + 5)), .inl ((kc 0), 8, .inl (clr8 (F i 2) 8)))]) hP hD [(50 + 16 * i + 2), (50 + 16 * i + 3), (50 + 16 * i + 5)] hCc hNd rfl hk1 hFc hP1 hD1
           obtain ⟨ws_118, F_117, eF_117, hP, hD, hQ⟩ : ∃ (ws_118 : va_W) (F_117 : Nat → Nat → Nat → Int32), F_117 = u2 (u2 F i 0 (clr8 (F i 0) 8)) i 2 (clr8 (F i 2) 8) ∧ va_P (dC, dI) vwCl ws_118 H1 ∧ va_D A ws_118 ∧ Pic9 kc ws_118 ad ga gc M n f T G_91 K_92 F_117 := ⟨_, _, rfl, hP, hD, ((hQ.same (hQ.b2 hi)).arr hi 3 0 (by decide) (clr8 (F i 0) 8) rfl).arr hi 5 2 (by decide) (clr8 (F i 2) 8) rfl⟩
           have i10_119 : i10 M G_91 K_92 F_117 := by rw [eF_117]; exact (i10.pF (i10.pF i10_105 hi _ _) hi _ _)
           have i11_120 : i11 M n gc f G_91 F_117 := by rw [eF_117]; exact (i11.pF (i11.pF i11_106 i _ (by decide)) i _ (by decide))
           generalize H1 = H at hP hS ⊢
           exact by
            refine lv_aload_n hx hb dX7_begin_60 rfl (lv_at hl 0 rfl) ?_
            refine va_get (D := (dC, dI)) (ci := 7) (v := .ref (ad (50 + 16 * i + 6))) (C := RX7) (T := TX7) (N := 15) hx hb hg gb_7 hown hK hP (50 + 16 * i) (hQ.b0 hi) rfl 12 (by decide) (hg _ gm_fieldLink_RX7_28_ErrandGuild_Run_scopes_LErrandGuild_Scopes_) (fun _ h9 => h9) rfl dX7_begin_61 ?_
            have hCc : ([(50 + 16 * i + 6)] : List Nat).map (fun i => ws_118[i]?) = ([(ad (50 + 16 * i + 6), .inr (8, [.ref (ad (50 + 16 * i + 7)), .ref (ad (50 + 16 * i + 8)), .ref (ad (50 + 16 * i + 9)), .int (G_91 i 14), .ref (ad (50 + 16 * i + 10)), .ref (ad (50 + 16 * i + 11)), .ref (ad (50 + 16 * i + 12)), .int (G_91 i 15), .int (G_91 i 16)]))] : va_W).map some := mp1 (hQ.b6 hi)
            have hNd : ([(50 + 16 * i + 6)] : List Nat).Nodup := (nd_off (50 + 16 * i) (l := [6]) (by decide))
            have hPc := hP.pick [(50 + 16 * i + 6)] hCc
            have hDc := hD.pick [(50 + 16 * i + 6)] hNd hCc
            have hKc := hK.sub (tys' := []) [] rfl
            have hFc := va_free (wc := [(ad (50 + 16 * i + 6), .inr (8, [.ref (ad (50 + 16 * i + 7)), .ref (ad (50 + 16 * i + 8)), .ref (ad (50 + 16 * i + 9)), .int (G_91 i 14), .ref (ad (50 + 16 * i + 10)), .ref (ad (50 + 16 * i + 11)), .ref (ad (50 + 16 * i + 12)), .int (G_91 i 15), .int (G_91 i 16)]))]) hD hS hA [(50 + 16 * i + 6)] hCc
            refine va_callv (va_runV (As := []) (rest := []) ⟨hx, hb, hml, hown, hg⟩ (c_X8_clear l dC dI (ad (50 + 16 * i + 6)) (ad (50 + 16 * i + 7)) (ad (50 + 16 * i + 8)) (ad (50 + 16 * i + 9)) (ad (50 + 16 * i + 10)) (ad (50 + 16 * i + 11)) (ad (50 + 16 * i + 12)) (G_91 i 14) (G_91 i 15) (G_91 i 16) H.size ) (cwV 0 hg (gw_V gm_methodLink_RX7_88_yX8_clear gm_instanceMethod_yX8_clear gm_selects_RX8_yX8_clear_yX8_clear gm_initialized_RX8 gm_code_yX8_clear_cX8_clear_1_none) rfl rfl rfl (by decide +kernel) ⟨Nat.le_of_ble_eq_true rfl, Nat.le_of_ble_eq_true rfl⟩) ⟨fun a U g mk q => by obtain ⟨q0, q1, qP, qK, qD, qN⟩ := q; exact ⟨q0, q1, qP, va_K.moved (u := U) (U := U.calling g mk a) (Vm.Alike.refl U.vm) qK, qD, nx_same (u := U) (U := U.calling g mk a) rfl qN⟩, va_recv hK hP (ci := 8) (q0 := (50 + 16 * i + 6)) rfl (hQ.b6 hi), fun U hU hW => ⟨rfl, by rw [hU], by rw [hU]; exact hPc, va_K.moved hW.alike hKc, hDc.weaken (fun _ _ _ _ => trivial), nx_warm hW hN⟩⟩ rfl rfl hl.1 rfl (lv_room (Nat.le_of_ble_eq_true rfl)) dX7_begin_64 ⟨Nat.le_of_ble_eq_true rfl, Nat.le_of_ble_eq_true rfl⟩) hS (fun q _ h => hFc q h) hFc (fun u_122 t H1 locs ht hvm hw hB hz1 hk1 hS => ?_)
            obtain ⟨ad_123, ac_124, af_125, ag_126⟩ := u_122
            obtain ⟨hP1, hD1, hK1⟩ := hB
            rw [ht] at hP1
            obtain ⟨hP, hD⟩ := va_repl (w1 := [((ad (50 + 16 * i + 6)), .inr (8, [.ref (ad (50 + 16 * i + 7)), .ref (ad (50 + 16 * i + 8)), .ref (ad (50 + 16 * i + 9)), .int 0, .ref (ad (50 + 16 * i + 10)), .ref (ad (50 + 16 * i + 11)), .ref (ad (50 + 16 * i + 12)), .int 0, .int 0]))]) hP hD [(50 + 16 * i + 6)] hCc hNd rfl hk1 hFc hP1 hD1
            obtain ⟨ws_128, G_127, eG_127, hP, hD, hQ⟩ : ∃ (ws_128 : va_W) (G_127 : Nat → Nat → Int32), G_127 = u2 (u2 (u2 G_91 i 14 0) i 15 0) i 16 0 ∧ va_P (dC, dI) vwCl ws_128 H1 ∧ va_D A ws_128 ∧ Pic9 kc ws_128 ad ga gc M n f T G_127 K_92 F_117 := ⟨_, _, rfl, hP, hD, hQ.sco2 hi 0 0 0⟩
            have i10_129 : i10 M G_127 K_92 F_117 := by rw [eG_127]; exact (i10.pG (i10.pG (i10.pG i10_119 hi _ (by decide)) hi _ (by decide)) hi _ (by decide))
            have i11_130 : i11 M n gc f G_127 F_117 := by rw [eG_127]; exact (i11.pG (i11.pG (i11.pG i11_120 i _ (by decide)) i _ (by decide)) i _ (by decide))
            have i6_131 : i6 n T G_127 := by rw [eG_127]; exact (i6.pG (i6.pG (i6.pG i6_101 i _ (by decide)) i _ (by decide)) i _ (by decide))
            have i7_132 : i7 n G_127 := by rw [eG_127]; exact (i7.pG (i7.pG (i7.pG i7_102 i _ (by decide)) i _ (by decide)) i _ (by decide))
            have i8_133 : i8 M n gc G_127 := by rw [eG_127]; exact (i8.pG (i8.pG (i8.pG i8_103 i _ (by decide)) i _ (by decide)) i _ (by decide))
            have i9_134 : i9 M gc G_127 R := by rw [eG_127]; exact (i9.pG (i9.pG (i9.pG i9_104 i _ (by decide)) i _ (by decide)) i _ (by decide))
            generalize H1 = H at hP hS ⊢
            exact by
             refine lv_aload_n hx hb dX7_begin_67 rfl (lv_at hl 0 rfl) ?_
             refine va_get (D := (dC, dI)) (ci := 7) (v := .ref (ad (50 + 16 * i + 13))) (C := RX7) (T := TX7) (N := 15) hx hb hg gb_7 hown hK hP (50 + 16 * i) (hQ.b0 hi) rfl 13 (by decide) (hg _ gm_fieldLink_RX7_35_ErrandGuild_Run_fault_LErrandGuild_Fault_) (fun _ h9 => h9) rfl dX7_begin_68 ?_
             have hCc : ([(50 + 16 * i + 13)] : List Nat).map (fun i => ws_128[i]?) = ([(ad (50 + 16 * i + 13), .inr (2, [.int (G_127 i 17), .int (G_127 i 18), .int (G_127 i 19), .int (G_127 i 20), .int (G_127 i 21)]))] : va_W).map some := mp1 (hQ.b13 hi)
             have hNd : ([(50 + 16 * i + 13)] : List Nat).Nodup := (nd_off (50 + 16 * i) (l := [13]) (by decide))
             have hPc := hP.pick [(50 + 16 * i + 13)] hCc
             have hDc := hD.pick [(50 + 16 * i + 13)] hNd hCc
             have hKc := hK.sub (tys' := []) [] rfl
             have hFc := va_free (wc := [(ad (50 + 16 * i + 13), .inr (2, [.int (G_127 i 17), .int (G_127 i 18), .int (G_127 i 19), .int (G_127 i 20), .int (G_127 i 21)]))]) hD hS hA [(50 + 16 * i + 13)] hCc
             refine va_callv (va_runV (As := []) (rest := []) ⟨hx, hb, hml, hown, hg⟩ (c_X2_clear l dC dI (ad (50 + 16 * i + 13)) (G_127 i 17) (G_127 i 18) (G_127 i 19) (G_127 i 20) (G_127 i 21) H.size ) (cwV 0 hg (gw_V gm_methodLink_RX7_89_yX2_clear gm_instanceMethod_yX2_clear gm_selects_RX2_yX2_clear_yX2_clear gm_initialized_RX2 gm_code_yX2_clear_cX2_clear_1_none) rfl rfl rfl (by decide +kernel) ⟨Nat.le_of_ble_eq_true rfl, Nat.le_of_ble_eq_true rfl⟩) ⟨fun a U g mk q => by obtain ⟨q0, q1, qP, qK, qD, qN⟩ := q; exact ⟨q0, q1, qP, va_K.moved (u := U) (U := U.calling g mk a) (Vm.Alike.refl U.vm) qK, qD, nx_same (u := U) (U := U.calling g mk a) rfl qN⟩, va_recv hK hP (ci := 2) (q0 := (50 + 16 * i + 13)) rfl (hQ.b13 hi), fun U hU hW => ⟨rfl, by rw [hU], by rw [hU]; exact hPc, va_K.moved hW.alike hKc, hDc.weaken (fun _ _ _ _ => trivial), nx_warm hW hN⟩⟩ rfl rfl hl.1 rfl (lv_room (Nat.le_of_ble_eq_true rfl)) dX7_begin_71 ⟨Nat.le_of_ble_eq_true rfl, Nat.le_of_ble_eq_true rfl⟩) hS (fun q _ h => hFc q h) hFc (fun u_136 t H1 locs ht hvm hw hB hz1 hk1 hS => ?_)
             obtain ⟨ad_137, ac_138, af_139, ag_140⟩ := u_136
             obtain ⟨hP1, hD1, hK1⟩ := hB
             rw [ht] at hP1
             obtain ⟨hP, hD⟩ := va_repl (w1 := [((ad (50 + 16 * i + 13)), .inr (2, [.int (-1), .int (-1), .int (-1), .int 0, .int 0]))]) hP hD [(50 + 16 * i + 13)] hCc hNd rfl hk1 hFc hP1 hD1
             obtain ⟨ws_142, G_141, eG_141, hP, hD, hQ⟩ : ∃ (ws_142 : va_W) (G_141 : Nat → Nat → Int32), G_141 = u2 (u2 (u2 (u2 (u2 G_127 i 17 (-1)) i 18 (-1)) i 19 (-1)) i 20 0) i 21 0 ∧ va_P (dC, dI) vwCl ws_142 H1 ∧ va_D A ws_142 ∧ Pic9 kc ws_142 ad ga gc M n f T G_141 K_92 F_117 := ⟨_, _, rfl, hP, hD, hQ.flt2 hi (-1) (-1) (-1) 0 0⟩
             have i10_143 : i10 M G_141 K_92 F_117 := by rw [eG_141]; exact (i10.pG (i10.pG (i10.pG (i10.pG (i10.pG i10_129 hi _ (by decide)) hi _ (by decide)) hi _ (by decide)) hi _ (by decide)) hi _ (by decide))
             have i11_144 : i11 M n gc f G_141 F_117 := by rw [eG_141]; exact (i11.pG (i11.pG (i11.pG (i11.pG (i11.pG i11_130 i _ (by decide)) i _ (by decide)) i _ (by decide)) i _ (by decide)) i _ (by decide))
             have i6_145 : i6 n T G_141 := by rw [eG_141]; exact (i6.pG (i6.pG (i6.pG (i6.pG (i6.pG i6_131 i _ (by decide)) i _ (by decide)) i _ (by decide)) i _ (by decide)) i _ (by decide))
             have i7_146 : i7 n G_141 := by rw [eG_141]; exact (i7.pG (i7.pG (i7.pG (i7.pG (i7.pG i7_132 i _ (by decide)) i _ (by decide)) i _ (by decide)) i _ (by decide)) i _ (by decide))
             have i8_147 : i8 M n gc G_141 := by rw [eG_141]; exact (i8.pG (i8.pG (i8.pG (i8.pG (i8.pG i8_133 i _ (by decide)) i _ (by decide)) i _ (by decide)) i _ (by decide)) i _ (by decide))
             have i9_148 : i9 M gc G_141 R := by rw [eG_141]; exact (i9.pG (i9.pG (i9.pG (i9.pG (i9.pG i9_134 i _ (by decide)) i _ (by decide)) i _ (by decide)) i _ (by decide)) i _ (by decide))
             generalize H1 = H at hP hS ⊢
             exact by
              refine lv_aload_n hx hb dX7_begin_74 rfl (lv_at hl 0 rfl) ?_
              refine va_get (D := (dC, dI)) (ci := 7) (v := .ref (ad (50 + 16 * i + 14))) (C := RX7) (T := TX7) (N := 15) hx hb hg gb_7 hown hK hP (50 + 16 * i) (hQ.b0 hi) rfl 14 (by decide) (hg _ gm_fieldLink_RX7_45_ErrandGuild_Run_remarks_LErrandGuild_Cells_) (fun _ h9 => h9) rfl dX7_begin_75 ?_
              have hCc : ([(50 + 16 * i + 14)] : List Nat).map (fun i => ws_142[i]?) = ([(ad (50 + 16 * i + 14), .inr (0, [.int (G_141 i 22), .ref (ga (3 + i)), .int (G_141 i 23)]))] : va_W).map some := mp1 (hQ.b14 hi)
              have hNd : ([(50 + 16 * i + 14)] : List Nat).Nodup := (nd_off (50 + 16 * i) (l := [14]) (by decide))
              have hPc := hP.pick [(50 + 16 * i + 14)] hCc
              have hDc := hD.pick [(50 + 16 * i + 14)] hNd hCc
              have hKc := hK.sub (tys' := []) [] rfl
              have hFc := va_free (wc := [(ad (50 + 16 * i + 14), .inr (0, [.int (G_141 i 22), .ref (ga (3 + i)), .int (G_141 i 23)]))]) hD hS hA [(50 + 16 * i + 14)] hCc
              refine va_callv (va_runV (As := []) (rest := []) ⟨hx, hb, hml, hown, hg⟩ (c_X0_clear l dC dI (ad (50 + 16 * i + 14)) (ga (3 + i)) (G_141 i 22) (G_141 i 23) H.size ) (cwV 0 hg (gw_V gm_methodLink_RX7_90_yX0_clear gm_instanceMethod_yX0_clear gm_selects_RX0_yX0_clear_yX0_clear gm_initialized_RX0 gm_code_yX0_clear_cX0_clear_1_none) rfl rfl rfl (by decide +kernel) ⟨Nat.le_of_ble_eq_true rfl, Nat.le_of_ble_eq_true rfl⟩) ⟨fun a U g mk q => by obtain ⟨q0, q1, qP, qK, qD, qN⟩ := q; exact ⟨q0, q1, qP, va_K.moved (u := U) (U := U.calling g mk a) (Vm.Alike.refl U.vm) qK, qD, nx_same (u := U) (U := U.calling g mk a) rfl qN⟩, va_recv hK hP (ci := 0) (q0 := (50 + 16 * i + 14)) rfl (hQ.b14 hi), fun U hU hW => ⟨rfl, by rw [hU], by rw [hU]; exact hPc, va_K.moved hW.alike hKc, hDc.weaken (fun _ _ _ _ => trivial), nx_warm hW hN⟩⟩ rfl rfl hl.1 rfl (lv_room (Nat.le_of_ble_eq_true rfl)) dX7_begin_78 ⟨Nat.le_of_ble_eq_true rfl, Nat.le_of_ble_eq_true rfl⟩) hS (fun q _ h => hFc q h) hFc (fun u_150 t H1 locs ht hvm hw hB hz1 hk1 hS => ?_)
              obtain ⟨ad_151, ac_152, af_153, ag_154⟩ := u_150
              obtain ⟨hP1, hD1, hK1⟩ := hB
              rw [ht] at hP1
              obtain ⟨hP, hD⟩ := va_repl (w1 := [((ad (50 + 16 * i + 14)), .inr (0, [.int (G_141 i 22), .ref (ga (3 + i)), .int 0]))]) hP hD [(50 + 16 * i + 14)] hCc hNd rfl hk1 hFc hP1 hD1
              obtain ⟨ws_156, G_155, eG_155, hP, hD, hQ⟩ : ∃ (ws_156 : va_W) (G_155 : Nat → Nat → Int32), G_155 = u2 G_141 i 23 0 ∧ va_P (dC, dI) vwCl ws_156 H1 ∧ va_D A ws_156 ∧ Pic9 kc ws_156 ad ga gc M n f T G_155 K_92 F_117 := ⟨_, _, rfl, hP, hD, hQ.remC hi 0⟩
              have i10_157 : i10 M G_155 K_92 F_117 := by rw [eG_155]; exact (i10.pG i10_143 hi _ (by decide))
              have i11_158 : i11 M n gc f G_155 F_117 := by rw [eG_155]; exact (i11.clr i11_144 i)
              have i6_159 : i6 n T G_155 := by rw [eG_155]; exact (i6.pG i6_145 i _ (by decide))
              have i7_160 : i7 n G_155 := by rw [eG_155]; exact (i7.pG i7_146 i _ (by decide))
              have i8_161 : i8 M n gc G_155 := by rw [eG_155]; exact (i8.pG i8_147 i _ (by decide))
              have i9_162 : i9 M gc G_155 R := by rw [eG_155]; exact (i9.clr i9_148 i)
              generalize H1 = H at hP hS ⊢
              refine W_msr2 (fun hm1 hm2 hm3 => ?_)
              exact W.vret hx hb hr (fun t ht hW => ⟨⟨(ad, ga, gc, M, n, f, T, G_155, K_92, F_117), rfl, ⟨(by show (C9.mk n f T G_155 K_92 F_117) = k_begN i v1 (C9.mk n f T G K F); have e0 : (C9.mk n f T G_73 K F) = k_beg0 i v1 (C9.mk n f T G K F) := (by rw [eG_73]; rw [eG_64]; rw [eG_55]; rw [eG_46]; rw [eG_37]; rw [eG_28]; rw [eG_19]; rw [eG_10]; rw [eG_1]; rfl); have e1 : (C9.mk n f T G_155 K_92 F_117) = k_beg1 i (k_kinN i (C9.mk n f T G_73 K F)) := (by rw [← hc_108]; rw [eG_155]; rw [eG_141]; rw [eG_127]; rw [eF_117]; rfl); rw [e1, e0]; exact (k_begN.eq_1 i v1 (C9.mk n f T G K F)).symm), ⟨by show (G_155 i 2).toInt = 0; rw [eG_155]; (repeat rw [u2_n2 _ _ _ _ (show (2 : Nat) ≠ _ by decide)]); rw [eG_141]; (repeat rw [u2_n2 _ _ _ _ (show (2 : Nat) ≠ _ by decide)]); rw [eG_127]; (repeat rw [u2_n2 _ _ _ _ (show (2 : Nat) ≠ _ by decide)]); rw [w_107.1]; rw [eG_73]; (repeat rw [u2_n2 _ _ _ _ (show (2 : Nat) ≠ _ by decide)]); rw [eG_64]; (repeat rw [u2_n2 _ _ _ _ (show (2 : Nat) ≠ _ by decide)]); rw [eG_55]; (repeat rw [u2_n2 _ _ _ _ (show (2 : Nat) ≠ _ by decide)]); rw [eG_46]; (repeat rw [u2_n2 _ _ _ _ (show (2 : Nat) ≠ _ by decide)]); rw [eG_37]; (repeat rw [u2_n2 _ _ _ _ (show (2 : Nat) ≠ _ by decide)]); rw [eG_28]; (repeat rw [u2_n2 _ _ _ _ (show (2 : Nat) ≠ _ by decide)]); rw [eG_19]; (repeat rw [u2_n2 _ _ _ _ (show (2 : Nat) ≠ _ by decide)]); rw [eG_10, u2_eq]; decide, by show (G_155 i 3).toInt = -1; rw [eG_155]; (repeat rw [u2_n2 _ _ _ _ (show (3 : Nat) ≠ _ by decide)]); rw [eG_141]; (repeat rw [u2_n2 _ _ _ _ (show (3 : Nat) ≠ _ by decide)]); rw [eG_127]; (repeat rw [u2_n2 _ _ _ _ (show (3 : Nat) ≠ _ by decide)]); rw [w_107.2.1]; rw [eG_73]; (repeat rw [u2_n2 _ _ _ _ (show (3 : Nat) ≠ _ by decide)]); rw [eG_64]; (repeat rw [u2_n2 _ _ _ _ (show (3 : Nat) ≠ _ by decide)]); rw [eG_55]; (repeat rw [u2_n2 _ _ _ _ (show (3 : Nat) ≠ _ by decide)]); rw [eG_46]; (repeat rw [u2_n2 _ _ _ _ (show (3 : Nat) ≠ _ by decide)]); rw [eG_37]; (repeat rw [u2_n2 _ _ _ _ (show (3 : Nat) ≠ _ by decide)]); rw [eG_28]; (repeat rw [u2_n2 _ _ _ _ (show (3 : Nat) ≠ _ by decide)]); rw [eG_19, u2_eq]; decide, by show K_92 i 3 = none; exact w_107.2.2.1, fun a ha => by show K_92 a = K a; exact w_107.2.2.2 a ha⟩⟩, ws_156, by rw [ht]; exact hP, hD, hQ, ⟨i1_96, i2_97, i3_98, i4_99, i5_100, i6_159, i7_160, i8_161, i9_162, i10_157, i11_158⟩, by rw [ht]; show hpS H + (260 * M + 2 * S9 M gc) ≤ hpS s.heap + (260 * M + 2 * S9 M gc); omega, by rw [ht]; show 16 * H.size + (256 * M + S9 M gc) ≤ 16 * s.heap.size + (256 * M + S9 M gc); omega⟩, hS.F ht⟩) hS.2.2 dX7_begin_81

set_option maxHeartbeats 8000000 in
set_option maxRecDepth 100000 in
theorem c_X7_begin_r (l : Launch) (dC : Nat → ClassId) (dI : Nat → Nat → Nat) (kc : Nat → ClassId) (ws : va_W) (ad : Nat → Nat) (ga : Nat → Nat) (gc : Nat → Nat) (M : Nat) (n : Nat → Int32) (f : Nat → Nat → Int32) (T : Nat → Option Nat) (G : Nat → Nat → Int32) (K : Nat → Nat → Option Nat) (F : Nat → Nat → Nat → Int32) (R : Nat) (i : Nat) (v1 : Int32) (q : Nat) (sz hz : Nat) (hQ : Pic9 kc ws ad ga gc M n f T G K F) (hI : I9 M n f T gc G K F R) (hi : i < M) (hq : q < M) : Met l yX7_begin (.code yX7_begin cX7_begin 3 none :: gw) ({ frames := 2, cells := 0, slots := 0, locals := 41 }) (va_Pc [.ref (ad (50 + 16 * i)), .int v1, .ref (ad (50 + 16 * q))] (fun U => U.heap.size = sz ∧ hpS U.heap = hz ∧ va_P (dC, dI) vwCl ws U.heap ∧ va_K (dC, dI) vwCl (t9 kc) U ∧ va_D (fun _ => True) ws ∧ nx U)) (va_Qv (fun (u : (Nat → Nat) × (Nat → Nat) × (Nat → Nat) × Nat × (Nat → Int32) × (Nat → Nat → Int32) × (Nat → Option Nat) × (Nat → Nat → Int32) × (Nat → Nat → Option Nat) × (Nat → Nat → Nat → Int32)) => (C9.mk n f T u.2.2.2.2.2.2.2.1 u.2.2.2.2.2.2.2.2.1 u.2.2.2.2.2.2.2.2.2) = k_begR i q v1 (C9.mk n f T G K F) ∧ (u.2.2.2.2.2.2.2.1 i 2).toInt = 0 ∧ (u.2.2.2.2.2.2.2.1 i 3).toInt = -1 ∧ u.2.2.2.2.2.2.2.2.1 i 3 = none ∧ (∀ a : Nat, a ≠ i → u.2.2.2.2.2.2.2.2.1 a = K a)) (fun u t => ∃ w : va_W, va_P (dC, dI) vwCl w t.heap ∧ va_D (va_A ws sz) w ∧ Pic9 kc w ad ga gc M n f T u.2.2.2.2.2.2.2.1 u.2.2.2.2.2.2.2.2.1 u.2.2.2.2.2.2.2.2.2 ∧ I9 M n f T gc u.2.2.2.2.2.2.2.1 u.2.2.2.2.2.2.2.2.1 u.2.2.2.2.2.2.2.2.2 R ∧ hpS t.heap + (260 * M + 2 * S9 M gc) ≤ hz + (260 * M + 2 * S9 M gc) ∧ 16 * t.heap.size + (256 * M + S9 M gc) ≤ 16 * sz + (256 * M + S9 M gc)) (va_A ws sz)) 0 0 (va_A ws sz) := by
  refine Met.ofW (cc := cX7_begin) (maxL := 3) (ret := none) (by decide) rfl ?_
  intro p e s m args below meth c s₁ B hml hv
  obtain ⟨rfl, hsz, rfl, hP, hK, hD0, hN⟩ := hv
  have hx := B.exec
  have hb := B.bytes
  have hr := B.returns
  have hts := atoms_spec (ws := .code yX7_begin cX7_begin 3 none :: gw) B.pre
  have hg : ∀ w ∈ gw, w.before _ s = true := fun w h => hts w (List.mem_cons_of_mem _ h)
  have hown : s.vm.findClass RX7 = some m.cls := findClass_of_methodNamed B.named
  have hlocks := B.notSynchronized
  subst hsz
  have hD := hD0.self (sz := s.heap.size)
  generalize hAe : va_A ws s.heap.size = A at hD ⊢
  have hA : ∀ q : Nat, s.heap.size ≤ q → A q := fun q h => by rw [← hAe]; exact Or.inr h
  clear hAe
  have hS : va_S A s.heap s.heap [] := va_S.rf
  have hl := lv_entry ([.ref (ad (50 + 16 * i)), .int v1, .ref (ad (50 + 16 * q))]) (n := 3) (Nat.le_of_ble_eq_true rfl)
  rw [lg_entry_eq]
  generalize (lg_sl ([.ref (ad (50 + 16 * i)), .int v1, .ref (ad (50 + 16 * q))]) ++ List.replicate (3 - (lg_sl ([.ref (ad (50 + 16 * i)), .int v1, .ref (ad (50 + 16 * q))])).length) Slot.unset).toArray = ls at hl ⊢
  have hl : lv_has ls 3 [(0, .ref (ad (50 + 16 * i))), (1, .int v1), (2, .ref (ad (50 + 16 * q)))] := hl
  obtain ⟨h_i1, h_i2, h_i3, h_i4, h_i5, h_i6, h_i7, h_i8, h_i9, h_i10, h_i11⟩ := id hI
  have q1_ := h_i1
  unfold i1 at q1_
  exact by
   refine lv_aload_n hx hb dX7_begin_0 rfl (lv_at hl 0 rfl) ?_
   refine lv_iload_n hx hb dX7_begin_1 rfl (lv_at hl 1 rfl) ?_
   refine va_put (D := (dC, dI)) (ci := 7) (v := .int (v1)) (ty := .int) (C := RX7) (T := TX7) (N := 15) hx hb hg gb_7 tyX7 tyX7_ok nmX7 hown hK hP hD hS (50 + 16 * i) (hQ.b0 hi) rfl 1 (by decide) (hg _ gm_fieldLink_RX7_53_ErrandGuild_Run_errand_I_) (fun _ h9 => h9) rfl (by decide +kernel) rfl rfl (Nat.le_of_ble_eq_true rfl) dX7_begin_2 (fun H locs hP hD hS => ?_)
   obtain ⟨ws_2, G_1, eG_1, hP, hD, hQ⟩ : ∃ (ws_2 : va_W) (G_1 : Nat → Nat → Int32), G_1 = u2 G i 1 v1 ∧ va_P (dC, dI) vwCl ws_2 H ∧ va_D A ws_2 ∧ Pic9 kc ws_2 ad ga gc M n f T G_1 K F := ⟨_, _, rfl, hP, hD, hQ.run hi 1 (by decide) v1⟩
   have i10_3 : i10 M G_1 K F := by rw [eG_1]; exact (i10.pG h_i10 hi _ (by decide))
   have i11_4 : i11 M n gc f G_1 F := by rw [eG_1]; exact (i11.pG h_i11 i _ (by decide))
   have i6_5 : i6 n T G_1 := by rw [eG_1]; exact (i6.pG h_i6 i _ (by decide))
   have i7_6 : i7 n G_1 := by rw [eG_1]; exact (i7.pG h_i7 i _ (by decide))
   have i8_7 : i8 M n gc G_1 := by rw [eG_1]; exact (i8.pG h_i8 i _ (by decide))
   have i9_8 : i9 M gc G_1 R := by rw [eG_1]; exact (i9.pG h_i9 i _ (by decide))
   have eg_9 : G_1 i 1 = v1 := by rw [eG_1, u2_eq]
   refine lv_aload_n hx hb dX7_begin_5 rfl (lv_at hl 0 rfl) ?_
   exact by
    refine lv_iconst (v := 0) hx hb dX7_begin_6 (by decide) ?_
    refine va_put (D := (dC, dI)) (ci := 7) (v := .int (0)) (ty := .int) (C := RX7) (T := TX7) (N := 15) hx hb hg gb_7 tyX7 tyX7_ok nmX7 hown hK hP hD hS (50 + 16 * i) (hQ.b0 hi) rfl 2 (by decide) (hg _ gm_fieldLink_RX7_56_ErrandGuild_Run_state_I_) (fun _ h9 => h9) rfl (by decide +kernel) rfl rfl (Nat.le_of_ble_eq_true rfl) dX7_begin_7 (fun H locs hP hD hS => ?_)
    obtain ⟨ws_11, G_10, eG_10, hP, hD, hQ⟩ : ∃ (ws_11 : va_W) (G_10 : Nat → Nat → Int32), G_10 = u2 G_1 i 2 0 ∧ va_P (dC, dI) vwCl ws_11 H ∧ va_D A ws_11 ∧ Pic9 kc ws_11 ad ga gc M n f T G_10 K F := ⟨_, _, rfl, hP, hD, hQ.run hi 2 (by decide) 0⟩
    have i10_12 : i10 M G_10 K F := by rw [eG_10]; exact (i10.pG i10_3 hi _ (by decide))
    have i11_13 : i11 M n gc f G_10 F := by rw [eG_10]; exact (i11.pG i11_4 i _ (by decide))
    have i6_14 : i6 n T G_10 := by rw [eG_10]; exact (i6.pG i6_5 i _ (by decide))
    have i7_15 : i7 n G_10 := by rw [eG_10]; exact (i7.st i7_6 i (by decide))
    have i8_16 : i8 M n gc G_10 := by rw [eG_10]; exact (i8.pG i8_7 i _ (by decide))
    have i9_17 : i9 M gc G_10 R := by rw [eG_10]; exact (i9.pG i9_8 i _ (by decide))
    have eg_18 : G_10 i 2 = 0 := by rw [eG_10, u2_eq]
    refine lv_aload_n hx hb dX7_begin_10 rfl (lv_at hl 0 rfl) ?_
    refine lv_iconst (v := -1) hx hb dX7_begin_11 (by decide) ?_
    exact by
     refine va_put (D := (dC, dI)) (ci := 7) (v := .int (-1)) (ty := .int) (C := RX7) (T := TX7) (N := 15) hx hb hg gb_7 tyX7 tyX7_ok nmX7 hown hK hP hD hS (50 + 16 * i) (hQ.b0 hi) rfl 3 (by decide) (hg _ gm_fieldLink_RX7_59_ErrandGuild_Run_thread_I_) (fun _ h9 => h9) rfl (by decide +kernel) rfl rfl (Nat.le_of_ble_eq_true rfl) dX7_begin_12 (fun H locs hP hD hS => ?_)
     obtain ⟨ws_20, G_19, eG_19, hP, hD, hQ⟩ : ∃ (ws_20 : va_W) (G_19 : Nat → Nat → Int32), G_19 = u2 G_10 i 3 (-1) ∧ va_P (dC, dI) vwCl ws_20 H ∧ va_D A ws_20 ∧ Pic9 kc ws_20 ad ga gc M n f T G_19 K F := ⟨_, _, rfl, hP, hD, hQ.run hi 3 (by decide) (-1)⟩
     have i10_21 : i10 M G_19 K F := by rw [eG_19]; exact (i10.pG i10_12 hi _ (by decide))
     have i11_22 : i11 M n gc f G_19 F := by rw [eG_19]; exact (i11.pG i11_13 i _ (by decide))
     have i6_23 : i6 n T G_19 := by rw [eG_19]; exact i6.off i6_14 i (by decide)
     have i7_24 : i7 n G_19 := by rw [eG_19]; exact i7.off i7_15 _ (by rw [eg_18]; decide)
     have i8_25 : i8 M n gc G_19 := by rw [eG_19]; exact (i8.pG i8_16 i _ (by decide))
     have i9_26 : i9 M gc G_19 R := by rw [eG_19]; exact (i9.pG i9_17 i _ (by decide))
     have eg_27 : G_19 i 3 = (-1) := by rw [eG_19, u2_eq]
     refine lv_aload_n hx hb dX7_begin_15 rfl (lv_at hl 0 rfl) ?_
     refine lv_iconst (v := 0) hx hb dX7_begin_16 (by decide) ?_
     refine va_put (D := (dC, dI)) (ci := 7) (v := .int (0)) (ty := .int) (C := RX7) (T := TX7) (N := 15) hx hb hg gb_7 tyX7 tyX7_ok nmX7 hown hK hP hD hS (50 + 16 * i) (hQ.b0 hi) rfl 4 (by decide) (hg _ gm_fieldLink_RX7_62_ErrandGuild_Run_visits_I_) (fun _ h9 => h9) rfl (by decide +kernel) rfl rfl (Nat.le_of_ble_eq_true rfl) dX7_begin_17 (fun H locs hP hD hS => ?_)
     obtain ⟨ws_29, G_28, eG_28, hP, hD, hQ⟩ : ∃ (ws_29 : va_W) (G_28 : Nat → Nat → Int32), G_28 = u2 G_19 i 4 0 ∧ va_P (dC, dI) vwCl ws_29 H ∧ va_D A ws_29 ∧ Pic9 kc ws_29 ad ga gc M n f T G_28 K F := ⟨_, _, rfl, hP, hD, hQ.run hi 4 (by decide) 0⟩
     have i10_30 : i10 M G_28 K F := by rw [eG_28]; exact (i10.pG i10_21 hi _ (by decide))
     have i11_31 : i11 M n gc f G_28 F := by rw [eG_28]; exact (i11.pG i11_22 i _ (by decide))
     have i6_32 : i6 n T G_28 := by rw [eG_28]; exact (i6.pG i6_23 i _ (by decide))
     have i7_33 : i7 n G_28 := by rw [eG_28]; exact (i7.pG i7_24 i _ (by decide))
     have i8_34 : i8 M n gc G_28 := by rw [eG_28]; exact (i8.pG i8_25 i _ (by decide))
     have i9_35 : i9 M gc G_28 R := by rw [eG_28]; exact (i9.pG i9_26 i _ (by decide))
     have eg_36 : G_28 i 4 = 0 := by rw [eG_28, u2_eq]
     exact by
      refine lv_aload_n hx hb dX7_begin_20 rfl (lv_at hl 0 rfl) ?_
      refine lv_iconst (v := 0) hx hb dX7_begin_21 (by decide) ?_
      refine va_put (D := (dC, dI)) (ci := 7) (v := .int (0)) (ty := .int) (C := RX7) (T := TX7) (N := 15) hx hb hg gb_7 tyX7 tyX7_ok nmX7 hown hK hP hD hS (50 + 16 * i) (hQ.b0 hi) rfl 5 (by decide) (hg _ gm_fieldLink_RX7_65_ErrandGuild_Run_sum_I_) (fun _ h9 => h9) rfl (by decide +kernel) rfl rfl (Nat.le_of_ble_eq_true rfl) dX7_begin_22 (fun H locs hP hD hS => ?_)
      obtain ⟨ws_38, G_37, eG_37, hP, hD, hQ⟩ : ∃ (ws_38 : va_W) (G_37 : Nat → Nat → Int32), G_37 = u2 G_28 i 5 0 ∧ va_P (dC, dI) vwCl ws_38 H ∧ va_D A ws_38 ∧ Pic9 kc ws_38 ad ga gc M n f T G_37 K F := ⟨_, _, rfl, hP, hD, hQ.run hi 5 (by decide) 0⟩
      have i10_39 : i10 M G_37 K F := by rw [eG_37]; exact (i10.pG i10_30 hi _ (by decide))
      have i11_40 : i11 M n gc f G_37 F := by rw [eG_37]; exact (i11.pG i11_31 i _ (by decide))
      have i6_41 : i6 n T G_37 := by rw [eG_37]; exact (i6.pG i6_32 i _ (by decide))
      have i7_42 : i7 n G_37 := by rw [eG_37]; exact (i7.pG i7_33 i _ (by decide))
      have i8_43 : i8 M n gc G_37 := by rw [eG_37]; exact (i8.pG i8_34 i _ (by decide))
      have i9_44 : i9 M gc G_37 R := by rw [eG_37]; exact (i9.pG i9_35 i _ (by decide))
      have eg_45 : G_37 i 5 = 0 := by rw [eG_37, u2_eq]
      refine lv_aload_n hx hb dX7_begin_25 rfl (lv_at hl 0 rfl) ?_
      exact by
       refine lv_iconst (v := 0) hx hb dX7_begin_26 (by decide) ?_
       refine va_put (D := (dC, dI)) (ci := 7) (v := .int (0)) (ty := .int) (C := RX7) (T := TX7) (N := 15) hx hb hg gb_7 tyX7 tyX7_ok nmX7 hown hK hP hD hS (50 + 16 * i) (hQ.b0 hi) rfl 6 (by decide) (hg _ gm_fieldLink_RX7_68_ErrandGuild_Run_place_I_) (fun _ h9 => h9) rfl (by decide +kernel) rfl rfl (Nat.le_of_ble_eq_true rfl) dX7_begin_27 (fun H locs hP hD hS => ?_)
       obtain ⟨ws_47, G_46, eG_46, hP, hD, hQ⟩ : ∃ (ws_47 : va_W) (G_46 : Nat → Nat → Int32), G_46 = u2 G_37 i 6 0 ∧ va_P (dC, dI) vwCl ws_47 H ∧ va_D A ws_47 ∧ Pic9 kc ws_47 ad ga gc M n f T G_46 K F := ⟨_, _, rfl, hP, hD, hQ.run hi 6 (by decide) 0⟩
       have i10_48 : i10 M G_46 K F := by rw [eG_46]; exact (i10.pG i10_39 hi _ (by decide))
       have i11_49 : i11 M n gc f G_46 F := by rw [eG_46]; exact (i11.pG i11_40 i _ (by decide))
       have i6_50 : i6 n T G_46 := by rw [eG_46]; exact (i6.pG i6_41 i _ (by decide))
       have i7_51 : i7 n G_46 := by rw [eG_46]; exact (i7.pG i7_42 i _ (by decide))
       have i8_52 : i8 M n gc G_46 := by rw [eG_46]; exact (i8.pG i8_43 i _ (by decide))
       have i9_53 : i9 M gc G_46 R := by rw [eG_46]; exact (i9.pG i9_44 i _ (by decide))
       have eg_54 : G_46 i 6 = 0 := by rw [eG_46, u2_eq]
       refine lv_aload_n hx hb dX7_begin_30 rfl (lv_at hl 0 rfl) ?_
       refine lv_iconst (v := -1) hx hb dX7_begin_31 (by decide) ?_
       exact by
        refine va_put (D := (dC, dI)) (ci := 7) (v := .int (-1)) (ty := .int) (C := RX7) (T := TX7) (N := 15) hx hb hg gb_7 tyX7 tyX7_ok nmX7 hown hK hP hD hS (50 + 16 * i) (hQ.b0 hi) rfl 7 (by decide) (hg _ gm_fieldLink_RX7_71_ErrandGuild_Run_overBeat_I_) (fun _ h9 => h9) rfl (by decide +kernel) rfl rfl (Nat.le_of_ble_eq_true rfl) dX7_begin_32 (fun H locs hP hD hS => ?_)
        obtain ⟨ws_56, G_55, eG_55, hP, hD, hQ⟩ : ∃ (ws_56 : va_W) (G_55 : Nat → Nat → Int32), G_55 = u2 G_46 i 7 (-1) ∧ va_P (dC, dI) vwCl ws_56 H ∧ va_D A ws_56 ∧ Pic9 kc ws_56 ad ga gc M n f T G_55 K F := ⟨_, _, rfl, hP, hD, hQ.run hi 7 (by decide) (-1)⟩
        have i10_57 : i10 M G_55 K F := by rw [eG_55]; exact (i10.pG i10_48 hi _ (by decide))
        have i11_58 : i11 M n gc f G_55 F := by rw [eG_55]; exact (i11.pG i11_49 i _ (by decide))
        have i6_59 : i6 n T G_55 := by rw [eG_55]; exact (i6.pG i6_50 i _ (by decide))
        have i7_60 : i7 n G_55 := by rw [eG_55]; exact (i7.pG i7_51 i _ (by decide))
        have i8_61 : i8 M n gc G_55 := by rw [eG_55]; exact (i8.pG i8_52 i _ (by decide))
        have i9_62 : i9 M gc G_55 R := by rw [eG_55]; exact (i9.pG i9_53 i _ (by decide))
        have eg_63 : G_55 i 7 = (-1) := by rw [eG_55, u2_eq]
        refine lv_aload_n hx hb dX7_begin_35 rfl (lv_at hl 0 rfl) ?_
        refine lv_iconst (v := 0) hx hb dX7_begin_36 (by decide) ?_
        refine va_put (D := (dC, dI)) (ci := 7) (v := .int (0)) (ty := .boolean) (C := RX7) (T := TX7) (N := 15) hx hb hg gb_7 tyX7 tyX7_ok nmX7 hown hK hP hD hS (50 + 16 * i) (hQ.b0 hi) rfl 8 (by decide) (hg _ gm_fieldLink_RX7_74_ErrandGuild_Run_interrupted_Z_) (fun _ h9 => h9) rfl (by decide +kernel) rfl rfl (Nat.le_of_ble_eq_true rfl) dX7_begin_37 (fun H locs hP hD hS => ?_)
        obtain ⟨ws_65, G_64, eG_64, hP, hD, hQ⟩ : ∃ (ws_65 : va_W) (G_64 : Nat → Nat → Int32), G_64 = u2 G_55 i 8 0 ∧ va_P (dC, dI) vwCl ws_65 H ∧ va_D A ws_65 ∧ Pic9 kc ws_65 ad ga gc M n f T G_64 K F := ⟨_, _, rfl, hP, hD, hQ.run hi 8 (by decide) 0⟩
        have i10_66 : i10 M G_64 K F := by rw [eG_64]; exact (i10.pG i10_57 hi _ (by decide))
        have i11_67 : i11 M n gc f G_64 F := by rw [eG_64]; exact (i11.pG i11_58 i _ (by decide))
        have i6_68 : i6 n T G_64 := by rw [eG_64]; exact (i6.pG i6_59 i _ (by decide))
        have i7_69 : i7 n G_64 := by rw [eG_64]; exact (i7.pG i7_60 i _ (by decide))
        have i8_70 : i8 M n gc G_64 := by rw [eG_64]; exact (i8.pG i8_61 i _ (by decide))
        have i9_71 : i9 M gc G_64 R := by rw [eG_64]; exact (i9.pG i9_62 i _ (by decide))
        have eg_72 : G_64 i 8 = 0 := by rw [eG_64, u2_eq]
        exact by
         refine lv_aload_n hx hb dX7_begin_40 rfl (lv_at hl 0 rfl) ?_
         refine lv_iconst (v := 0) hx hb dX7_begin_41 (by decide) ?_
         refine va_put (D := (dC, dI)) (ci := 7) (v := .int (0)) (ty := .boolean) (C := RX7) (T := TX7) (N := 15) hx hb hg gb_7 tyX7 tyX7_ok nmX7 hown hK hP hD hS (50 + 16 * i) (hQ.b0 hi) rfl 9 (by decide) (hg _ gm_fieldLink_RX7_78_ErrandGuild_Run_returning_Z_) (fun _ h9 => h9) rfl (by decide +kernel) rfl rfl (Nat.le_of_ble_eq_true rfl) dX7_begin_42 (fun H locs hP hD hS => ?_)
         obtain ⟨ws_74, G_73, eG_73, hP, hD, hQ⟩ : ∃ (ws_74 : va_W) (G_73 : Nat → Nat → Int32), G_73 = u2 G_64 i 9 0 ∧ va_P (dC, dI) vwCl ws_74 H ∧ va_D A ws_74 ∧ Pic9 kc ws_74 ad ga gc M n f T G_73 K F := ⟨_, _, rfl, hP, hD, hQ.run hi 9 (by decide) 0⟩
         have i10_75 : i10 M G_73 K F := by rw [eG_73]; exact (i10.pG i10_66 hi _ (by decide))
         have i11_76 : i11 M n gc f G_73 F := by rw [eG_73]; exact (i11.pG i11_67 i _ (by decide))
         have i6_77 : i6 n T G_73 := by rw [eG_73]; exact (i6.pG i6_68 i _ (by decide))
         have i7_78 : i7 n G_73 := by rw [eG_73]; exact (i7.pG i7_69 i _ (by decide))
         have i8_79 : i8 M n gc G_73 := by rw [eG_73]; exact (i8.pG i8_70 i _ (by decide))
         have i9_80 : i9 M gc G_73 R := by rw [eG_73]; exact (i9.pG i9_71 i _ (by decide))
         have eg_81 : G_73 i 9 = 0 := by rw [eG_73, u2_eq]
         refine lv_aload_n hx hb dX7_begin_45 rfl (lv_at hl 0 rfl) ?_
         exact by
          refine va_get (D := (dC, dI)) (ci := 7) (v := .ref (ad (50 + 16 * i + 1))) (C := RX7) (T := TX7) (N := 15) hx hb hg gb_7 hown hK hP (50 + 16 * i) (hQ.b0 hi) rfl 10 (by decide) (hg _ gm_fieldLink_RX7_12_ErrandGuild_Run_kin_LErrandGuild_Kin_) (fun _ h9 => h9) rfl dX7_begin_46 ?_
          refine lv_aload_n hx hb dX7_begin_49 rfl (lv_at hl 2 rfl) ?_
          have hFc := free_all hD hS hA
          refine va_callv (va_runV (As := [.ref (ad (50 + 16 * q))]) (rest := []) ⟨hx, hb, hml, hown, hg⟩ (c_X4_begin_r l dC dI kc ws_74 ad ga gc M n f T G_73 K F R i q H.size (hpS H) hQ ⟨h_i1, h_i2, h_i3, h_i4, h_i5, i6_77, i7_78, i8_79, i9_80, i10_75, i11_76⟩ (by show i < M; omega) (by show q < M; omega)) (cwV 1 hg (gw_V gm_methodLink_RX7_81_yX4_begin gm_instanceMethod_yX4_begin gm_selects_RX4_yX4_begin_yX4_begin gm_initialized_RX4 gm_code_yX4_begin_cX4_begin_2_none) rfl rfl rfl (by decide +kernel) ⟨Nat.le_of_ble_eq_true rfl, Nat.le_of_ble_eq_true rfl⟩) ⟨fun a U g mk q => by obtain ⟨q0, q1, q2, qP, qK, qD, qN⟩ := q; exact ⟨q0, q1, q2, qP, va_K.moved (u := U) (U := U.calling g mk a) (Vm.Alike.refl U.vm) qK, qD, nx_same (u := U) (U := U.calling g mk a) rfl qN⟩, va_recv hK hP (ci := 4) (q0 := (50 + 16 * i + 1)) rfl (hQ.b1 hi), fun U hU hW => ⟨rfl, by rw [hU], by rw [hU], by rw [hU]; exact hP, va_K.moved hW.alike hK, hD.weaken (fun _ _ _ _ => trivial), nx_warm hW hN⟩⟩ rfl rfl hl.1 rfl (lv_room (Nat.le_of_ble_eq_true rfl)) dX7_begin_50 ⟨Nat.le_of_ble_eq_true rfl, Nat.le_of_ble_eq_true rfl⟩) hS (fun q _ h => hFc q h) hFc (fun u_83 t H1 locs ht hvm hw hB hz1 hk1 hS => ?_)
          obtain ⟨ad_84, ga_85, gc_86, M_87, n_88, f_89, T_90, G_91, K_92, F_93⟩ := u_83
          have hB : ∃ w : va_W, va_P (dC, dI) vwCl w t.heap ∧ va_D (va_A ws_74 H.size) w ∧ Pic9 kc w ad ga gc M n f T G_91 K_92 F ∧ I9 M n f T gc G_91 K_92 F R ∧ hpS t.heap + (260 * M + 2 * S9 M gc) ≤ hpS H + (260 * M + 2 * S9 M gc) ∧ 16 * t.heap.size + (256 * M + S9 M gc) ≤ 16 * H.size + (256 * M + S9 M gc) := hB
          rw [ht] at hB
          obtain ⟨ws_94, hP, hD, hQ, hI_95, hy1, hy2⟩ := hB
          have hD := hD.weaken (fun k q _ h => hFc _ h)
          obtain ⟨i1_96, i2_97, i3_98, i4_99, i5_100, i6_101, i7_102, i8_103, i9_104, i10_105, i11_106⟩ := id hI_95
          have q1_ := i1_96
          unfold i1 at q1_
          generalize H1 = H at hP hS ⊢
          have hc_108 : (C9.mk n f T G_91 K_92 F) = k_kinR i q (C9.mk n f T G_73 K F) := hw.1
          have w_107 : (∀ a : Nat, G_91 a 2 = G_73 a 2) ∧ (∀ a : Nat, G_91 a 3 = G_73 a 3) ∧ K_92 i 3 = none ∧ (∀ a : Nat, a ≠ i → K_92 a = K a) := hw.2
          exact by
           refine lv_aload_n hx hb dX7_begin_53 rfl (lv_at hl 0 rfl) ?_
           refine va_get (D := (dC, dI)) (ci := 7) (v := .ref (ad (50 + 16 * i + 2))) (C := RX7) (T := TX7) (N := 15) hx hb hg gb_7 hown hK hP (50 + 16 * i) (hQ.b0 hi) rfl 11 (by decide) (hg _ gm_fieldLink_RX7_21_ErrandGuild_Run_memory_LErrandGuild_Memory_) (fun _ h9 => h9) rfl dX7_begin_54 ?_
           have hCc : ([(50 + 16 * i + 2), (50 + 16 * i + 3), (50 + 16 * i + 5)] : List Nat).map (fun i => ws_94[i]?) = ([(ad (50 + 16 * i + 2), .inr (6, [.ref (ad (50 + 16 * i + 3)), .ref (ad (50 + 16 * i + 4)), .ref (ad (50 + 16 * i + 5))])), (ad (50 + 16 * i + 3), .inl (kc 1, 8, .inl (F i 0))), (ad (50 + 16 * i + 5), .inl (kc 0, 8, .inl (F i 2)))] : va_W).map some := mp3 (hQ.b2 hi) (hQ.b3 hi) (hQ.b5 hi)
           have hNd : ([(50 + 16 * i + 2), (50 + 16 * i + 3), (50 + 16 * i + 5)] : List Nat).Nodup := (nd_off (50 + 16 * i) (l := [2, 3, 5]) (by decide))
           have hPc := hP.pick [(50 + 16 * i + 2), (50 + 16 * i + 3), (50 + 16 * i + 5)] hCc
           have hDc := hD.pick [(50 + 16 * i + 2), (50 + 16 * i + 3), (50 + 16 * i + 5)] hNd hCc
           have hKc := hK.sub (tys' := [((kc 1), .boolean), ((kc 0), .int)]) [1, 0] rfl
           have hFc := va_free (wc := [(ad (50 + 16 * i + 2), .inr (6, [.ref (ad (50 + 16 * i + 3)), .ref (ad (50 + 16 * i + 4)), .ref (ad (50 + 16 * i + 5))])), (ad (50 + 16 * i + 3), .inl (kc 1, 8, .inl (F i 0))), (ad (50 + 16 * i + 5), .inl (kc 0, 8, .inl (F i 2)))]) hD hS hA [(50 + 16 * i + 2), (50 + 16 * i + 3), (50 + 16 * i + 5)] hCc
           refine va_callv (va_runV (As := []) (rest := []) ⟨hx, hb, hml, hown, hg⟩ (c_X6_clear l dC dI (ad (50 + 16 * i + 2)) (ad (50 + 16 * i + 3)) (ad (50 + 16 * i + 4)) (ad (50 + 16 * i + 5)) (kc 1) (kc 0) (F i 0) (F i 2) H.size ) (cwV 0 hg (gw_V gm_methodLink_RX7_85_yX6_clear gm_instanceMethod_yX6_clear gm_selects_RX6_yX6_clear_yX6_clear gm_initialized_RX6 gm_code_yX6_clear_cX6_clear_2_none) rfl rfl rfl (by decide +kernel) ⟨Nat.le_of_ble_eq_true rfl, Nat.le_of_ble_eq_true rfl⟩) ⟨fun a U g mk q => by obtain ⟨q0, q1, qP, qK, qD, qN⟩ := q; exact ⟨q0, q1, qP, va_K.moved (u := U) (U := U.calling g mk a) (Vm.Alike.refl U.vm) qK, qD, nx_same (u := U) (U := U.calling g mk a) rfl qN⟩, va_recv hK hP (ci := 6) (q0 := (50 + 16 * i + 2)) rfl (hQ.b2 hi), fun U hU hW => ⟨rfl, by rw [hU], by rw [hU]; exact hPc, va_K.moved hW.alike hKc, hDc.weaken (fun _ _ _ _ => trivial), nx_warm hW hN⟩⟩ rfl rfl hl.1 rfl (lv_room (Nat.le_of_ble_eq_true rfl)) dX7_begin_57 ⟨Nat.le_of_ble_eq_true rfl, Nat.le_of_ble_eq_true rfl⟩) hS (fun q _ h => hFc q h) hFc (fun u_110 t H1 locs ht hvm hw hB hz1 hk1 hS => ?_)
           obtain ⟨ad_111, ac_112, af_113, ag_114⟩ := u_110
           obtain ⟨hP1, hD1, hK1, qe_115, qe_116⟩ := hB
           rw [ht] at hP1
           have hP1 : va_P (dC, dI) vwCl [((ad (50 + 16 * i + 2)), .inr (6, [.ref (ad (50 + 16 * i + 3)), .ref (ad (50 + 16 * i + 4)), .ref (ad (50 + 16 * i + 5))])), ((ad (50 + 16 * i + 3)), .inl ((kc 1), 8, .inl (af_113 0))), ((ad (50 + 16 * i + 5)), .inl ((kc 0), 8, .inl (af_113 2)))] H1 := hP1
           have hD1 : va_D _ [((ad (50 + 16 * i + 2)), .inr (6, [.ref (ad (50 + 16 * i + 3)), .ref (ad (50 + 16 * i + 4)), .ref (ad (50 + 16 * i + 5))])), ((ad (50 + 16 * i + 3)), .inl ((kc 1), 8, .inl (af_113 0))), ((ad (50 + 16 * i + 5)), .inl ((kc 0), 8, .inl (af_113 2)))] := hD1
           have qe_115 : (af_113 0) = clr8 (F i 0) 8 := qe_115
           have qe_116 : (af_113 2) = clr8 (F i 2) 8 := qe_116
           rw [qe_115, qe_116] at hP1 hD1
           obtain ⟨hP, hD⟩ := va_repl (w1 := [((ad (50 + 16 * i + 2)), .inr (6, [.ref (ad (50 + 16 * i + 3)), .ref (ad (50 + 16 * i + 4)), .ref (ad (50 + 16 * i + 5))])), ((ad (50 + 16 * i + 3)), .inl ((kc 1), 8, .inl (clr8 (F i 0) 8))), ((ad (50 + 16 * i + 5)), .inl ((kc 0), 8, .inl (clr8 (F i 2) 8)))]) hP hD [(50 + 16 * i + 2), (50 + 16 * i + 3), (50 + 16 * i + 5)] hCc hNd rfl hk1 hFc hP1 hD1
           obtain ⟨ws_118, F_117, eF_117, hP, hD, hQ⟩ : ∃ (ws_118 : va_W) (F_117 : Nat → Nat → Nat → Int32), F_117 = u2 (u2 F i 0 (clr8 (F i 0) 8)) i 2 (clr8 (F i 2) 8) ∧ va_P (dC, dI) vwCl ws_118 H1 ∧ va_D A ws_118 ∧ Pic9 kc ws_118 ad ga gc M n f T G_91 K_92 F_117 := ⟨_, _, rfl, hP, hD, ((hQ.same (hQ.b2 hi)).arr hi 3 0 (by decide) (clr8 (F i 0) 8) rfl).arr hi 5 2 (by decide) (clr8 (F i 2) 8) rfl⟩
           have i10_119 : i10 M G_91 K_92 F_117 := by rw [eF_117]; exact (i10.pF (i10.pF i10_105 hi _ _) hi _ _)
           have i11_120 : i11 M n gc f G_91 F_117 := by rw [eF_117]; exact (i11.pF (i11.pF i11_106 i _ (by decide)) i _ (by decide))
           generalize H1 = H at hP hS ⊢
           exact by
            refine lv_aload_n hx hb dX7_begin_60 rfl (lv_at hl 0 rfl) ?_
            refine va_get (D := (dC, dI)) (ci := 7) (v := .ref (ad (50 + 16 * i + 6))) (C := RX7) (T := TX7) (N := 15) hx hb hg gb_7 hown hK hP (50 + 16 * i) (hQ.b0 hi) rfl 12 (by decide) (hg _ gm_fieldLink_RX7_28_ErrandGuild_Run_scopes_LErrandGuild_Scopes_) (fun _ h9 => h9) rfl dX7_begin_61 ?_
            have hCc : ([(50 + 16 * i + 6)] : List Nat).map (fun i => ws_118[i]?) = ([(ad (50 + 16 * i + 6), .inr (8, [.ref (ad (50 + 16 * i + 7)), .ref (ad (50 + 16 * i + 8)), .ref (ad (50 + 16 * i + 9)), .int (G_91 i 14), .ref (ad (50 + 16 * i + 10)), .ref (ad (50 + 16 * i + 11)), .ref (ad (50 + 16 * i + 12)), .int (G_91 i 15), .int (G_91 i 16)]))] : va_W).map some := mp1 (hQ.b6 hi)
            have hNd : ([(50 + 16 * i + 6)] : List Nat).Nodup := (nd_off (50 + 16 * i) (l := [6]) (by decide))
            have hPc := hP.pick [(50 + 16 * i + 6)] hCc
            have hDc := hD.pick [(50 + 16 * i + 6)] hNd hCc
            have hKc := hK.sub (tys' := []) [] rfl
            have hFc := va_free (wc := [(ad (50 + 16 * i + 6), .inr (8, [.ref (ad (50 + 16 * i + 7)), .ref (ad (50 + 16 * i + 8)), .ref (ad (50 + 16 * i + 9)), .int (G_91 i 14), .ref (ad (50 + 16 * i + 10)), .ref (ad (50 + 16 * i + 11)), .ref (ad (50 + 16 * i + 12)), .int (G_91 i 15), .int (G_91 i 16)]))]) hD hS hA [(50 + 16 * i + 6)] hCc
            refine va_callv (va_runV (As := []) (rest := []) ⟨hx, hb, hml, hown, hg⟩ (c_X8_clear l dC dI (ad (50 + 16 * i + 6)) (ad (50 + 16 * i + 7)) (ad (50 + 16 * i + 8)) (ad (50 + 16 * i + 9)) (ad (50 + 16 * i + 10)) (ad (50 + 16 * i + 11)) (ad (50 + 16 * i + 12)) (G_91 i 14) (G_91 i 15) (G_91 i 16) H.size ) (cwV 0 hg (gw_V gm_methodLink_RX7_88_yX8_clear gm_instanceMethod_yX8_clear gm_selects_RX8_yX8_clear_yX8_clear gm_initialized_RX8 gm_code_yX8_clear_cX8_clear_1_none) rfl rfl rfl (by decide +kernel) ⟨Nat.le_of_ble_eq_true rfl, Nat.le_of_ble_eq_true rfl⟩) ⟨fun a U g mk q => by obtain ⟨q0, q1, qP, qK, qD, qN⟩ := q; exact ⟨q0, q1, qP, va_K.moved (u := U) (U := U.calling g mk a) (Vm.Alike.refl U.vm) qK, qD, nx_same (u := U) (U := U.calling g mk a) rfl qN⟩, va_recv hK hP (ci := 8) (q0 := (50 + 16 * i + 6)) rfl (hQ.b6 hi), fun U hU hW => ⟨rfl, by rw [hU], by rw [hU]; exact hPc, va_K.moved hW.alike hKc, hDc.weaken (fun _ _ _ _ => trivial), nx_warm hW hN⟩⟩ rfl rfl hl.1 rfl (lv_room (Nat.le_of_ble_eq_true rfl)) dX7_begin_64 ⟨Nat.le_of_ble_eq_true rfl, Nat.le_of_ble_eq_true rfl⟩) hS (fun q _ h => hFc q h) hFc (fun u_122 t H1 locs ht hvm hw hB hz1 hk1 hS => ?_)
            obtain ⟨ad_123, ac_124, af_125, ag_126⟩ := u_122
            obtain ⟨hP1, hD1, hK1⟩ := hB
            rw [ht] at hP1
            obtain ⟨hP, hD⟩ := va_repl (w1 := [((ad (50 + 16 * i + 6)), .inr (8, [.ref (ad (50 + 16 * i + 7)), .ref (ad (50 + 16 * i + 8)), .ref (ad (50 + 16 * i + 9)), .int 0, .ref (ad (50 + 16 * i + 10)), .ref (ad (50 + 16 * i + 11)), .ref (ad (50 + 16 * i + 12)), .int 0, .int 0]))]) hP hD [(50 + 16 * i + 6)] hCc hNd rfl hk1 hFc hP1 hD1
            obtain ⟨ws_128, G_127, eG_127, hP, hD, hQ⟩ : ∃ (ws_128 : va_W) (G_127 : Nat → Nat → Int32), G_127 = u2 (u2 (u2 G_91 i 14 0) i 15 0) i 16 0 ∧ va_P (dC, dI) vwCl ws_128 H1 ∧ va_D A ws_128 ∧ Pic9 kc ws_128 ad ga gc M n f T G_127 K_92 F_117 := ⟨_, _, rfl, hP, hD, hQ.sco2 hi 0 0 0⟩
            have i10_129 : i10 M G_127 K_92 F_117 := by rw [eG_127]; exact (i10.pG (i10.pG (i10.pG i10_119 hi _ (by decide)) hi _ (by decide)) hi _ (by decide))
            have i11_130 : i11 M n gc f G_127 F_117 := by rw [eG_127]; exact (i11.pG (i11.pG (i11.pG i11_120 i _ (by decide)) i _ (by decide)) i _ (by decide))
            have i6_131 : i6 n T G_127 := by rw [eG_127]; exact (i6.pG (i6.pG (i6.pG i6_101 i _ (by decide)) i _ (by decide)) i _ (by decide))
            have i7_132 : i7 n G_127 := by rw [eG_127]; exact (i7.pG (i7.pG (i7.pG i7_102 i _ (by decide)) i _ (by decide)) i _ (by decide))
            have i8_133 : i8 M n gc G_127 := by rw [eG_127]; exact (i8.pG (i8.pG (i8.pG i8_103 i _ (by decide)) i _ (by decide)) i _ (by decide))
            have i9_134 : i9 M gc G_127 R := by rw [eG_127]; exact (i9.pG (i9.pG (i9.pG i9_104 i _ (by decide)) i _ (by decide)) i _ (by decide))
            generalize H1 = H at hP hS ⊢
            exact by
             refine lv_aload_n hx hb dX7_begin_67 rfl (lv_at hl 0 rfl) ?_
             refine va_get (D := (dC, dI)) (ci := 7) (v := .ref (ad (50 + 16 * i + 13))) (C := RX7) (T := TX7) (N := 15) hx hb hg gb_7 hown hK hP (50 + 16 * i) (hQ.b0 hi) rfl 13 (by decide) (hg _ gm_fieldLink_RX7_35_ErrandGuild_Run_fault_LErrandGuild_Fault_) (fun _ h9 => h9) rfl dX7_begin_68 ?_
             have hCc : ([(50 + 16 * i + 13)] : List Nat).map (fun i => ws_128[i]?) = ([(ad (50 + 16 * i + 13), .inr (2, [.int (G_127 i 17), .int (G_127 i 18), .int (G_127 i 19), .int (G_127 i 20), .int (G_127 i 21)]))] : va_W).map some := mp1 (hQ.b13 hi)
             have hNd : ([(50 + 16 * i + 13)] : List Nat).Nodup := (nd_off (50 + 16 * i) (l := [13]) (by decide))
             have hPc := hP.pick [(50 + 16 * i + 13)] hCc
             have hDc := hD.pick [(50 + 16 * i + 13)] hNd hCc
             have hKc := hK.sub (tys' := []) [] rfl
             have hFc := va_free (wc := [(ad (50 + 16 * i + 13), .inr (2, [.int (G_127 i 17), .int (G_127 i 18), .int (G_127 i 19), .int (G_127 i 20), .int (G_127 i 21)]))]) hD hS hA [(50 + 16 * i + 13)] hCc
             refine va_callv (va_runV (As := []) (rest := []) ⟨hx, hb, hml, hown, hg⟩ (c_X2_clear l dC dI (ad (50 + 16 * i + 13)) (G_127 i 17) (G_127 i 18) (G_127 i 19) (G_127 i 20) (G_127 i 21) H.size ) (cwV 0 hg (gw_V gm_methodLink_RX7_89_yX2_clear gm_instanceMethod_yX2_clear gm_selects_RX2_yX2_clear_yX2_clear gm_initialized_RX2 gm_code_yX2_clear_cX2_clear_1_none) rfl rfl rfl (by decide +kernel) ⟨Nat.le_of_ble_eq_true rfl, Nat.le_of_ble_eq_true rfl⟩) ⟨fun a U g mk q => by obtain ⟨q0, q1, qP, qK, qD, qN⟩ := q; exact ⟨q0, q1, qP, va_K.moved (u := U) (U := U.calling g mk a) (Vm.Alike.refl U.vm) qK, qD, nx_same (u := U) (U := U.calling g mk a) rfl qN⟩, va_recv hK hP (ci := 2) (q0 := (50 + 16 * i + 13)) rfl (hQ.b13 hi), fun U hU hW => ⟨rfl, by rw [hU], by rw [hU]; exact hPc, va_K.moved hW.alike hKc, hDc.weaken (fun _ _ _ _ => trivial), nx_warm hW hN⟩⟩ rfl rfl hl.1 rfl (lv_room (Nat.le_of_ble_eq_true rfl)) dX7_begin_71 ⟨Nat.le_of_ble_eq_true rfl, Nat.le_of_ble_eq_true rfl⟩) hS (fun q _ h => hFc q h) hFc (fun u_136 t H1 locs ht hvm hw hB hz1 hk1 hS => ?_)
             obtain ⟨ad_137, ac_138, af_139, ag_140⟩ := u_136
             obtain ⟨hP1, hD1, hK1⟩ := hB
             rw [ht] at hP1
             obtain ⟨hP, hD⟩ := va_repl (w1 := [((ad (50 + 16 * i + 13)), .inr (2, [.int (-1), .int (-1), .int (-1), .int 0, .int 0]))]) hP hD [(50 + 16 * i + 13)] hCc hNd rfl hk1 hFc hP1 hD1
             obtain ⟨ws_142, G_141, eG_141, hP, hD, hQ⟩ : ∃ (ws_142 : va_W) (G_141 : Nat → Nat → Int32), G_141 = u2 (u2 (u2 (u2 (u2 G_127 i 17 (-1)) i 18 (-1)) i 19 (-1)) i 20 0) i 21 0 ∧ va_P (dC, dI) vwCl ws_142 H1 ∧ va_D A ws_142 ∧ Pic9 kc ws_142 ad ga gc M n f T G_141 K_92 F_117 := ⟨_, _, rfl, hP, hD, hQ.flt2 hi (-1) (-1) (-1) 0 0⟩
             have i10_143 : i10 M G_141 K_92 F_117 := by rw [eG_141]; exact (i10.pG (i10.pG (i10.pG (i10.pG (i10.pG i10_129 hi _ (by decide)) hi _ (by decide)) hi _ (by decide)) hi _ (by decide)) hi _ (by decide))
             have i11_144 : i11 M n gc f G_141 F_117 := by rw [eG_141]; exact (i11.pG (i11.pG (i11.pG (i11.pG (i11.pG i11_130 i _ (by decide)) i _ (by decide)) i _ (by decide)) i _ (by decide)) i _ (by decide))
             have i6_145 : i6 n T G_141 := by rw [eG_141]; exact (i6.pG (i6.pG (i6.pG (i6.pG (i6.pG i6_131 i _ (by decide)) i _ (by decide)) i _ (by decide)) i _ (by decide)) i _ (by decide))
             have i7_146 : i7 n G_141 := by rw [eG_141]; exact (i7.pG (i7.pG (i7.pG (i7.pG (i7.pG i7_132 i _ (by decide)) i _ (by decide)) i _ (by decide)) i _ (by decide)) i _ (by decide))
             have i8_147 : i8 M n gc G_141 := by rw [eG_141]; exact (i8.pG (i8.pG (i8.pG (i8.pG (i8.pG i8_133 i _ (by decide)) i _ (by decide)) i _ (by decide)) i _ (by decide)) i _ (by decide))
             have i9_148 : i9 M gc G_141 R := by rw [eG_141]; exact (i9.pG (i9.pG (i9.pG (i9.pG (i9.pG i9_134 i _ (by decide)) i _ (by decide)) i _ (by decide)) i _ (by decide)) i _ (by decide))
             generalize H1 = H at hP hS ⊢
             exact by
              refine lv_aload_n hx hb dX7_begin_74 rfl (lv_at hl 0 rfl) ?_
              refine va_get (D := (dC, dI)) (ci := 7) (v := .ref (ad (50 + 16 * i + 14))) (C := RX7) (T := TX7) (N := 15) hx hb hg gb_7 hown hK hP (50 + 16 * i) (hQ.b0 hi) rfl 14 (by decide) (hg _ gm_fieldLink_RX7_45_ErrandGuild_Run_remarks_LErrandGuild_Cells_) (fun _ h9 => h9) rfl dX7_begin_75 ?_
              have hCc : ([(50 + 16 * i + 14)] : List Nat).map (fun i => ws_142[i]?) = ([(ad (50 + 16 * i + 14), .inr (0, [.int (G_141 i 22), .ref (ga (3 + i)), .int (G_141 i 23)]))] : va_W).map some := mp1 (hQ.b14 hi)
              have hNd : ([(50 + 16 * i + 14)] : List Nat).Nodup := (nd_off (50 + 16 * i) (l := [14]) (by decide))
              have hPc := hP.pick [(50 + 16 * i + 14)] hCc
              have hDc := hD.pick [(50 + 16 * i + 14)] hNd hCc
              have hKc := hK.sub (tys' := []) [] rfl
              have hFc := va_free (wc := [(ad (50 + 16 * i + 14), .inr (0, [.int (G_141 i 22), .ref (ga (3 + i)), .int (G_141 i 23)]))]) hD hS hA [(50 + 16 * i + 14)] hCc
              refine va_callv (va_runV (As := []) (rest := []) ⟨hx, hb, hml, hown, hg⟩ (c_X0_clear l dC dI (ad (50 + 16 * i + 14)) (ga (3 + i)) (G_141 i 22) (G_141 i 23) H.size ) (cwV 0 hg (gw_V gm_methodLink_RX7_90_yX0_clear gm_instanceMethod_yX0_clear gm_selects_RX0_yX0_clear_yX0_clear gm_initialized_RX0 gm_code_yX0_clear_cX0_clear_1_none) rfl rfl rfl (by decide +kernel) ⟨Nat.le_of_ble_eq_true rfl, Nat.le_of_ble_eq_true rfl⟩) ⟨fun a U g mk q => by obtain ⟨q0, q1, qP, qK, qD, qN⟩ := q; exact ⟨q0, q1, qP, va_K.moved (u := U) (U := U.calling g mk a) (Vm.Alike.refl U.vm) qK, qD, nx_same (u := U) (U := U.calling g mk a) rfl qN⟩, va_recv hK hP (ci := 0) (q0 := (50 + 16 * i + 14)) rfl (hQ.b14 hi), fun U hU hW => ⟨rfl, by rw [hU], by rw [hU]; exact hPc, va_K.moved hW.alike hKc, hDc.weaken (fun _ _ _ _ => trivial), nx_warm hW hN⟩⟩ rfl rfl hl.1 rfl (lv_room (Nat.le_of_ble_eq_true rfl)) dX7_begin_78 ⟨Nat.le_of_ble_eq_true rfl, Nat.le_of_ble_eq_true rfl⟩) hS (fun q _ h => hFc q h) hFc (fun u_150 t H1 locs ht hvm hw hB hz1 hk1 hS => ?_)
              obtain ⟨ad_151, ac_152, af_153, ag_154⟩ := u_150
              obtain ⟨hP1, hD1, hK1⟩ := hB
              rw [ht] at hP1
              obtain ⟨hP, hD⟩ := va_repl (w1 := [((ad (50 + 16 * i + 14)), .inr (0, [.int (G_141 i 22), .ref (ga (3 + i)), .int 0]))]) hP hD [(50 + 16 * i + 14)] hCc hNd rfl hk1 hFc hP1 hD1
              obtain ⟨ws_156, G_155, eG_155, hP, hD, hQ⟩ : ∃ (ws_156 : va_W) (G_155 : Nat → Nat → Int32), G_155 = u2 G_141 i 23 0 ∧ va_P (dC, dI) vwCl ws_156 H1 ∧ va_D A ws_156 ∧ Pic9 kc ws_156 ad ga gc M n f T G_155 K_92 F_117 := ⟨_, _, rfl, hP, hD, hQ.remC hi 0⟩
              have i10_157 : i10 M G_155 K_92 F_117 := by rw [eG_155]; exact (i10.pG i10_143 hi _ (by decide))
              have i11_158 : i11 M n gc f G_155 F_117 := by rw [eG_155]; exact (i11.clr i11_144 i)
              have i6_159 : i6 n T G_155 := by rw [eG_155]; exact (i6.pG i6_145 i _ (by decide))
              have i7_160 : i7 n G_155 := by rw [eG_155]; exact (i7.pG i7_146 i _ (by decide))
              have i8_161 : i8 M n gc G_155 := by rw [eG_155]; exact (i8.pG i8_147 i _ (by decide))
              have i9_162 : i9 M gc G_155 R := by rw [eG_155]; exact (i9.clr i9_148 i)
              generalize H1 = H at hP hS ⊢
              refine W_msr2 (fun hm1 hm2 hm3 => ?_)
              exact W.vret hx hb hr (fun t ht hW => ⟨⟨(ad, ga, gc, M, n, f, T, G_155, K_92, F_117), rfl, ⟨(by show (C9.mk n f T G_155 K_92 F_117) = k_begR i q v1 (C9.mk n f T G K F); have e0 : (C9.mk n f T G_73 K F) = k_beg0 i v1 (C9.mk n f T G K F) := (by rw [eG_73]; rw [eG_64]; rw [eG_55]; rw [eG_46]; rw [eG_37]; rw [eG_28]; rw [eG_19]; rw [eG_10]; rw [eG_1]; rfl); have e1 : (C9.mk n f T G_155 K_92 F_117) = k_beg1 i (k_kinR i q (C9.mk n f T G_73 K F)) := (by rw [← hc_108]; rw [eG_155]; rw [eG_141]; rw [eG_127]; rw [eF_117]; rfl); rw [e1, e0]; exact (k_begR.eq_1 i q v1 (C9.mk n f T G K F)).symm), ⟨by show (G_155 i 2).toInt = 0; rw [eG_155]; (repeat rw [u2_n2 _ _ _ _ (show (2 : Nat) ≠ _ by decide)]); rw [eG_141]; (repeat rw [u2_n2 _ _ _ _ (show (2 : Nat) ≠ _ by decide)]); rw [eG_127]; (repeat rw [u2_n2 _ _ _ _ (show (2 : Nat) ≠ _ by decide)]); rw [w_107.1]; rw [eG_73]; (repeat rw [u2_n2 _ _ _ _ (show (2 : Nat) ≠ _ by decide)]); rw [eG_64]; (repeat rw [u2_n2 _ _ _ _ (show (2 : Nat) ≠ _ by decide)]); rw [eG_55]; (repeat rw [u2_n2 _ _ _ _ (show (2 : Nat) ≠ _ by decide)]); rw [eG_46]; (repeat rw [u2_n2 _ _ _ _ (show (2 : Nat) ≠ _ by decide)]); rw [eG_37]; (repeat rw [u2_n2 _ _ _ _ (show (2 : Nat) ≠ _ by decide)]); rw [eG_28]; (repeat rw [u2_n2 _ _ _ _ (show (2 : Nat) ≠ _ by decide)]); rw [eG_19]; (repeat rw [u2_n2 _ _ _ _ (show (2 : Nat) ≠ _ by decide)]); rw [eG_10, u2_eq]; decide, by show (G_155 i 3).toInt = -1; rw [eG_155]; (repeat rw [u2_n2 _ _ _ _ (show (3 : Nat) ≠ _ by decide)]); rw [eG_141]; (repeat rw [u2_n2 _ _ _ _ (show (3 : Nat) ≠ _ by decide)]); rw [eG_127]; (repeat rw [u2_n2 _ _ _ _ (show (3 : Nat) ≠ _ by decide)]); rw [w_107.2.1]; rw [eG_73]; (repeat rw [u2_n2 _ _ _ _ (show (3 : Nat) ≠ _ by decide)]); rw [eG_64]; (repeat rw [u2_n2 _ _ _ _ (show (3 : Nat) ≠ _ by decide)]); rw [eG_55]; (repeat rw [u2_n2 _ _ _ _ (show (3 : Nat) ≠ _ by decide)]); rw [eG_46]; (repeat rw [u2_n2 _ _ _ _ (show (3 : Nat) ≠ _ by decide)]); rw [eG_37]; (repeat rw [u2_n2 _ _ _ _ (show (3 : Nat) ≠ _ by decide)]); rw [eG_28]; (repeat rw [u2_n2 _ _ _ _ (show (3 : Nat) ≠ _ by decide)]); rw [eG_19, u2_eq]; decide, by show K_92 i 3 = none; exact w_107.2.2.1, fun a ha => by show K_92 a = K a; exact w_107.2.2.2 a ha⟩⟩, ws_156, by rw [ht]; exact hP, hD, hQ, ⟨i1_96, i2_97, i3_98, i4_99, i5_100, i6_159, i7_160, i8_161, i9_162, i10_157, i11_158⟩, by rw [ht]; show hpS H + (260 * M + 2 * S9 M gc) ≤ hpS s.heap + (260 * M + 2 * S9 M gc); omega, by rw [ht]; show 16 * H.size + (256 * M + S9 M gc) ≤ 16 * s.heap.size + (256 * M + S9 M gc); omega⟩, hS.F ht⟩) hS.2.2 dX7_begin_81
