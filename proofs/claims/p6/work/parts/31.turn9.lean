set_option maxHeartbeats 8000000 in
set_option maxRecDepth 100000 in
theorem c_X9_closeTurn (l : Launch) (dC : Nat → ClassId) (dI : Nat → Nat → Nat) (kc : Nat → ClassId) (ws : va_W) (ad : Nat → Nat) (ga : Nat → Nat) (gc : Nat → Nat) (M : Nat) (n : Nat → Int32) (f : Nat → Nat → Int32) (T : Nat → Option Nat) (G : Nat → Nat → Int32) (K : Nat → Nat → Option Nat) (F : Nat → Nat → Nat → Int32) (R : Nat) (i : Nat) (v2 : Int32) (sz hz : Nat) (hQ : Pic9 kc ws ad ga gc M n f T G K F) (hI : I9 M n T gc G K R) (hi : i < M) (hin : (i : Int) < (n 0).toInt) (hR : R ≤ 310000) : Met l yX9_closeTurn (.code yX9_closeTurn cX9_closeTurn 3 none :: gw) ({ frames := 5, cells := 2400, slots := 84000, locals := 176 }) (va_Pc [.ref (ad 0), .ref (ad (50 + 16 * i)), .int v2] (fun U => U.heap.size = sz ∧ hpS U.heap = hz ∧ va_P (dC, dI) vwCl ws U.heap ∧ va_K (dC, dI) vwCl (t9 kc) U ∧ va_D (fun _ => True) ws ∧ nx U)) (va_Qv (fun (u : (Nat → Nat) × (Nat → Nat) × (Nat → Nat) × Nat × (Nat → Int32) × (Nat → Nat → Int32) × (Nat → Option Nat) × (Nat → Nat → Int32) × (Nat → Nat → Option Nat) × (Nat → Nat → Nat → Int32)) => S9 M u.2.2.1 + gc 1 ≤ S9 M gc + u.2.2.1 1 ∧ (u.2.2.2.2.1 0).toInt = (n 0).toInt ∧ (∀ t : Nat, u.2.2.2.2.2.2.1 t = T t ∨ u.2.2.2.2.2.2.1 t = none)) (fun u t => ∃ w : va_W, va_P (dC, dI) vwCl w t.heap ∧ va_D (va_A ws sz) w ∧ Pic9 kc w ad u.2.1 u.2.2.1 M u.2.2.2.2.1 u.2.2.2.2.2.1 u.2.2.2.2.2.2.1 u.2.2.2.2.2.2.2.1 K u.2.2.2.2.2.2.2.2.2 ∧ I9 M u.2.2.2.2.1 u.2.2.2.2.2.2.1 u.2.2.1 u.2.2.2.2.2.2.2.1 K R ∧ hpS t.heap + (260 * M + 2 * S9 M gc) ≤ hz + (260 * M + 2 * S9 M u.2.2.1) ∧ 16 * t.heap.size + (256 * M + S9 M gc) ≤ 16 * sz + (256 * M + S9 M u.2.2.1) ∧ (n 0).toInt ≤ (u.2.2.2.2.1 0).toInt) (va_A ws sz)) 2400 84000 (va_A ws sz) := by
  refine Met.ofW (cc := cX9_closeTurn) (maxL := 3) (ret := none) (by decide) rfl ?_
  intro p e s m args below meth c s₁ B hml hv
  obtain ⟨rfl, hsz, rfl, hP, hK, hD0, hN⟩ := hv
  have hx := B.exec
  have hb := B.bytes
  have hr := B.returns
  have hts := atoms_spec (ws := .code yX9_closeTurn cX9_closeTurn 3 none :: gw) B.pre
  have hg : ∀ w ∈ gw, w.before _ s = true := fun w h => hts w (List.mem_cons_of_mem _ h)
  have hown : s.vm.findClass RX9 = some m.cls := findClass_of_methodNamed B.named
  have hlocks := B.notSynchronized
  subst hsz
  have hD := hD0.self (sz := s.heap.size)
  generalize hAe : va_A ws s.heap.size = A at hD ⊢
  have hA : ∀ q : Nat, s.heap.size ≤ q → A q := fun q h => by rw [← hAe]; exact Or.inr h
  clear hAe
  have hS : va_S A s.heap s.heap [] := va_S.rf
  have hl := lv_entry ([.ref (ad 0), .ref (ad (50 + 16 * i)), .int v2]) (n := 3) (Nat.le_of_ble_eq_true rfl)
  rw [lg_entry_eq]
  generalize (lg_sl ([.ref (ad 0), .ref (ad (50 + 16 * i)), .int v2]) ++ List.replicate (3 - (lg_sl ([.ref (ad 0), .ref (ad (50 + 16 * i)), .int v2])).length) Slot.unset).toArray = ls at hl ⊢
  have hl : lv_has ls 3 [(0, .ref (ad 0)), (1, .ref (ad (50 + 16 * i))), (2, .int v2)] := hl
  obtain ⟨h_i1, h_i2, h_i3, h_i4, h_i5, h_i6, h_i7, h_i8, h_i9⟩ := id hI
  have q1_ := h_i1
  unfold i1 at q1_
  have hSl0 := S9_le h_i8 h_i9
  have hb0_ := h_i8.2.1 0 (by omega)
  have hb1_ := h_i8.2.1 1 (by omega)
  have hb2_ := h_i8.2.1 2 (by omega)
  have hr1 : 0 + (260 * M + 2 * S9 M gc) ≤ (260 * M + 2 * S9 M gc) := by omega
  have hr2 : 16 * 0 + (256 * M + S9 M gc) ≤ (256 * M + S9 M gc) := by omega
  obtain ⟨ce, hce⟩ : ∃ q : Nat, q = 0 := ⟨_, rfl⟩
  obtain ⟨se, hse⟩ : ∃ q : Nat, q = 0 := ⟨_, rfl⟩
  rw [← hse] at hr1
  have hr2 : 16 * ce + (256 * M + S9 M gc) ≤ (256 * M + S9 M gc) := by omega
  refine W.widen (k := ce) (n := se) (Nat.zero_le _) (Nat.zero_le _) ?_
  refine lv_iload_n hx hb dX9_closeTurn_0 rfl (lv_at hl 2 rfl) ?_
  refine lv_iconst (v := -1) hx hb dX9_closeTurn_1 (by decide) ?_
  refine lv_icmp_ne (tgt := 18) hx hb dX9_closeTurn_2 (by decide) (fun c_1 => ?_) (fun c_1 => ?_)
  · simp only [i_lt, i_le, i_eq, ti_m1] at c_1
    refine lv_iload_n hx hb dX9_closeTurn_18 rfl (lv_at hl 2 rfl) ?_
    refine lv_bipush (v := -2) hx hb dX9_closeTurn_19 (by decide) ?_
    refine lv_icmp_eq (tgt := 30) hx hb dX9_closeTurn_21 (by decide) (fun c_2 => ?_) (fun c_2 => ?_)
    · simp only [i_lt, i_le, i_eq, ti_m2] at c_2
      refine lv_aload_n hx hb dX9_closeTurn_30 rfl (lv_at hl 1 rfl) ?_
      refine va_get (D := (dC, dI)) (ci := 7) (v := .int (G i 2)) (C := RX7) (T := TX7) (N := 15) hx hb hg gb_7 hown hK hP (50 + 16 * i) (hQ.b0 hi) rfl 2 (by decide) (hg _ gm_fieldLink_RX9_145_ErrandGuild_Run_state_I_) (fun _ h9 => h9) rfl dX9_closeTurn_31 ?_
      refine lv_iconst (v := 1) hx hb dX9_closeTurn_34 (by decide) ?_
      refine lv_icmp_eq (tgt := 43) hx hb dX9_closeTurn_35 (by decide) (fun c_3 => ?_) (fun c_3 => ?_)
      · simp only [i_lt, i_le, i_eq, ti_1] at c_3
        refine lv_aload_n hx hb dX9_closeTurn_43 rfl (lv_at hl 1 rfl) ?_
        have hCc : ([(50 + 16 * i)] : List Nat).map (fun i => ws[i]?) = ([(ad (50 + 16 * i), .inr (7, [.int (G i 0), .int (G i 1), .int (G i 2), .int (G i 3), .int (G i 4), .int (G i 5), .int (G i 6), .int (G i 7), .int (G i 8), .int (G i 9), .ref (ad (50 + 16 * i + 1)), .ref (ad (50 + 16 * i + 2)), .ref (ad (50 + 16 * i + 6)), .ref (ad (50 + 16 * i + 13)), .ref (ad (50 + 16 * i + 14))]))] : va_W).map some := mp1 (hQ.b0 hi)
        have hNd : ([(50 + 16 * i)] : List Nat).Nodup := (nd_off (50 + 16 * i) (l := [0]) (by decide))
        have hPc := hP.pick [(50 + 16 * i)] hCc
        have hDc := hD.pick [(50 + 16 * i)] hNd hCc
        have hKc := hK.sub (tys' := []) [] rfl
        have hFc := va_free (wc := [(ad (50 + 16 * i), .inr (7, [.int (G i 0), .int (G i 1), .int (G i 2), .int (G i 3), .int (G i 4), .int (G i 5), .int (G i 6), .int (G i 7), .int (G i 8), .int (G i 9), .ref (ad (50 + 16 * i + 1)), .ref (ad (50 + 16 * i + 2)), .ref (ad (50 + 16 * i + 6)), .ref (ad (50 + 16 * i + 13)), .ref (ad (50 + 16 * i + 14))]))]) hD hS hA [(50 + 16 * i)] hCc
        refine W_msr2 (fun hm1 hm2 hm3 => ?_)
        refine va_calli (va_runV (As := []) (rest := []) ⟨hx, hb, hml, hown, hg⟩ (c_X7_isOver l dC dI (ad (50 + 16 * i)) (ad (50 + 16 * i + 1)) (ad (50 + 16 * i + 2)) (ad (50 + 16 * i + 6)) (ad (50 + 16 * i + 13)) (ad (50 + 16 * i + 14)) (G i 0) (G i 1) (G i 2) (G i 3) (G i 4) (G i 5) (G i 6) (G i 7) (G i 8) (G i 9) s.heap.size ) (cwV 0 hg (gw_V gm_methodLink_RX9_138_yX7_isOver gm_instanceMethod_yX7_isOver gm_selects_RX7_yX7_isOver_yX7_isOver gm_initialized_RX7 gm_code_yX7_isOver_cX7_isOver_1_some_boolean_) rfl rfl rfl (by decide +kernel) ⟨Nat.le_of_ble_eq_true rfl, Nat.le_of_ble_eq_true rfl⟩) ⟨fun a U g mk q => by obtain ⟨q0, q1, qP, qK, qD, qN⟩ := q; exact ⟨q0, q1, qP, va_K.moved (u := U) (U := U.calling g mk a) (Vm.Alike.refl U.vm) qK, qD, nx_same (u := U) (U := U.calling g mk a) rfl qN⟩, va_recv hK hP (ci := 7) (q0 := (50 + 16 * i)) rfl (hQ.b0 hi), fun U hU hW => ⟨rfl, by rw [hU], by rw [hU]; exact hPc, va_K.moved hW.alike hKc, hDc.weaken (fun _ _ _ _ => trivial), nx_warm hW hN⟩⟩ rfl rfl hl.1 rfl (lv_room (Nat.le_of_ble_eq_true rfl)) dX9_closeTurn_44 ⟨by show ce + 0 ≤ 2400; omega, by show se + 0 ≤ 84000; omega⟩) hS (fun q _ h => hFc q h) hFc (fun r_4 u_5 t H1 locs ht hvm hw hB hz1 hk1 hS => ?_)
        obtain ⟨hP1, hD1⟩ := hB
        rw [ht] at hP1
        obtain ⟨hP, hD⟩ := va_replS hP hD [(50 + 16 * i)] hCc hNd hk1 hFc hP1 hD1
        refine W.widen (k := ce) (n := se) (Nat.le_refl _) (Nat.le_refl _) ?_
        generalize H1 = H at hP hS ⊢
        rcases hw with ⟨rfl, w_6⟩ | ⟨rfl, w_6⟩
        · refine lv_if_eq (tgt := 55) hx hb dX9_closeTurn_47 (by decide) (fun c_7 => absurd c_7 (by decide)) (fun _ => ?_)
          refine lv_aload_n hx hb dX9_closeTurn_50 rfl (lv_at hl 0 rfl) ?_
          refine lv_aload_n hx hb dX9_closeTurn_51 rfl (lv_at hl 1 rfl) ?_
          have hFc := free_all hD hS hA
          refine W_msr2 (fun hm1 hm2 hm3 => ?_)
          refine va_callv (va_runV (As := [.ref (ad (50 + 16 * i))]) (rest := []) ⟨hx, hb, hml, hown, hg⟩ (c_X9_tellUncaught l dC dI kc ws ad ga gc M n f T G K F R i H.size (hpS H) hQ ⟨h_i1, h_i2, h_i3, h_i4, h_i5, h_i6, h_i7, h_i8, h_i9⟩ (by show i < M; omega) (by show R ≤ 310000; omega)) (cwV 1 hg (gw_V gm_methodLink_RX9_319_yX9_tellUncaught gm_instanceMethod_yX9_tellUncaught gm_selects_RX9_yX9_tellUncaught_yX9_tellUncaught gm_initialized_RX9 gm_code_yX9_tellUncaught_cX9_tellUncaught_5_none) rfl rfl rfl (by decide +kernel) ⟨Nat.le_of_ble_eq_true rfl, Nat.le_of_ble_eq_true rfl⟩) ⟨fun a U g mk q => by obtain ⟨q0, q1, q2, qP, qK, qD, qN⟩ := q; exact ⟨q0, q1, q2, qP, va_K.moved (u := U) (U := U.calling g mk a) (Vm.Alike.refl U.vm) qK, qD, nx_same (u := U) (U := U.calling g mk a) rfl qN⟩, va_recv hK hP (ci := 9) (q0 := 0) rfl hQ.x0, fun U hU hW => ⟨rfl, by rw [hU], by rw [hU], by rw [hU]; exact hP, va_K.moved hW.alike hK, hD.weaken (fun _ _ _ _ => trivial), nx_warm hW hN⟩⟩ rfl rfl hl.1 rfl (lv_room (Nat.le_of_ble_eq_true rfl)) dX9_closeTurn_52 ⟨by show ce + 1800 ≤ 2400; omega, by show se + 67000 ≤ 84000; omega⟩) hS (fun q _ h => hFc q h) hFc (fun u_9 t H1 locs ht hvm hw hB hz1 hk1 hS => ?_)
          obtain ⟨ad_10, ga_11, gc_12, M_13, n_14, f_15, T_16, G_17, K_18, F_19⟩ := u_9
          have hB : ∃ w : va_W, va_P (dC, dI) vwCl w t.heap ∧ va_D (va_A ws H.size) w ∧ Pic9 kc w ad ga_11 gc_12 M n_14 f_15 T G_17 K F ∧ I9 M n_14 T gc_12 G_17 K R ∧ hpS t.heap + (260 * M + 2 * S9 M gc) ≤ hpS H + (260 * M + 2 * S9 M gc_12) ∧ 16 * t.heap.size + (256 * M + S9 M gc) ≤ 16 * H.size + (256 * M + S9 M gc_12) ∧ (n 0).toInt ≤ (n_14 0).toInt := hB
          rw [ht] at hB
          obtain ⟨ws_20, hP, hD, hQ, hI_22, hy1, hy2, hn_21⟩ := hB
          have hD := hD.weaken (fun k q _ h => hFc _ h)
          obtain ⟨i1_23, i2_24, i3_25, i4_26, i5_27, i6_28, i7_29, i8_30, i9_31⟩ := id hI_22
          have q1_ := i1_23
          unfold i1 at q1_
          have hSl := S9_le i8_30 i9_31
          have hb0_ := i8_30.2.1 0 (by omega)
          have hb1_ := i8_30.2.1 1 (by omega)
          have hb2_ := i8_30.2.1 2 (by omega)
          refine W_msr2 (fun hn1 hn2 hn3 => ?_)
          obtain ⟨ce2, se2, hk3, hk4, hr1, hr2⟩ : ∃ c2 s2 : Nat, H1.size ≤ s.heap.size + c2 ∧ hpS H1 ≤ hpS s.heap + s2 ∧ s2 + (260 * M + 2 * S9 M gc) ≤ (260 * M + 2 * S9 M gc_12) ∧ 16 * c2 + (256 * M + S9 M gc) ≤ (256 * M + S9 M gc_12) := ⟨H1.size - s.heap.size, hpS H1 - hpS s.heap, by omega, by omega, by have := hS.1; omega, by have := hS.1; omega⟩
          refine W_tightP hk3 hk4 ?_
          clear hm1 hm2 hm3 hn1 hn2 hn3 hk3 hk4
          clear hk1 hz1
          generalize ce2 = ce, se2 = se at hr1 hr2 ⊢
          generalize H1 = H at hP hS ⊢
          have w_32 : S9 M gc_12 + gc 1 ≤ S9 M gc + gc_12 1 ∧ (n_14 0).toInt = (n 0).toInt := hw
          refine W_msr2 (fun hm1 hm2 hm3 => ?_)
          have hSl := S9_le i8_30 i9_31
          have hb0_ := i8_30.2.1 0 (by omega)
          have hb1_ := i8_30.2.1 1 (by omega)
          have hb2_ := i8_30.2.1 2 (by omega)
          refine W.widen (k := 2400) (n := 84000) (by omega) (by omega) ?_
          exact W.vret hx hb hr (fun t ht hW => ⟨⟨(ad, ga_11, gc_12, M, n_14, f_15, T, G_17, K, F), rfl, ⟨by show S9 M gc_12 + gc 1 ≤ S9 M gc + gc_12 1; omega, by show (n_14 0).toInt = (n 0).toInt; omega, (fun _ => Or.inl rfl)⟩, ws_20, by rw [ht]; exact hP, hD, hQ, ⟨i1_23, i2_24, i3_25, i4_26, i5_27, i6_28, i7_29, i8_30, i9_31⟩, by rw [ht]; show hpS H + (260 * M + 2 * S9 M gc) ≤ hpS s.heap + (260 * M + 2 * S9 M gc_12); omega, by rw [ht]; show 16 * H.size + (256 * M + S9 M gc) ≤ 16 * s.heap.size + (256 * M + S9 M gc_12); omega, by show (n 0).toInt ≤ (n_14 0).toInt; omega⟩, hS.F ht⟩) hS.2.2 dX9_closeTurn_55
        · refine lv_if_eq (tgt := 55) hx hb dX9_closeTurn_47 (by decide) (fun _ => ?_) (fun c_33 => absurd c_33 (by decide))
          refine W_msr2 (fun hm1 hm2 hm3 => ?_)
          have hSl := S9_le h_i8 h_i9
          have hb0_ := h_i8.2.1 0 (by omega)
          have hb1_ := h_i8.2.1 1 (by omega)
          have hb2_ := h_i8.2.1 2 (by omega)
          refine W.widen (k := 2400) (n := 84000) (by omega) (by omega) ?_
          exact W.vret hx hb hr (fun t ht hW => ⟨⟨(ad, ga, gc, M, n, f, T, G, K, F), rfl, ⟨by show S9 M gc + gc 1 ≤ S9 M gc + gc 1; omega, by show (n 0).toInt = (n 0).toInt; omega, (fun _ => Or.inl rfl)⟩, ws, by rw [ht]; exact hP, hD, hQ, ⟨h_i1, h_i2, h_i3, h_i4, h_i5, h_i6, h_i7, h_i8, h_i9⟩, by rw [ht]; show hpS H + (260 * M + 2 * S9 M gc) ≤ hpS s.heap + (260 * M + 2 * S9 M gc); omega, by rw [ht]; show 16 * H.size + (256 * M + S9 M gc) ≤ 16 * s.heap.size + (256 * M + S9 M gc); omega, by show (n 0).toInt ≤ (n 0).toInt; omega⟩, hS.F ht⟩) hS.2.2 dX9_closeTurn_55
      · simp only [i_lt, i_le, i_eq, ti_1] at c_3
        refine lv_aload_n hx hb dX9_closeTurn_38 rfl (lv_at hl 0 rfl) ?_
        refine lv_aload_n hx hb dX9_closeTurn_39 rfl (lv_at hl 1 rfl) ?_
        have hFc := free_all hD hS hA
        refine W_msr2 (fun hm1 hm2 hm3 => ?_)
        refine va_callv (va_runV (As := [.ref (ad (50 + 16 * i))]) (rest := []) ⟨hx, hb, hml, hown, hg⟩ (c_X9_leaveThread l dC dI kc ws ad ga gc M n f T G K F R i s.heap.size (hpS s.heap) hQ ⟨h_i1, h_i2, h_i3, h_i4, h_i5, h_i6, h_i7, h_i8, h_i9⟩ (by show i < M; omega) (by show (i : Int) < (n 0).toInt; omega) (by show (G i 2).toInt ≠ 1; omega)) (cwV 1 hg (gw_V gm_methodLink_RX9_316_yX9_leaveThread gm_instanceMethod_yX9_leaveThread gm_selects_RX9_yX9_leaveThread_yX9_leaveThread gm_initialized_RX9 gm_code_yX9_leaveThread_cX9_leaveThread_3_none) rfl rfl rfl (by decide +kernel) ⟨Nat.le_of_ble_eq_true rfl, Nat.le_of_ble_eq_true rfl⟩) ⟨fun a U g mk q => by obtain ⟨q0, q1, q2, qP, qK, qD, qN⟩ := q; exact ⟨q0, q1, q2, qP, va_K.moved (u := U) (U := U.calling g mk a) (Vm.Alike.refl U.vm) qK, qD, nx_same (u := U) (U := U.calling g mk a) rfl qN⟩, va_recv hK hP (ci := 9) (q0 := 0) rfl hQ.x0, fun U hU hW => ⟨rfl, by rw [hU], by rw [hU], by rw [hU]; exact hP, va_K.moved hW.alike hK, hD.weaken (fun _ _ _ _ => trivial), nx_warm hW hN⟩⟩ rfl rfl hl.1 rfl (lv_room (Nat.le_of_ble_eq_true rfl)) dX9_closeTurn_40 ⟨by show ce + 0 ≤ 2400; omega, by show se + 0 ≤ 84000; omega⟩) hS (fun q _ h => hFc q h) hFc (fun u_35 t H1 locs ht hvm hw hB hz1 hk1 hS => ?_)
        obtain ⟨ad_36, ga_37, gc_38, M_39, n_40, f_41, T_42, G_43, K_44, F_45⟩ := u_35
        have hB : ∃ w : va_W, va_P (dC, dI) vwCl w t.heap ∧ va_D (va_A ws s.heap.size) w ∧ Pic9 kc w ad ga gc M n f T_42 G_43 K F_45 ∧ I9 M n T_42 gc G_43 K R ∧ hpS t.heap + (260 * M + 2 * S9 M gc) ≤ hpS s.heap + (260 * M + 2 * S9 M gc) ∧ 16 * t.heap.size + (256 * M + S9 M gc) ≤ 16 * s.heap.size + (256 * M + S9 M gc) := hB
        rw [ht] at hB
        obtain ⟨ws_46, hP, hD, hQ, hI_47, hy1, hy2⟩ := hB
        have hD := hD.weaken (fun k q _ h => hFc _ h)
        obtain ⟨i1_48, i2_49, i3_50, i4_51, i5_52, i6_53, i7_54, i8_55, i9_56⟩ := id hI_47
        have q1_ := i1_48
        unfold i1 at q1_
        have hSl := S9_le i8_55 i9_56
        have hb0_ := i8_55.2.1 0 (by omega)
        have hb1_ := i8_55.2.1 1 (by omega)
        have hb2_ := i8_55.2.1 2 (by omega)
        refine W_msr2 (fun hn1 hn2 hn3 => ?_)
        obtain ⟨ce2, se2, hk3, hk4, hr1, hr2⟩ : ∃ c2 s2 : Nat, H1.size ≤ s.heap.size + c2 ∧ hpS H1 ≤ hpS s.heap + s2 ∧ s2 + (260 * M + 2 * S9 M gc) ≤ (260 * M + 2 * S9 M gc) ∧ 16 * c2 + (256 * M + S9 M gc) ≤ (256 * M + S9 M gc) := ⟨H1.size - s.heap.size, hpS H1 - hpS s.heap, by omega, by omega, by have := hS.1; omega, by have := hS.1; omega⟩
        refine W_tightP hk3 hk4 ?_
        clear hm1 hm2 hm3 hn1 hn2 hn3 hk3 hk4
        clear hk1 hz1
        generalize ce2 = ce, se2 = se at hr1 hr2 ⊢
        generalize H1 = H at hP hS ⊢
        have w_57 : (∀ t : Nat, T_42 t = T t ∨ T_42 t = none) := hw
        refine lv_aload_n hx hb dX9_closeTurn_43 rfl (lv_at hl 1 rfl) ?_
        have hCc : ([(50 + 16 * i)] : List Nat).map (fun i => ws_46[i]?) = ([(ad (50 + 16 * i), .inr (7, [.int (G_43 i 0), .int (G_43 i 1), .int (G_43 i 2), .int (G_43 i 3), .int (G_43 i 4), .int (G_43 i 5), .int (G_43 i 6), .int (G_43 i 7), .int (G_43 i 8), .int (G_43 i 9), .ref (ad (50 + 16 * i + 1)), .ref (ad (50 + 16 * i + 2)), .ref (ad (50 + 16 * i + 6)), .ref (ad (50 + 16 * i + 13)), .ref (ad (50 + 16 * i + 14))]))] : va_W).map some := mp1 (hQ.b0 hi)
        have hNd : ([(50 + 16 * i)] : List Nat).Nodup := (nd_off (50 + 16 * i) (l := [0]) (by decide))
        have hPc := hP.pick [(50 + 16 * i)] hCc
        have hDc := hD.pick [(50 + 16 * i)] hNd hCc
        have hKc := hK.sub (tys' := []) [] rfl
        have hFc := va_free (wc := [(ad (50 + 16 * i), .inr (7, [.int (G_43 i 0), .int (G_43 i 1), .int (G_43 i 2), .int (G_43 i 3), .int (G_43 i 4), .int (G_43 i 5), .int (G_43 i 6), .int (G_43 i 7), .int (G_43 i 8), .int (G_43 i 9), .ref (ad (50 + 16 * i + 1)), .ref (ad (50 + 16 * i + 2)), .ref (ad (50 + 16 * i + 6)), .ref (ad (50 + 16 * i + 13)), .ref (ad (50 + 16 * i + 14))]))]) hD hS hA [(50 + 16 * i)] hCc
        refine W_msr2 (fun hm1 hm2 hm3 => ?_)
        refine va_calli (va_runV (As := []) (rest := []) ⟨hx, hb, hml, hown, hg⟩ (c_X7_isOver l dC dI (ad (50 + 16 * i)) (ad (50 + 16 * i + 1)) (ad (50 + 16 * i + 2)) (ad (50 + 16 * i + 6)) (ad (50 + 16 * i + 13)) (ad (50 + 16 * i + 14)) (G_43 i 0) (G_43 i 1) (G_43 i 2) (G_43 i 3) (G_43 i 4) (G_43 i 5) (G_43 i 6) (G_43 i 7) (G_43 i 8) (G_43 i 9) H.size ) (cwV 0 hg (gw_V gm_methodLink_RX9_138_yX7_isOver gm_instanceMethod_yX7_isOver gm_selects_RX7_yX7_isOver_yX7_isOver gm_initialized_RX7 gm_code_yX7_isOver_cX7_isOver_1_some_boolean_) rfl rfl rfl (by decide +kernel) ⟨Nat.le_of_ble_eq_true rfl, Nat.le_of_ble_eq_true rfl⟩) ⟨fun a U g mk q => by obtain ⟨q0, q1, qP, qK, qD, qN⟩ := q; exact ⟨q0, q1, qP, va_K.moved (u := U) (U := U.calling g mk a) (Vm.Alike.refl U.vm) qK, qD, nx_same (u := U) (U := U.calling g mk a) rfl qN⟩, va_recv hK hP (ci := 7) (q0 := (50 + 16 * i)) rfl (hQ.b0 hi), fun U hU hW => ⟨rfl, by rw [hU], by rw [hU]; exact hPc, va_K.moved hW.alike hKc, hDc.weaken (fun _ _ _ _ => trivial), nx_warm hW hN⟩⟩ rfl rfl hl.1 rfl (lv_room (Nat.le_of_ble_eq_true rfl)) dX9_closeTurn_44 ⟨by show ce + 0 ≤ 2400; omega, by show se + 0 ≤ 84000; omega⟩) hS (fun q _ h => hFc q h) hFc (fun r_58 u_59 t H1 locs ht hvm hw hB hz1 hk1 hS => ?_)
        obtain ⟨hP1, hD1⟩ := hB
        rw [ht] at hP1
        obtain ⟨hP, hD⟩ := va_replS hP hD [(50 + 16 * i)] hCc hNd hk1 hFc hP1 hD1
        refine W.widen (k := ce) (n := se) (Nat.le_refl _) (Nat.le_refl _) ?_
        generalize H1 = H at hP hS ⊢
        rcases hw with ⟨rfl, w_60⟩ | ⟨rfl, w_60⟩
        · refine lv_if_eq (tgt := 55) hx hb dX9_closeTurn_47 (by decide) (fun c_61 => absurd c_61 (by decide)) (fun _ => ?_)
          refine lv_aload_n hx hb dX9_closeTurn_50 rfl (lv_at hl 0 rfl) ?_
          refine lv_aload_n hx hb dX9_closeTurn_51 rfl (lv_at hl 1 rfl) ?_
          have hFc := free_all hD hS hA
          refine W_msr2 (fun hm1 hm2 hm3 => ?_)
          refine va_callv (va_runV (As := [.ref (ad (50 + 16 * i))]) (rest := []) ⟨hx, hb, hml, hown, hg⟩ (c_X9_tellUncaught l dC dI kc ws_46 ad ga gc M n f T_42 G_43 K F_45 R i H.size (hpS H) hQ ⟨i1_48, i2_49, i3_50, i4_51, i5_52, i6_53, i7_54, i8_55, i9_56⟩ (by show i < M; omega) (by show R ≤ 310000; omega)) (cwV 1 hg (gw_V gm_methodLink_RX9_319_yX9_tellUncaught gm_instanceMethod_yX9_tellUncaught gm_selects_RX9_yX9_tellUncaught_yX9_tellUncaught gm_initialized_RX9 gm_code_yX9_tellUncaught_cX9_tellUncaught_5_none) rfl rfl rfl (by decide +kernel) ⟨Nat.le_of_ble_eq_true rfl, Nat.le_of_ble_eq_true rfl⟩) ⟨fun a U g mk q => by obtain ⟨q0, q1, q2, qP, qK, qD, qN⟩ := q; exact ⟨q0, q1, q2, qP, va_K.moved (u := U) (U := U.calling g mk a) (Vm.Alike.refl U.vm) qK, qD, nx_same (u := U) (U := U.calling g mk a) rfl qN⟩, va_recv hK hP (ci := 9) (q0 := 0) rfl hQ.x0, fun U hU hW => ⟨rfl, by rw [hU], by rw [hU], by rw [hU]; exact hP, va_K.moved hW.alike hK, hD.weaken (fun _ _ _ _ => trivial), nx_warm hW hN⟩⟩ rfl rfl hl.1 rfl (lv_room (Nat.le_of_ble_eq_true rfl)) dX9_closeTurn_52 ⟨by show ce + 1800 ≤ 2400; omega, by show se + 67000 ≤ 84000; omega⟩) hS (fun q _ h => hFc q h) hFc (fun u_63 t H1 locs ht hvm hw hB hz1 hk1 hS => ?_)
          obtain ⟨ad_64, ga_65, gc_66, M_67, n_68, f_69, T_70, G_71, K_72, F_73⟩ := u_63
          have hB : ∃ w : va_W, va_P (dC, dI) vwCl w t.heap ∧ va_D (va_A ws_46 H.size) w ∧ Pic9 kc w ad ga_65 gc_66 M n_68 f_69 T_42 G_71 K F_45 ∧ I9 M n_68 T_42 gc_66 G_71 K R ∧ hpS t.heap + (260 * M + 2 * S9 M gc) ≤ hpS H + (260 * M + 2 * S9 M gc_66) ∧ 16 * t.heap.size + (256 * M + S9 M gc) ≤ 16 * H.size + (256 * M + S9 M gc_66) ∧ (n 0).toInt ≤ (n_68 0).toInt := hB
          rw [ht] at hB
          obtain ⟨ws_74, hP, hD, hQ, hI_76, hy1, hy2, hn_75⟩ := hB
          have hD := hD.weaken (fun k q _ h => hFc _ h)
          obtain ⟨i1_77, i2_78, i3_79, i4_80, i5_81, i6_82, i7_83, i8_84, i9_85⟩ := id hI_76
          have q1_ := i1_77
          unfold i1 at q1_
          have hSl := S9_le i8_84 i9_85
          have hb0_ := i8_84.2.1 0 (by omega)
          have hb1_ := i8_84.2.1 1 (by omega)
          have hb2_ := i8_84.2.1 2 (by omega)
          refine W_msr2 (fun hn1 hn2 hn3 => ?_)
          obtain ⟨ce2, se2, hk3, hk4, hr1, hr2⟩ : ∃ c2 s2 : Nat, H1.size ≤ s.heap.size + c2 ∧ hpS H1 ≤ hpS s.heap + s2 ∧ s2 + (260 * M + 2 * S9 M gc) ≤ (260 * M + 2 * S9 M gc_66) ∧ 16 * c2 + (256 * M + S9 M gc) ≤ (256 * M + S9 M gc_66) := ⟨H1.size - s.heap.size, hpS H1 - hpS s.heap, by omega, by omega, by have := hS.1; omega, by have := hS.1; omega⟩
          refine W_tightP hk3 hk4 ?_
          clear hm1 hm2 hm3 hn1 hn2 hn3 hk3 hk4
          clear hk1 hz1
          generalize ce2 = ce, se2 = se at hr1 hr2 ⊢
          generalize H1 = H at hP hS ⊢
          have w_86 : S9 M gc_66 + gc 1 ≤ S9 M gc + gc_66 1 ∧ (n_68 0).toInt = (n 0).toInt := hw
          refine W_msr2 (fun hm1 hm2 hm3 => ?_)
          have hSl := S9_le i8_84 i9_85
          have hb0_ := i8_84.2.1 0 (by omega)
          have hb1_ := i8_84.2.1 1 (by omega)
          have hb2_ := i8_84.2.1 2 (by omega)
          refine W.widen (k := 2400) (n := 84000) (by omega) (by omega) ?_
          exact W.vret hx hb hr (fun t ht hW => ⟨⟨(ad, ga_65, gc_66, M, n_68, f_69, T_42, G_71, K, F_45), rfl, ⟨by show S9 M gc_66 + gc 1 ≤ S9 M gc + gc_66 1; omega, by show (n_68 0).toInt = (n 0).toInt; omega, w_57⟩, ws_74, by rw [ht]; exact hP, hD, hQ, ⟨i1_77, i2_78, i3_79, i4_80, i5_81, i6_82, i7_83, i8_84, i9_85⟩, by rw [ht]; show hpS H + (260 * M + 2 * S9 M gc) ≤ hpS s.heap + (260 * M + 2 * S9 M gc_66); omega, by rw [ht]; show 16 * H.size + (256 * M + S9 M gc) ≤ 16 * s.heap.size + (256 * M + S9 M gc_66); omega, by show (n 0).toInt ≤ (n_68 0).toInt; omega⟩, hS.F ht⟩) hS.2.2 dX9_closeTurn_55
        · refine lv_if_eq (tgt := 55) hx hb dX9_closeTurn_47 (by decide) (fun _ => ?_) (fun c_87 => absurd c_87 (by decide))
          refine W_msr2 (fun hm1 hm2 hm3 => ?_)
          have hSl := S9_le i8_55 i9_56
          have hb0_ := i8_55.2.1 0 (by omega)
          have hb1_ := i8_55.2.1 1 (by omega)
          have hb2_ := i8_55.2.1 2 (by omega)
          refine W.widen (k := 2400) (n := 84000) (by omega) (by omega) ?_
          exact W.vret hx hb hr (fun t ht hW => ⟨⟨(ad, ga, gc, M, n, f, T_42, G_43, K, F_45), rfl, ⟨by show S9 M gc + gc 1 ≤ S9 M gc + gc 1; omega, by show (n 0).toInt = (n 0).toInt; omega, w_57⟩, ws_46, by rw [ht]; exact hP, hD, hQ, ⟨i1_48, i2_49, i3_50, i4_51, i5_52, i6_53, i7_54, i8_55, i9_56⟩, by rw [ht]; show hpS H + (260 * M + 2 * S9 M gc) ≤ hpS s.heap + (260 * M + 2 * S9 M gc); omega, by rw [ht]; show 16 * H.size + (256 * M + S9 M gc) ≤ 16 * s.heap.size + (256 * M + S9 M gc); omega, by show (n 0).toInt ≤ (n 0).toInt; omega⟩, hS.F ht⟩) hS.2.2 dX9_closeTurn_55
    · simp only [i_lt, i_le, i_eq, ti_m2] at c_2
      refine lv_aload_n hx hb dX9_closeTurn_24 rfl (lv_at hl 0 rfl) ?_
      refine lv_aload_n hx hb dX9_closeTurn_25 rfl (lv_at hl 1 rfl) ?_
      refine lv_iload_n hx hb dX9_closeTurn_26 rfl (lv_at hl 2 rfl) ?_
      have hFc := free_all hD hS hA
      refine W_msr2 (fun hm1 hm2 hm3 => ?_)
      refine va_callv (va_runV (As := [.ref (ad (50 + 16 * i)), .int v2]) (rest := []) ⟨hx, hb, hml, hown, hg⟩ (c_X9_failWith l dC dI kc ws ad ga gc M n f T G K F R i v2 s.heap.size (hpS s.heap) hQ ⟨h_i1, h_i2, h_i3, h_i4, h_i5, h_i6, h_i7, h_i8, h_i9⟩ (by show i < M; omega)) (cwV 2 hg (gw_V gm_methodLink_RX9_313_yX9_failWith gm_instanceMethod_yX9_failWith gm_selects_RX9_yX9_failWith_yX9_failWith gm_initialized_RX9 gm_code_yX9_failWith_cX9_failWith_4_none) rfl rfl rfl (by decide +kernel) ⟨Nat.le_of_ble_eq_true rfl, Nat.le_of_ble_eq_true rfl⟩) ⟨fun a U g mk q => by obtain ⟨q0, q1, q2, qP, qK, qD, qN⟩ := q; exact ⟨q0, q1, q2, qP, va_K.moved (u := U) (U := U.calling g mk a) (Vm.Alike.refl U.vm) qK, qD, nx_same (u := U) (U := U.calling g mk a) rfl qN⟩, va_recv hK hP (ci := 9) (q0 := 0) rfl hQ.x0, fun U hU hW => ⟨rfl, by rw [hU], by rw [hU], by rw [hU]; exact hP, va_K.moved hW.alike hK, hD.weaken (fun _ _ _ _ => trivial), nx_warm hW hN⟩⟩ rfl rfl hl.1 rfl (lv_room (Nat.le_of_ble_eq_true rfl)) dX9_closeTurn_27 ⟨by show ce + 0 ≤ 2400; omega, by show se + 0 ≤ 84000; omega⟩) hS (fun q _ h => hFc q h) hFc (fun u_89 t H1 locs ht hvm hw hB hz1 hk1 hS => ?_)
      obtain ⟨ad_90, ga_91, gc_92, M_93, n_94, f_95, T_96, G_97, K_98, F_99⟩ := u_89
      have hB : ∃ w : va_W, va_P (dC, dI) vwCl w t.heap ∧ va_D (va_A ws s.heap.size) w ∧ Pic9 kc w ad ga gc M n f T G_97 K F_99 ∧ I9 M n T gc G_97 K R ∧ hpS t.heap + (260 * M + 2 * S9 M gc) ≤ hpS s.heap + (260 * M + 2 * S9 M gc) ∧ 16 * t.heap.size + (256 * M + S9 M gc) ≤ 16 * s.heap.size + (256 * M + S9 M gc) := hB
      rw [ht] at hB
      obtain ⟨ws_100, hP, hD, hQ, hI_101, hy1, hy2⟩ := hB
      have hD := hD.weaken (fun k q _ h => hFc _ h)
      obtain ⟨i1_102, i2_103, i3_104, i4_105, i5_106, i6_107, i7_108, i8_109, i9_110⟩ := id hI_101
      have q1_ := i1_102
      unfold i1 at q1_
      have hSl := S9_le i8_109 i9_110
      have hb0_ := i8_109.2.1 0 (by omega)
      have hb1_ := i8_109.2.1 1 (by omega)
      have hb2_ := i8_109.2.1 2 (by omega)
      refine W_msr2 (fun hn1 hn2 hn3 => ?_)
      obtain ⟨ce2, se2, hk3, hk4, hr1, hr2⟩ : ∃ c2 s2 : Nat, H1.size ≤ s.heap.size + c2 ∧ hpS H1 ≤ hpS s.heap + s2 ∧ s2 + (260 * M + 2 * S9 M gc) ≤ (260 * M + 2 * S9 M gc) ∧ 16 * c2 + (256 * M + S9 M gc) ≤ (256 * M + S9 M gc) := ⟨H1.size - s.heap.size, hpS H1 - hpS s.heap, by omega, by omega, by have := hS.1; omega, by have := hS.1; omega⟩
      refine W_tightP hk3 hk4 ?_
      clear hm1 hm2 hm3 hn1 hn2 hn3 hk3 hk4
      clear hk1 hz1
      generalize ce2 = ce, se2 = se at hr1 hr2 ⊢
      generalize H1 = H at hP hS ⊢
      refine lv_aload_n hx hb dX9_closeTurn_30 rfl (lv_at hl 1 rfl) ?_
      refine va_get (D := (dC, dI)) (ci := 7) (v := .int (G_97 i 2)) (C := RX7) (T := TX7) (N := 15) hx hb hg gb_7 hown hK hP (50 + 16 * i) (hQ.b0 hi) rfl 2 (by decide) (hg _ gm_fieldLink_RX9_145_ErrandGuild_Run_state_I_) (fun _ h9 => h9) rfl dX9_closeTurn_31 ?_
      refine lv_iconst (v := 1) hx hb dX9_closeTurn_34 (by decide) ?_
      refine lv_icmp_eq (tgt := 43) hx hb dX9_closeTurn_35 (by decide) (fun c_111 => ?_) (fun c_111 => ?_)
      · simp only [i_lt, i_le, i_eq, ti_1] at c_111
        refine lv_aload_n hx hb dX9_closeTurn_43 rfl (lv_at hl 1 rfl) ?_
        have hCc : ([(50 + 16 * i)] : List Nat).map (fun i => ws_100[i]?) = ([(ad (50 + 16 * i), .inr (7, [.int (G_97 i 0), .int (G_97 i 1), .int (G_97 i 2), .int (G_97 i 3), .int (G_97 i 4), .int (G_97 i 5), .int (G_97 i 6), .int (G_97 i 7), .int (G_97 i 8), .int (G_97 i 9), .ref (ad (50 + 16 * i + 1)), .ref (ad (50 + 16 * i + 2)), .ref (ad (50 + 16 * i + 6)), .ref (ad (50 + 16 * i + 13)), .ref (ad (50 + 16 * i + 14))]))] : va_W).map some := mp1 (hQ.b0 hi)
        have hNd : ([(50 + 16 * i)] : List Nat).Nodup := (nd_off (50 + 16 * i) (l := [0]) (by decide))
        have hPc := hP.pick [(50 + 16 * i)] hCc
        have hDc := hD.pick [(50 + 16 * i)] hNd hCc
        have hKc := hK.sub (tys' := []) [] rfl
        have hFc := va_free (wc := [(ad (50 + 16 * i), .inr (7, [.int (G_97 i 0), .int (G_97 i 1), .int (G_97 i 2), .int (G_97 i 3), .int (G_97 i 4), .int (G_97 i 5), .int (G_97 i 6), .int (G_97 i 7), .int (G_97 i 8), .int (G_97 i 9), .ref (ad (50 + 16 * i + 1)), .ref (ad (50 + 16 * i + 2)), .ref (ad (50 + 16 * i + 6)), .ref (ad (50 + 16 * i + 13)), .ref (ad (50 + 16 * i + 14))]))]) hD hS hA [(50 + 16 * i)] hCc
        refine W_msr2 (fun hm1 hm2 hm3 => ?_)
        refine va_calli (va_runV (As := []) (rest := []) ⟨hx, hb, hml, hown, hg⟩ (c_X7_isOver l dC dI (ad (50 + 16 * i)) (ad (50 + 16 * i + 1)) (ad (50 + 16 * i + 2)) (ad (50 + 16 * i + 6)) (ad (50 + 16 * i + 13)) (ad (50 + 16 * i + 14)) (G_97 i 0) (G_97 i 1) (G_97 i 2) (G_97 i 3) (G_97 i 4) (G_97 i 5) (G_97 i 6) (G_97 i 7) (G_97 i 8) (G_97 i 9) H.size ) (cwV 0 hg (gw_V gm_methodLink_RX9_138_yX7_isOver gm_instanceMethod_yX7_isOver gm_selects_RX7_yX7_isOver_yX7_isOver gm_initialized_RX7 gm_code_yX7_isOver_cX7_isOver_1_some_boolean_) rfl rfl rfl (by decide +kernel) ⟨Nat.le_of_ble_eq_true rfl, Nat.le_of_ble_eq_true rfl⟩) ⟨fun a U g mk q => by obtain ⟨q0, q1, qP, qK, qD, qN⟩ := q; exact ⟨q0, q1, qP, va_K.moved (u := U) (U := U.calling g mk a) (Vm.Alike.refl U.vm) qK, qD, nx_same (u := U) (U := U.calling g mk a) rfl qN⟩, va_recv hK hP (ci := 7) (q0 := (50 + 16 * i)) rfl (hQ.b0 hi), fun U hU hW => ⟨rfl, by rw [hU], by rw [hU]; exact hPc, va_K.moved hW.alike hKc, hDc.weaken (fun _ _ _ _ => trivial), nx_warm hW hN⟩⟩ rfl rfl hl.1 rfl (lv_room (Nat.le_of_ble_eq_true rfl)) dX9_closeTurn_44 ⟨by show ce + 0 ≤ 2400; omega, by show se + 0 ≤ 84000; omega⟩) hS (fun q _ h => hFc q h) hFc (fun r_112 u_113 t H1 locs ht hvm hw hB hz1 hk1 hS => ?_)
        obtain ⟨hP1, hD1⟩ := hB
        rw [ht] at hP1
        obtain ⟨hP, hD⟩ := va_replS hP hD [(50 + 16 * i)] hCc hNd hk1 hFc hP1 hD1
        refine W.widen (k := ce) (n := se) (Nat.le_refl _) (Nat.le_refl _) ?_
        generalize H1 = H at hP hS ⊢
        rcases hw with ⟨rfl, w_114⟩ | ⟨rfl, w_114⟩
        · refine lv_if_eq (tgt := 55) hx hb dX9_closeTurn_47 (by decide) (fun c_115 => absurd c_115 (by decide)) (fun _ => ?_)
          refine lv_aload_n hx hb dX9_closeTurn_50 rfl (lv_at hl 0 rfl) ?_
          refine lv_aload_n hx hb dX9_closeTurn_51 rfl (lv_at hl 1 rfl) ?_
          have hFc := free_all hD hS hA
          refine W_msr2 (fun hm1 hm2 hm3 => ?_)
          refine va_callv (va_runV (As := [.ref (ad (50 + 16 * i))]) (rest := []) ⟨hx, hb, hml, hown, hg⟩ (c_X9_tellUncaught l dC dI kc ws_100 ad ga gc M n f T G_97 K F_99 R i H.size (hpS H) hQ ⟨i1_102, i2_103, i3_104, i4_105, i5_106, i6_107, i7_108, i8_109, i9_110⟩ (by show i < M; omega) (by show R ≤ 310000; omega)) (cwV 1 hg (gw_V gm_methodLink_RX9_319_yX9_tellUncaught gm_instanceMethod_yX9_tellUncaught gm_selects_RX9_yX9_tellUncaught_yX9_tellUncaught gm_initialized_RX9 gm_code_yX9_tellUncaught_cX9_tellUncaught_5_none) rfl rfl rfl (by decide +kernel) ⟨Nat.le_of_ble_eq_true rfl, Nat.le_of_ble_eq_true rfl⟩) ⟨fun a U g mk q => by obtain ⟨q0, q1, q2, qP, qK, qD, qN⟩ := q; exact ⟨q0, q1, q2, qP, va_K.moved (u := U) (U := U.calling g mk a) (Vm.Alike.refl U.vm) qK, qD, nx_same (u := U) (U := U.calling g mk a) rfl qN⟩, va_recv hK hP (ci := 9) (q0 := 0) rfl hQ.x0, fun U hU hW => ⟨rfl, by rw [hU], by rw [hU], by rw [hU]; exact hP, va_K.moved hW.alike hK, hD.weaken (fun _ _ _ _ => trivial), nx_warm hW hN⟩⟩ rfl rfl hl.1 rfl (lv_room (Nat.le_of_ble_eq_true rfl)) dX9_closeTurn_52 ⟨by show ce + 1800 ≤ 2400; omega, by show se + 67000 ≤ 84000; omega⟩) hS (fun q _ h => hFc q h) hFc (fun u_117 t H1 locs ht hvm hw hB hz1 hk1 hS => ?_)
          obtain ⟨ad_118, ga_119, gc_120, M_121, n_122, f_123, T_124, G_125, K_126, F_127⟩ := u_117
          have hB : ∃ w : va_W, va_P (dC, dI) vwCl w t.heap ∧ va_D (va_A ws_100 H.size) w ∧ Pic9 kc w ad ga_119 gc_120 M n_122 f_123 T G_125 K F_99 ∧ I9 M n_122 T gc_120 G_125 K R ∧ hpS t.heap + (260 * M + 2 * S9 M gc) ≤ hpS H + (260 * M + 2 * S9 M gc_120) ∧ 16 * t.heap.size + (256 * M + S9 M gc) ≤ 16 * H.size + (256 * M + S9 M gc_120) ∧ (n 0).toInt ≤ (n_122 0).toInt := hB
          rw [ht] at hB
          obtain ⟨ws_128, hP, hD, hQ, hI_130, hy1, hy2, hn_129⟩ := hB
          have hD := hD.weaken (fun k q _ h => hFc _ h)
          obtain ⟨i1_131, i2_132, i3_133, i4_134, i5_135, i6_136, i7_137, i8_138, i9_139⟩ := id hI_130
          have q1_ := i1_131
          unfold i1 at q1_
          have hSl := S9_le i8_138 i9_139
          have hb0_ := i8_138.2.1 0 (by omega)
          have hb1_ := i8_138.2.1 1 (by omega)
          have hb2_ := i8_138.2.1 2 (by omega)
          refine W_msr2 (fun hn1 hn2 hn3 => ?_)
          obtain ⟨ce2, se2, hk3, hk4, hr1, hr2⟩ : ∃ c2 s2 : Nat, H1.size ≤ s.heap.size + c2 ∧ hpS H1 ≤ hpS s.heap + s2 ∧ s2 + (260 * M + 2 * S9 M gc) ≤ (260 * M + 2 * S9 M gc_120) ∧ 16 * c2 + (256 * M + S9 M gc) ≤ (256 * M + S9 M gc_120) := ⟨H1.size - s.heap.size, hpS H1 - hpS s.heap, by omega, by omega, by have := hS.1; omega, by have := hS.1; omega⟩
          refine W_tightP hk3 hk4 ?_
          clear hm1 hm2 hm3 hn1 hn2 hn3 hk3 hk4
          clear hk1 hz1
          generalize ce2 = ce, se2 = se at hr1 hr2 ⊢
          generalize H1 = H at hP hS ⊢
          have w_140 : S9 M gc_120 + gc 1 ≤ S9 M gc + gc_120 1 ∧ (n_122 0).toInt = (n 0).toInt := hw
          refine W_msr2 (fun hm1 hm2 hm3 => ?_)
          have hSl := S9_le i8_138 i9_139
          have hb0_ := i8_138.2.1 0 (by omega)
          have hb1_ := i8_138.2.1 1 (by omega)
          have hb2_ := i8_138.2.1 2 (by omega)
          refine W.widen (k := 2400) (n := 84000) (by omega) (by omega) ?_
          exact W.vret hx hb hr (fun t ht hW => ⟨⟨(ad, ga_119, gc_120, M, n_122, f_123, T, G_125, K, F_99), rfl, ⟨by show S9 M gc_120 + gc 1 ≤ S9 M gc + gc_120 1; omega, by show (n_122 0).toInt = (n 0).toInt; omega, (fun _ => Or.inl rfl)⟩, ws_128, by rw [ht]; exact hP, hD, hQ, ⟨i1_131, i2_132, i3_133, i4_134, i5_135, i6_136, i7_137, i8_138, i9_139⟩, by rw [ht]; show hpS H + (260 * M + 2 * S9 M gc) ≤ hpS s.heap + (260 * M + 2 * S9 M gc_120); omega, by rw [ht]; show 16 * H.size + (256 * M + S9 M gc) ≤ 16 * s.heap.size + (256 * M + S9 M gc_120); omega, by show (n 0).toInt ≤ (n_122 0).toInt; omega⟩, hS.F ht⟩) hS.2.2 dX9_closeTurn_55
        · refine lv_if_eq (tgt := 55) hx hb dX9_closeTurn_47 (by decide) (fun _ => ?_) (fun c_141 => absurd c_141 (by decide))
          refine W_msr2 (fun hm1 hm2 hm3 => ?_)
          have hSl := S9_le i8_109 i9_110
          have hb0_ := i8_109.2.1 0 (by omega)
          have hb1_ := i8_109.2.1 1 (by omega)
          have hb2_ := i8_109.2.1 2 (by omega)
          refine W.widen (k := 2400) (n := 84000) (by omega) (by omega) ?_
          exact W.vret hx hb hr (fun t ht hW => ⟨⟨(ad, ga, gc, M, n, f, T, G_97, K, F_99), rfl, ⟨by show S9 M gc + gc 1 ≤ S9 M gc + gc 1; omega, by show (n 0).toInt = (n 0).toInt; omega, (fun _ => Or.inl rfl)⟩, ws_100, by rw [ht]; exact hP, hD, hQ, ⟨i1_102, i2_103, i3_104, i4_105, i5_106, i6_107, i7_108, i8_109, i9_110⟩, by rw [ht]; show hpS H + (260 * M + 2 * S9 M gc) ≤ hpS s.heap + (260 * M + 2 * S9 M gc); omega, by rw [ht]; show 16 * H.size + (256 * M + S9 M gc) ≤ 16 * s.heap.size + (256 * M + S9 M gc); omega, by show (n 0).toInt ≤ (n 0).toInt; omega⟩, hS.F ht⟩) hS.2.2 dX9_closeTurn_55
      · simp only [i_lt, i_le, i_eq, ti_1] at c_111
        refine lv_aload_n hx hb dX9_closeTurn_38 rfl (lv_at hl 0 rfl) ?_
        refine lv_aload_n hx hb dX9_closeTurn_39 rfl (lv_at hl 1 rfl) ?_
        have hFc := free_all hD hS hA
        refine W_msr2 (fun hm1 hm2 hm3 => ?_)
        refine va_callv (va_runV (As := [.ref (ad (50 + 16 * i))]) (rest := []) ⟨hx, hb, hml, hown, hg⟩ (c_X9_leaveThread l dC dI kc ws_100 ad ga gc M n f T G_97 K F_99 R i H.size (hpS H) hQ ⟨i1_102, i2_103, i3_104, i4_105, i5_106, i6_107, i7_108, i8_109, i9_110⟩ (by show i < M; omega) (by show (i : Int) < (n 0).toInt; omega) (by show (G_97 i 2).toInt ≠ 1; omega)) (cwV 1 hg (gw_V gm_methodLink_RX9_316_yX9_leaveThread gm_instanceMethod_yX9_leaveThread gm_selects_RX9_yX9_leaveThread_yX9_leaveThread gm_initialized_RX9 gm_code_yX9_leaveThread_cX9_leaveThread_3_none) rfl rfl rfl (by decide +kernel) ⟨Nat.le_of_ble_eq_true rfl, Nat.le_of_ble_eq_true rfl⟩) ⟨fun a U g mk q => by obtain ⟨q0, q1, q2, qP, qK, qD, qN⟩ := q; exact ⟨q0, q1, q2, qP, va_K.moved (u := U) (U := U.calling g mk a) (Vm.Alike.refl U.vm) qK, qD, nx_same (u := U) (U := U.calling g mk a) rfl qN⟩, va_recv hK hP (ci := 9) (q0 := 0) rfl hQ.x0, fun U hU hW => ⟨rfl, by rw [hU], by rw [hU], by rw [hU]; exact hP, va_K.moved hW.alike hK, hD.weaken (fun _ _ _ _ => trivial), nx_warm hW hN⟩⟩ rfl rfl hl.1 rfl (lv_room (Nat.le_of_ble_eq_true rfl)) dX9_closeTurn_40 ⟨by show ce + 0 ≤ 2400; omega, by show se + 0 ≤ 84000; omega⟩) hS (fun q _ h => hFc q h) hFc (fun u_143 t H1 locs ht hvm hw hB hz1 hk1 hS => ?_)
        obtain ⟨ad_144, ga_145, gc_146, M_147, n_148, f_149, T_150, G_151, K_152, F_153⟩ := u_143
        have hB : ∃ w : va_W, va_P (dC, dI) vwCl w t.heap ∧ va_D (va_A ws_100 H.size) w ∧ Pic9 kc w ad ga gc M n f T_150 G_151 K F_153 ∧ I9 M n T_150 gc G_151 K R ∧ hpS t.heap + (260 * M + 2 * S9 M gc) ≤ hpS H + (260 * M + 2 * S9 M gc) ∧ 16 * t.heap.size + (256 * M + S9 M gc) ≤ 16 * H.size + (256 * M + S9 M gc) := hB
        rw [ht] at hB
        obtain ⟨ws_154, hP, hD, hQ, hI_155, hy1, hy2⟩ := hB
        have hD := hD.weaken (fun k q _ h => hFc _ h)
        obtain ⟨i1_156, i2_157, i3_158, i4_159, i5_160, i6_161, i7_162, i8_163, i9_164⟩ := id hI_155
        have q1_ := i1_156
        unfold i1 at q1_
        have hSl := S9_le i8_163 i9_164
        have hb0_ := i8_163.2.1 0 (by omega)
        have hb1_ := i8_163.2.1 1 (by omega)
        have hb2_ := i8_163.2.1 2 (by omega)
        refine W_msr2 (fun hn1 hn2 hn3 => ?_)
        obtain ⟨ce2, se2, hk3, hk4, hr1, hr2⟩ : ∃ c2 s2 : Nat, H1.size ≤ s.heap.size + c2 ∧ hpS H1 ≤ hpS s.heap + s2 ∧ s2 + (260 * M + 2 * S9 M gc) ≤ (260 * M + 2 * S9 M gc) ∧ 16 * c2 + (256 * M + S9 M gc) ≤ (256 * M + S9 M gc) := ⟨H1.size - s.heap.size, hpS H1 - hpS s.heap, by omega, by omega, by have := hS.1; omega, by have := hS.1; omega⟩
        refine W_tightP hk3 hk4 ?_
        clear hm1 hm2 hm3 hn1 hn2 hn3 hk3 hk4
        clear hk1 hz1
        generalize ce2 = ce, se2 = se at hr1 hr2 ⊢
        generalize H1 = H at hP hS ⊢
        have w_165 : (∀ t : Nat, T_150 t = T t ∨ T_150 t = none) := hw
        refine lv_aload_n hx hb dX9_closeTurn_43 rfl (lv_at hl 1 rfl) ?_
        have hCc : ([(50 + 16 * i)] : List Nat).map (fun i => ws_154[i]?) = ([(ad (50 + 16 * i), .inr (7, [.int (G_151 i 0), .int (G_151 i 1), .int (G_151 i 2), .int (G_151 i 3), .int (G_151 i 4), .int (G_151 i 5), .int (G_151 i 6), .int (G_151 i 7), .int (G_151 i 8), .int (G_151 i 9), .ref (ad (50 + 16 * i + 1)), .ref (ad (50 + 16 * i + 2)), .ref (ad (50 + 16 * i + 6)), .ref (ad (50 + 16 * i + 13)), .ref (ad (50 + 16 * i + 14))]))] : va_W).map some := mp1 (hQ.b0 hi)
        have hNd : ([(50 + 16 * i)] : List Nat).Nodup := (nd_off (50 + 16 * i) (l := [0]) (by decide))
        have hPc := hP.pick [(50 + 16 * i)] hCc
        have hDc := hD.pick [(50 + 16 * i)] hNd hCc
        have hKc := hK.sub (tys' := []) [] rfl
        have hFc := va_free (wc := [(ad (50 + 16 * i), .inr (7, [.int (G_151 i 0), .int (G_151 i 1), .int (G_151 i 2), .int (G_151 i 3), .int (G_151 i 4), .int (G_151 i 5), .int (G_151 i 6), .int (G_151 i 7), .int (G_151 i 8), .int (G_151 i 9), .ref (ad (50 + 16 * i + 1)), .ref (ad (50 + 16 * i + 2)), .ref (ad (50 + 16 * i + 6)), .ref (ad (50 + 16 * i + 13)), .ref (ad (50 + 16 * i + 14))]))]) hD hS hA [(50 + 16 * i)] hCc
        refine W_msr2 (fun hm1 hm2 hm3 => ?_)
        refine va_calli (va_runV (As := []) (rest := []) ⟨hx, hb, hml, hown, hg⟩ (c_X7_isOver l dC dI (ad (50 + 16 * i)) (ad (50 + 16 * i + 1)) (ad (50 + 16 * i + 2)) (ad (50 + 16 * i + 6)) (ad (50 + 16 * i + 13)) (ad (50 + 16 * i + 14)) (G_151 i 0) (G_151 i 1) (G_151 i 2) (G_151 i 3) (G_151 i 4) (G_151 i 5) (G_151 i 6) (G_151 i 7) (G_151 i 8) (G_151 i 9) H.size ) (cwV 0 hg (gw_V gm_methodLink_RX9_138_yX7_isOver gm_instanceMethod_yX7_isOver gm_selects_RX7_yX7_isOver_yX7_isOver gm_initialized_RX7 gm_code_yX7_isOver_cX7_isOver_1_some_boolean_) rfl rfl rfl (by decide +kernel) ⟨Nat.le_of_ble_eq_true rfl, Nat.le_of_ble_eq_true rfl⟩) ⟨fun a U g mk q => by obtain ⟨q0, q1, qP, qK, qD, qN⟩ := q; exact ⟨q0, q1, qP, va_K.moved (u := U) (U := U.calling g mk a) (Vm.Alike.refl U.vm) qK, qD, nx_same (u := U) (U := U.calling g mk a) rfl qN⟩, va_recv hK hP (ci := 7) (q0 := (50 + 16 * i)) rfl (hQ.b0 hi), fun U hU hW => ⟨rfl, by rw [hU], by rw [hU]; exact hPc, va_K.moved hW.alike hKc, hDc.weaken (fun _ _ _ _ => trivial), nx_warm hW hN⟩⟩ rfl rfl hl.1 rfl (lv_room (Nat.le_of_ble_eq_true rfl)) dX9_closeTurn_44 ⟨by show ce + 0 ≤ 2400; omega, by show se + 0 ≤ 84000; omega⟩) hS (fun q _ h => hFc q h) hFc (fun r_166 u_167 t H1 locs ht hvm hw hB hz1 hk1 hS => ?_)
        obtain ⟨hP1, hD1⟩ := hB
        rw [ht] at hP1
        obtain ⟨hP, hD⟩ := va_replS hP hD [(50 + 16 * i)] hCc hNd hk1 hFc hP1 hD1
        refine W.widen (k := ce) (n := se) (Nat.le_refl _) (Nat.le_refl _) ?_
        generalize H1 = H at hP hS ⊢
        rcases hw with ⟨rfl, w_168⟩ | ⟨rfl, w_168⟩
        · refine lv_if_eq (tgt := 55) hx hb dX9_closeTurn_47 (by decide) (fun c_169 => absurd c_169 (by decide)) (fun _ => ?_)
          refine lv_aload_n hx hb dX9_closeTurn_50 rfl (lv_at hl 0 rfl) ?_
          refine lv_aload_n hx hb dX9_closeTurn_51 rfl (lv_at hl 1 rfl) ?_
          have hFc := free_all hD hS hA
          refine W_msr2 (fun hm1 hm2 hm3 => ?_)
          refine va_callv (va_runV (As := [.ref (ad (50 + 16 * i))]) (rest := []) ⟨hx, hb, hml, hown, hg⟩ (c_X9_tellUncaught l dC dI kc ws_154 ad ga gc M n f T_150 G_151 K F_153 R i H.size (hpS H) hQ ⟨i1_156, i2_157, i3_158, i4_159, i5_160, i6_161, i7_162, i8_163, i9_164⟩ (by show i < M; omega) (by show R ≤ 310000; omega)) (cwV 1 hg (gw_V gm_methodLink_RX9_319_yX9_tellUncaught gm_instanceMethod_yX9_tellUncaught gm_selects_RX9_yX9_tellUncaught_yX9_tellUncaught gm_initialized_RX9 gm_code_yX9_tellUncaught_cX9_tellUncaught_5_none) rfl rfl rfl (by decide +kernel) ⟨Nat.le_of_ble_eq_true rfl, Nat.le_of_ble_eq_true rfl⟩) ⟨fun a U g mk q => by obtain ⟨q0, q1, q2, qP, qK, qD, qN⟩ := q; exact ⟨q0, q1, q2, qP, va_K.moved (u := U) (U := U.calling g mk a) (Vm.Alike.refl U.vm) qK, qD, nx_same (u := U) (U := U.calling g mk a) rfl qN⟩, va_recv hK hP (ci := 9) (q0 := 0) rfl hQ.x0, fun U hU hW => ⟨rfl, by rw [hU], by rw [hU], by rw [hU]; exact hP, va_K.moved hW.alike hK, hD.weaken (fun _ _ _ _ => trivial), nx_warm hW hN⟩⟩ rfl rfl hl.1 rfl (lv_room (Nat.le_of_ble_eq_true rfl)) dX9_closeTurn_52 ⟨by show ce + 1800 ≤ 2400; omega, by show se + 67000 ≤ 84000; omega⟩) hS (fun q _ h => hFc q h) hFc (fun u_171 t H1 locs ht hvm hw hB hz1 hk1 hS => ?_)
          obtain ⟨ad_172, ga_173, gc_174, M_175, n_176, f_177, T_178, G_179, K_180, F_181⟩ := u_171
          have hB : ∃ w : va_W, va_P (dC, dI) vwCl w t.heap ∧ va_D (va_A ws_154 H.size) w ∧ Pic9 kc w ad ga_173 gc_174 M n_176 f_177 T_150 G_179 K F_153 ∧ I9 M n_176 T_150 gc_174 G_179 K R ∧ hpS t.heap + (260 * M + 2 * S9 M gc) ≤ hpS H + (260 * M + 2 * S9 M gc_174) ∧ 16 * t.heap.size + (256 * M + S9 M gc) ≤ 16 * H.size + (256 * M + S9 M gc_174) ∧ (n 0).toInt ≤ (n_176 0).toInt := hB
          rw [ht] at hB
          obtain ⟨ws_182, hP, hD, hQ, hI_184, hy1, hy2, hn_183⟩ := hB
          have hD := hD.weaken (fun k q _ h => hFc _ h)
          obtain ⟨i1_185, i2_186, i3_187, i4_188, i5_189, i6_190, i7_191, i8_192, i9_193⟩ := id hI_184
          have q1_ := i1_185
          unfold i1 at q1_
          have hSl := S9_le i8_192 i9_193
          have hb0_ := i8_192.2.1 0 (by omega)
          have hb1_ := i8_192.2.1 1 (by omega)
          have hb2_ := i8_192.2.1 2 (by omega)
          refine W_msr2 (fun hn1 hn2 hn3 => ?_)
          obtain ⟨ce2, se2, hk3, hk4, hr1, hr2⟩ : ∃ c2 s2 : Nat, H1.size ≤ s.heap.size + c2 ∧ hpS H1 ≤ hpS s.heap + s2 ∧ s2 + (260 * M + 2 * S9 M gc) ≤ (260 * M + 2 * S9 M gc_174) ∧ 16 * c2 + (256 * M + S9 M gc) ≤ (256 * M + S9 M gc_174) := ⟨H1.size - s.heap.size, hpS H1 - hpS s.heap, by omega, by omega, by have := hS.1; omega, by have := hS.1; omega⟩
          refine W_tightP hk3 hk4 ?_
          clear hm1 hm2 hm3 hn1 hn2 hn3 hk3 hk4
          clear hk1 hz1
          generalize ce2 = ce, se2 = se at hr1 hr2 ⊢
          generalize H1 = H at hP hS ⊢
          have w_194 : S9 M gc_174 + gc 1 ≤ S9 M gc + gc_174 1 ∧ (n_176 0).toInt = (n 0).toInt := hw
          refine W_msr2 (fun hm1 hm2 hm3 => ?_)
          have hSl := S9_le i8_192 i9_193
          have hb0_ := i8_192.2.1 0 (by omega)
          have hb1_ := i8_192.2.1 1 (by omega)
          have hb2_ := i8_192.2.1 2 (by omega)
          refine W.widen (k := 2400) (n := 84000) (by omega) (by omega) ?_
          exact W.vret hx hb hr (fun t ht hW => ⟨⟨(ad, ga_173, gc_174, M, n_176, f_177, T_150, G_179, K, F_153), rfl, ⟨by show S9 M gc_174 + gc 1 ≤ S9 M gc + gc_174 1; omega, by show (n_176 0).toInt = (n 0).toInt; omega, w_165⟩, ws_182, by rw [ht]; exact hP, hD, hQ, ⟨i1_185, i2_186, i3_187, i4_188, i5_189, i6_190, i7_191, i8_192, i9_193⟩, by rw [ht]; show hpS H + (260 * M + 2 * S9 M gc) ≤ hpS s.heap + (260 * M + 2 * S9 M gc_174); omega, by rw [ht]; show 16 * H.size + (256 * M + S9 M gc) ≤ 16 * s.heap.size + (256 * M + S9 M gc_174); omega, by show (n 0).toInt ≤ (n_176 0).toInt; omega⟩, hS.F ht⟩) hS.2.2 dX9_closeTurn_55
        · refine lv_if_eq (tgt := 55) hx hb dX9_closeTurn_47 (by decide) (fun _ => ?_) (fun c_195 => absurd c_195 (by decide))
          refine W_msr2 (fun hm1 hm2 hm3 => ?_)
          have hSl := S9_le i8_163 i9_164
          have hb0_ := i8_163.2.1 0 (by omega)
          have hb1_ := i8_163.2.1 1 (by omega)
          have hb2_ := i8_163.2.1 2 (by omega)
          refine W.widen (k := 2400) (n := 84000) (by omega) (by omega) ?_
          exact W.vret hx hb hr (fun t ht hW => ⟨⟨(ad, ga, gc, M, n, f, T_150, G_151, K, F_153), rfl, ⟨by show S9 M gc + gc 1 ≤ S9 M gc + gc 1; omega, by show (n 0).toInt = (n 0).toInt; omega, w_165⟩, ws_154, by rw [ht]; exact hP, hD, hQ, ⟨i1_156, i2_157, i3_158, i4_159, i5_160, i6_161, i7_162, i8_163, i9_164⟩, by rw [ht]; show hpS H + (260 * M + 2 * S9 M gc) ≤ hpS s.heap + (260 * M + 2 * S9 M gc); omega, by rw [ht]; show 16 * H.size + (256 * M + S9 M gc) ≤ 16 * s.heap.size + (256 * M + S9 M gc); omega, by show (n 0).toInt ≤ (n 0).toInt; omega⟩, hS.F ht⟩) hS.2.2 dX9_closeTurn_55
  · simp only [i_lt, i_le, i_eq, ti_m1] at c_1
    refine lv_aload_n hx hb dX9_closeTurn_5 rfl (lv_at hl 1 rfl) ?_
    refine lv_dup hx hb dX9_closeTurn_6 rfl ?_
    refine va_get (D := (dC, dI)) (ci := 7) (v := .int (G i 6)) (C := RX7) (T := TX7) (N := 15) hx hb hg gb_7 hown hK hP (50 + 16 * i) (hQ.b0 hi) rfl 6 (by decide) (hg _ gm_fieldLink_RX9_174_ErrandGuild_Run_place_I_) (fun _ h9 => h9) rfl dX9_closeTurn_7 ?_
    refine lv_iconst (v := 1) hx hb dX9_closeTurn_10 (by decide) ?_
    refine lv_iadd hx hb dX9_closeTurn_11 ?_
    refine lv_topi (fun z_196 ez_196 => ?_)
    refine va_put (D := (dC, dI)) (ci := 7) (v := .int (z_196)) (ty := .int) (C := RX7) (T := TX7) (N := 15) hx hb hg gb_7 tyX7 tyX7_ok nmX7 hown hK hP hD hS (50 + 16 * i) (hQ.b0 hi) rfl 6 (by decide) (hg _ gm_fieldLink_RX9_174_ErrandGuild_Run_place_I_) (fun _ h9 => h9) rfl (by decide +kernel) rfl rfl (Nat.le_of_ble_eq_true rfl) dX9_closeTurn_12 (fun H locs hP hD hS => ?_)
    obtain ⟨ws_198, G_197, eG_197, hP, hD, hQ⟩ : ∃ (ws_198 : va_W) (G_197 : Nat → Nat → Int32), G_197 = u2 G i 6 z_196 ∧ va_P (dC, dI) vwCl ws_198 H ∧ va_D A ws_198 ∧ Pic9 kc ws_198 ad ga gc M n f T G_197 K F := ⟨_, _, rfl, hP, hD, hQ.run hi 6 (by decide) z_196⟩
    have i6_199 : i6 n T G_197 := by rw [eG_197]; exact (i6.pG h_i6 i _ (by decide))
    have i7_200 : i7 n G_197 := by rw [eG_197]; exact (i7.pG h_i7 i _ (by decide))
    have i8_201 : i8 M n gc G_197 := by rw [eG_197]; exact (i8.pG h_i8 i _ (by decide))
    have i9_202 : i9 M gc G_197 R := by rw [eG_197]; exact (i9.pG h_i9 i _ (by decide))
    have eg_203 : G_197 i 6 = z_196 := by rw [eG_197, u2_eq]
    refine lv_goto (tgt := 30) hx hb dX9_closeTurn_15 (by decide) ?_
    refine lv_aload_n hx hb dX9_closeTurn_30 rfl (lv_at hl 1 rfl) ?_
    refine va_get (D := (dC, dI)) (ci := 7) (v := .int (G_197 i 2)) (C := RX7) (T := TX7) (N := 15) hx hb hg gb_7 hown hK hP (50 + 16 * i) (hQ.b0 hi) rfl 2 (by decide) (hg _ gm_fieldLink_RX9_145_ErrandGuild_Run_state_I_) (fun _ h9 => h9) rfl dX9_closeTurn_31 ?_
    refine lv_iconst (v := 1) hx hb dX9_closeTurn_34 (by decide) ?_
    refine lv_icmp_eq (tgt := 43) hx hb dX9_closeTurn_35 (by decide) (fun c_204 => ?_) (fun c_204 => ?_)
    · simp only [i_lt, i_le, i_eq, ti_1] at c_204
      refine lv_aload_n hx hb dX9_closeTurn_43 rfl (lv_at hl 1 rfl) ?_
      have hCc : ([(50 + 16 * i)] : List Nat).map (fun i => ws_198[i]?) = ([(ad (50 + 16 * i), .inr (7, [.int (G_197 i 0), .int (G_197 i 1), .int (G_197 i 2), .int (G_197 i 3), .int (G_197 i 4), .int (G_197 i 5), .int (G_197 i 6), .int (G_197 i 7), .int (G_197 i 8), .int (G_197 i 9), .ref (ad (50 + 16 * i + 1)), .ref (ad (50 + 16 * i + 2)), .ref (ad (50 + 16 * i + 6)), .ref (ad (50 + 16 * i + 13)), .ref (ad (50 + 16 * i + 14))]))] : va_W).map some := mp1 (hQ.b0 hi)
      have hNd : ([(50 + 16 * i)] : List Nat).Nodup := (nd_off (50 + 16 * i) (l := [0]) (by decide))
      have hPc := hP.pick [(50 + 16 * i)] hCc
      have hDc := hD.pick [(50 + 16 * i)] hNd hCc
      have hKc := hK.sub (tys' := []) [] rfl
      have hFc := va_free (wc := [(ad (50 + 16 * i), .inr (7, [.int (G_197 i 0), .int (G_197 i 1), .int (G_197 i 2), .int (G_197 i 3), .int (G_197 i 4), .int (G_197 i 5), .int (G_197 i 6), .int (G_197 i 7), .int (G_197 i 8), .int (G_197 i 9), .ref (ad (50 + 16 * i + 1)), .ref (ad (50 + 16 * i + 2)), .ref (ad (50 + 16 * i + 6)), .ref (ad (50 + 16 * i + 13)), .ref (ad (50 + 16 * i + 14))]))]) hD hS hA [(50 + 16 * i)] hCc
      refine W_msr2 (fun hm1 hm2 hm3 => ?_)
      refine va_calli (va_runV (As := []) (rest := []) ⟨hx, hb, hml, hown, hg⟩ (c_X7_isOver l dC dI (ad (50 + 16 * i)) (ad (50 + 16 * i + 1)) (ad (50 + 16 * i + 2)) (ad (50 + 16 * i + 6)) (ad (50 + 16 * i + 13)) (ad (50 + 16 * i + 14)) (G_197 i 0) (G_197 i 1) (G_197 i 2) (G_197 i 3) (G_197 i 4) (G_197 i 5) (G_197 i 6) (G_197 i 7) (G_197 i 8) (G_197 i 9) H.size ) (cwV 0 hg (gw_V gm_methodLink_RX9_138_yX7_isOver gm_instanceMethod_yX7_isOver gm_selects_RX7_yX7_isOver_yX7_isOver gm_initialized_RX7 gm_code_yX7_isOver_cX7_isOver_1_some_boolean_) rfl rfl rfl (by decide +kernel) ⟨Nat.le_of_ble_eq_true rfl, Nat.le_of_ble_eq_true rfl⟩) ⟨fun a U g mk q => by obtain ⟨q0, q1, qP, qK, qD, qN⟩ := q; exact ⟨q0, q1, qP, va_K.moved (u := U) (U := U.calling g mk a) (Vm.Alike.refl U.vm) qK, qD, nx_same (u := U) (U := U.calling g mk a) rfl qN⟩, va_recv hK hP (ci := 7) (q0 := (50 + 16 * i)) rfl (hQ.b0 hi), fun U hU hW => ⟨rfl, by rw [hU], by rw [hU]; exact hPc, va_K.moved hW.alike hKc, hDc.weaken (fun _ _ _ _ => trivial), nx_warm hW hN⟩⟩ rfl rfl hl.1 rfl (lv_room (Nat.le_of_ble_eq_true rfl)) dX9_closeTurn_44 ⟨by show ce + 0 ≤ 2400; omega, by show se + 0 ≤ 84000; omega⟩) hS (fun q _ h => hFc q h) hFc (fun r_205 u_206 t H1 locs ht hvm hw hB hz1 hk1 hS => ?_)
      obtain ⟨hP1, hD1⟩ := hB
      rw [ht] at hP1
      obtain ⟨hP, hD⟩ := va_replS hP hD [(50 + 16 * i)] hCc hNd hk1 hFc hP1 hD1
      refine W.widen (k := ce) (n := se) (Nat.le_refl _) (Nat.le_refl _) ?_
      generalize H1 = H at hP hS ⊢
      rcases hw with ⟨rfl, w_207⟩ | ⟨rfl, w_207⟩
      · refine lv_if_eq (tgt := 55) hx hb dX9_closeTurn_47 (by decide) (fun c_208 => absurd c_208 (by decide)) (fun _ => ?_)
        refine lv_aload_n hx hb dX9_closeTurn_50 rfl (lv_at hl 0 rfl) ?_
        refine lv_aload_n hx hb dX9_closeTurn_51 rfl (lv_at hl 1 rfl) ?_
        have hFc := free_all hD hS hA
        refine W_msr2 (fun hm1 hm2 hm3 => ?_)
        refine va_callv (va_runV (As := [.ref (ad (50 + 16 * i))]) (rest := []) ⟨hx, hb, hml, hown, hg⟩ (c_X9_tellUncaught l dC dI kc ws_198 ad ga gc M n f T G_197 K F R i H.size (hpS H) hQ ⟨h_i1, h_i2, h_i3, h_i4, h_i5, i6_199, i7_200, i8_201, i9_202⟩ (by show i < M; omega) (by show R ≤ 310000; omega)) (cwV 1 hg (gw_V gm_methodLink_RX9_319_yX9_tellUncaught gm_instanceMethod_yX9_tellUncaught gm_selects_RX9_yX9_tellUncaught_yX9_tellUncaught gm_initialized_RX9 gm_code_yX9_tellUncaught_cX9_tellUncaught_5_none) rfl rfl rfl (by decide +kernel) ⟨Nat.le_of_ble_eq_true rfl, Nat.le_of_ble_eq_true rfl⟩) ⟨fun a U g mk q => by obtain ⟨q0, q1, q2, qP, qK, qD, qN⟩ := q; exact ⟨q0, q1, q2, qP, va_K.moved (u := U) (U := U.calling g mk a) (Vm.Alike.refl U.vm) qK, qD, nx_same (u := U) (U := U.calling g mk a) rfl qN⟩, va_recv hK hP (ci := 9) (q0 := 0) rfl hQ.x0, fun U hU hW => ⟨rfl, by rw [hU], by rw [hU], by rw [hU]; exact hP, va_K.moved hW.alike hK, hD.weaken (fun _ _ _ _ => trivial), nx_warm hW hN⟩⟩ rfl rfl hl.1 rfl (lv_room (Nat.le_of_ble_eq_true rfl)) dX9_closeTurn_52 ⟨by show ce + 1800 ≤ 2400; omega, by show se + 67000 ≤ 84000; omega⟩) hS (fun q _ h => hFc q h) hFc (fun u_210 t H1 locs ht hvm hw hB hz1 hk1 hS => ?_)
        obtain ⟨ad_211, ga_212, gc_213, M_214, n_215, f_216, T_217, G_218, K_219, F_220⟩ := u_210
        have hB : ∃ w : va_W, va_P (dC, dI) vwCl w t.heap ∧ va_D (va_A ws_198 H.size) w ∧ Pic9 kc w ad ga_212 gc_213 M n_215 f_216 T G_218 K F ∧ I9 M n_215 T gc_213 G_218 K R ∧ hpS t.heap + (260 * M + 2 * S9 M gc) ≤ hpS H + (260 * M + 2 * S9 M gc_213) ∧ 16 * t.heap.size + (256 * M + S9 M gc) ≤ 16 * H.size + (256 * M + S9 M gc_213) ∧ (n 0).toInt ≤ (n_215 0).toInt := hB
        rw [ht] at hB
        obtain ⟨ws_221, hP, hD, hQ, hI_223, hy1, hy2, hn_222⟩ := hB
        have hD := hD.weaken (fun k q _ h => hFc _ h)
        obtain ⟨i1_224, i2_225, i3_226, i4_227, i5_228, i6_229, i7_230, i8_231, i9_232⟩ := id hI_223
        have q1_ := i1_224
        unfold i1 at q1_
        have hSl := S9_le i8_231 i9_232
        have hb0_ := i8_231.2.1 0 (by omega)
        have hb1_ := i8_231.2.1 1 (by omega)
        have hb2_ := i8_231.2.1 2 (by omega)
        refine W_msr2 (fun hn1 hn2 hn3 => ?_)
        obtain ⟨ce2, se2, hk3, hk4, hr1, hr2⟩ : ∃ c2 s2 : Nat, H1.size ≤ s.heap.size + c2 ∧ hpS H1 ≤ hpS s.heap + s2 ∧ s2 + (260 * M + 2 * S9 M gc) ≤ (260 * M + 2 * S9 M gc_213) ∧ 16 * c2 + (256 * M + S9 M gc) ≤ (256 * M + S9 M gc_213) := ⟨H1.size - s.heap.size, hpS H1 - hpS s.heap, by omega, by omega, by have := hS.1; omega, by have := hS.1; omega⟩
        refine W_tightP hk3 hk4 ?_
        clear hm1 hm2 hm3 hn1 hn2 hn3 hk3 hk4
        clear hk1 hz1
        generalize ce2 = ce, se2 = se at hr1 hr2 ⊢
        generalize H1 = H at hP hS ⊢
        have w_233 : S9 M gc_213 + gc 1 ≤ S9 M gc + gc_213 1 ∧ (n_215 0).toInt = (n 0).toInt := hw
        refine W_msr2 (fun hm1 hm2 hm3 => ?_)
        have hSl := S9_le i8_231 i9_232
        have hb0_ := i8_231.2.1 0 (by omega)
        have hb1_ := i8_231.2.1 1 (by omega)
        have hb2_ := i8_231.2.1 2 (by omega)
        refine W.widen (k := 2400) (n := 84000) (by omega) (by omega) ?_
        exact W.vret hx hb hr (fun t ht hW => ⟨⟨(ad, ga_212, gc_213, M, n_215, f_216, T, G_218, K, F), rfl, ⟨by show S9 M gc_213 + gc 1 ≤ S9 M gc + gc_213 1; omega, by show (n_215 0).toInt = (n 0).toInt; omega, (fun _ => Or.inl rfl)⟩, ws_221, by rw [ht]; exact hP, hD, hQ, ⟨i1_224, i2_225, i3_226, i4_227, i5_228, i6_229, i7_230, i8_231, i9_232⟩, by rw [ht]; show hpS H + (260 * M + 2 * S9 M gc) ≤ hpS s.heap + (260 * M + 2 * S9 M gc_213); omega, by rw [ht]; show 16 * H.size + (256 * M + S9 M gc) ≤ 16 * s.heap.size + (256 * M + S9 M gc_213); omega, by show (n 0).toInt ≤ (n_215 0).toInt; omega⟩, hS.F ht⟩) hS.2.2 dX9_closeTurn_55
      · refine lv_if_eq (tgt := 55) hx hb dX9_closeTurn_47 (by decide) (fun _ => ?_) (fun c_234 => absurd c_234 (by decide))
        refine W_msr2 (fun hm1 hm2 hm3 => ?_)
        have hSl := S9_le i8_201 i9_202
        have hb0_ := i8_201.2.1 0 (by omega)
        have hb1_ := i8_201.2.1 1 (by omega)
        have hb2_ := i8_201.2.1 2 (by omega)
        refine W.widen (k := 2400) (n := 84000) (by omega) (by omega) ?_
        exact W.vret hx hb hr (fun t ht hW => ⟨⟨(ad, ga, gc, M, n, f, T, G_197, K, F), rfl, ⟨by show S9 M gc + gc 1 ≤ S9 M gc + gc 1; omega, by show (n 0).toInt = (n 0).toInt; omega, (fun _ => Or.inl rfl)⟩, ws_198, by rw [ht]; exact hP, hD, hQ, ⟨h_i1, h_i2, h_i3, h_i4, h_i5, i6_199, i7_200, i8_201, i9_202⟩, by rw [ht]; show hpS H + (260 * M + 2 * S9 M gc) ≤ hpS s.heap + (260 * M + 2 * S9 M gc); omega, by rw [ht]; show 16 * H.size + (256 * M + S9 M gc) ≤ 16 * s.heap.size + (256 * M + S9 M gc); omega, by show (n 0).toInt ≤ (n 0).toInt; omega⟩, hS.F ht⟩) hS.2.2 dX9_closeTurn_55
    · simp only [i_lt, i_le, i_eq, ti_1] at c_204
      refine lv_aload_n hx hb dX9_closeTurn_38 rfl (lv_at hl 0 rfl) ?_
      refine lv_aload_n hx hb dX9_closeTurn_39 rfl (lv_at hl 1 rfl) ?_
      have hFc := free_all hD hS hA
      refine W_msr2 (fun hm1 hm2 hm3 => ?_)
      refine va_callv (va_runV (As := [.ref (ad (50 + 16 * i))]) (rest := []) ⟨hx, hb, hml, hown, hg⟩ (c_X9_leaveThread l dC dI kc ws_198 ad ga gc M n f T G_197 K F R i H.size (hpS H) hQ ⟨h_i1, h_i2, h_i3, h_i4, h_i5, i6_199, i7_200, i8_201, i9_202⟩ (by show i < M; omega) (by show (i : Int) < (n 0).toInt; omega) (by show (G_197 i 2).toInt ≠ 1; omega)) (cwV 1 hg (gw_V gm_methodLink_RX9_316_yX9_leaveThread gm_instanceMethod_yX9_leaveThread gm_selects_RX9_yX9_leaveThread_yX9_leaveThread gm_initialized_RX9 gm_code_yX9_leaveThread_cX9_leaveThread_3_none) rfl rfl rfl (by decide +kernel) ⟨Nat.le_of_ble_eq_true rfl, Nat.le_of_ble_eq_true rfl⟩) ⟨fun a U g mk q => by obtain ⟨q0, q1, q2, qP, qK, qD, qN⟩ := q; exact ⟨q0, q1, q2, qP, va_K.moved (u := U) (U := U.calling g mk a) (Vm.Alike.refl U.vm) qK, qD, nx_same (u := U) (U := U.calling g mk a) rfl qN⟩, va_recv hK hP (ci := 9) (q0 := 0) rfl hQ.x0, fun U hU hW => ⟨rfl, by rw [hU], by rw [hU], by rw [hU]; exact hP, va_K.moved hW.alike hK, hD.weaken (fun _ _ _ _ => trivial), nx_warm hW hN⟩⟩ rfl rfl hl.1 rfl (lv_room (Nat.le_of_ble_eq_true rfl)) dX9_closeTurn_40 ⟨by show ce + 0 ≤ 2400; omega, by show se + 0 ≤ 84000; omega⟩) hS (fun q _ h => hFc q h) hFc (fun u_236 t H1 locs ht hvm hw hB hz1 hk1 hS => ?_)
      obtain ⟨ad_237, ga_238, gc_239, M_240, n_241, f_242, T_243, G_244, K_245, F_246⟩ := u_236
      have hB : ∃ w : va_W, va_P (dC, dI) vwCl w t.heap ∧ va_D (va_A ws_198 H.size) w ∧ Pic9 kc w ad ga gc M n f T_243 G_244 K F_246 ∧ I9 M n T_243 gc G_244 K R ∧ hpS t.heap + (260 * M + 2 * S9 M gc) ≤ hpS H + (260 * M + 2 * S9 M gc) ∧ 16 * t.heap.size + (256 * M + S9 M gc) ≤ 16 * H.size + (256 * M + S9 M gc) := hB
      rw [ht] at hB
      obtain ⟨ws_247, hP, hD, hQ, hI_248, hy1, hy2⟩ := hB
      have hD := hD.weaken (fun k q _ h => hFc _ h)
      obtain ⟨i1_249, i2_250, i3_251, i4_252, i5_253, i6_254, i7_255, i8_256, i9_257⟩ := id hI_248
      have q1_ := i1_249
      unfold i1 at q1_
      have hSl := S9_le i8_256 i9_257
      have hb0_ := i8_256.2.1 0 (by omega)
      have hb1_ := i8_256.2.1 1 (by omega)
      have hb2_ := i8_256.2.1 2 (by omega)
      refine W_msr2 (fun hn1 hn2 hn3 => ?_)
      obtain ⟨ce2, se2, hk3, hk4, hr1, hr2⟩ : ∃ c2 s2 : Nat, H1.size ≤ s.heap.size + c2 ∧ hpS H1 ≤ hpS s.heap + s2 ∧ s2 + (260 * M + 2 * S9 M gc) ≤ (260 * M + 2 * S9 M gc) ∧ 16 * c2 + (256 * M + S9 M gc) ≤ (256 * M + S9 M gc) := ⟨H1.size - s.heap.size, hpS H1 - hpS s.heap, by omega, by omega, by have := hS.1; omega, by have := hS.1; omega⟩
      refine W_tightP hk3 hk4 ?_
      clear hm1 hm2 hm3 hn1 hn2 hn3 hk3 hk4
      clear hk1 hz1
      generalize ce2 = ce, se2 = se at hr1 hr2 ⊢
      generalize H1 = H at hP hS ⊢
      have w_258 : (∀ t : Nat, T_243 t = T t ∨ T_243 t = none) := hw
      refine lv_aload_n hx hb dX9_closeTurn_43 rfl (lv_at hl 1 rfl) ?_
      have hCc : ([(50 + 16 * i)] : List Nat).map (fun i => ws_247[i]?) = ([(ad (50 + 16 * i), .inr (7, [.int (G_244 i 0), .int (G_244 i 1), .int (G_244 i 2), .int (G_244 i 3), .int (G_244 i 4), .int (G_244 i 5), .int (G_244 i 6), .int (G_244 i 7), .int (G_244 i 8), .int (G_244 i 9), .ref (ad (50 + 16 * i + 1)), .ref (ad (50 + 16 * i + 2)), .ref (ad (50 + 16 * i + 6)), .ref (ad (50 + 16 * i + 13)), .ref (ad (50 + 16 * i + 14))]))] : va_W).map some := mp1 (hQ.b0 hi)
      have hNd : ([(50 + 16 * i)] : List Nat).Nodup := (nd_off (50 + 16 * i) (l := [0]) (by decide))
      have hPc := hP.pick [(50 + 16 * i)] hCc
      have hDc := hD.pick [(50 + 16 * i)] hNd hCc
      have hKc := hK.sub (tys' := []) [] rfl
      have hFc := va_free (wc := [(ad (50 + 16 * i), .inr (7, [.int (G_244 i 0), .int (G_244 i 1), .int (G_244 i 2), .int (G_244 i 3), .int (G_244 i 4), .int (G_244 i 5), .int (G_244 i 6), .int (G_244 i 7), .int (G_244 i 8), .int (G_244 i 9), .ref (ad (50 + 16 * i + 1)), .ref (ad (50 + 16 * i + 2)), .ref (ad (50 + 16 * i + 6)), .ref (ad (50 + 16 * i + 13)), .ref (ad (50 + 16 * i + 14))]))]) hD hS hA [(50 + 16 * i)] hCc
      refine W_msr2 (fun hm1 hm2 hm3 => ?_)
      refine va_calli (va_runV (As := []) (rest := []) ⟨hx, hb, hml, hown, hg⟩ (c_X7_isOver l dC dI (ad (50 + 16 * i)) (ad (50 + 16 * i + 1)) (ad (50 + 16 * i + 2)) (ad (50 + 16 * i + 6)) (ad (50 + 16 * i + 13)) (ad (50 + 16 * i + 14)) (G_244 i 0) (G_244 i 1) (G_244 i 2) (G_244 i 3) (G_244 i 4) (G_244 i 5) (G_244 i 6) (G_244 i 7) (G_244 i 8) (G_244 i 9) H.size ) (cwV 0 hg (gw_V gm_methodLink_RX9_138_yX7_isOver gm_instanceMethod_yX7_isOver gm_selects_RX7_yX7_isOver_yX7_isOver gm_initialized_RX7 gm_code_yX7_isOver_cX7_isOver_1_some_boolean_) rfl rfl rfl (by decide +kernel) ⟨Nat.le_of_ble_eq_true rfl, Nat.le_of_ble_eq_true rfl⟩) ⟨fun a U g mk q => by obtain ⟨q0, q1, qP, qK, qD, qN⟩ := q; exact ⟨q0, q1, qP, va_K.moved (u := U) (U := U.calling g mk a) (Vm.Alike.refl U.vm) qK, qD, nx_same (u := U) (U := U.calling g mk a) rfl qN⟩, va_recv hK hP (ci := 7) (q0 := (50 + 16 * i)) rfl (hQ.b0 hi), fun U hU hW => ⟨rfl, by rw [hU], by rw [hU]; exact hPc, va_K.moved hW.alike hKc, hDc.weaken (fun _ _ _ _ => trivial), nx_warm hW hN⟩⟩ rfl rfl hl.1 rfl (lv_room (Nat.le_of_ble_eq_true rfl)) dX9_closeTurn_44 ⟨by show ce + 0 ≤ 2400; omega, by show se + 0 ≤ 84000; omega⟩) hS (fun q _ h => hFc q h) hFc (fun r_259 u_260 t H1 locs ht hvm hw hB hz1 hk1 hS => ?_)
      obtain ⟨hP1, hD1⟩ := hB
      rw [ht] at hP1
      obtain ⟨hP, hD⟩ := va_replS hP hD [(50 + 16 * i)] hCc hNd hk1 hFc hP1 hD1
      refine W.widen (k := ce) (n := se) (Nat.le_refl _) (Nat.le_refl _) ?_
      generalize H1 = H at hP hS ⊢
      rcases hw with ⟨rfl, w_261⟩ | ⟨rfl, w_261⟩
      · refine lv_if_eq (tgt := 55) hx hb dX9_closeTurn_47 (by decide) (fun c_262 => absurd c_262 (by decide)) (fun _ => ?_)
        refine lv_aload_n hx hb dX9_closeTurn_50 rfl (lv_at hl 0 rfl) ?_
        refine lv_aload_n hx hb dX9_closeTurn_51 rfl (lv_at hl 1 rfl) ?_
        have hFc := free_all hD hS hA
        refine W_msr2 (fun hm1 hm2 hm3 => ?_)
        refine va_callv (va_runV (As := [.ref (ad (50 + 16 * i))]) (rest := []) ⟨hx, hb, hml, hown, hg⟩ (c_X9_tellUncaught l dC dI kc ws_247 ad ga gc M n f T_243 G_244 K F_246 R i H.size (hpS H) hQ ⟨i1_249, i2_250, i3_251, i4_252, i5_253, i6_254, i7_255, i8_256, i9_257⟩ (by show i < M; omega) (by show R ≤ 310000; omega)) (cwV 1 hg (gw_V gm_methodLink_RX9_319_yX9_tellUncaught gm_instanceMethod_yX9_tellUncaught gm_selects_RX9_yX9_tellUncaught_yX9_tellUncaught gm_initialized_RX9 gm_code_yX9_tellUncaught_cX9_tellUncaught_5_none) rfl rfl rfl (by decide +kernel) ⟨Nat.le_of_ble_eq_true rfl, Nat.le_of_ble_eq_true rfl⟩) ⟨fun a U g mk q => by obtain ⟨q0, q1, q2, qP, qK, qD, qN⟩ := q; exact ⟨q0, q1, q2, qP, va_K.moved (u := U) (U := U.calling g mk a) (Vm.Alike.refl U.vm) qK, qD, nx_same (u := U) (U := U.calling g mk a) rfl qN⟩, va_recv hK hP (ci := 9) (q0 := 0) rfl hQ.x0, fun U hU hW => ⟨rfl, by rw [hU], by rw [hU], by rw [hU]; exact hP, va_K.moved hW.alike hK, hD.weaken (fun _ _ _ _ => trivial), nx_warm hW hN⟩⟩ rfl rfl hl.1 rfl (lv_room (Nat.le_of_ble_eq_true rfl)) dX9_closeTurn_52 ⟨by show ce + 1800 ≤ 2400; omega, by show se + 67000 ≤ 84000; omega⟩) hS (fun q _ h => hFc q h) hFc (fun u_264 t H1 locs ht hvm hw hB hz1 hk1 hS => ?_)
        obtain ⟨ad_265, ga_266, gc_267, M_268, n_269, f_270, T_271, G_272, K_273, F_274⟩ := u_264
        have hB : ∃ w : va_W, va_P (dC, dI) vwCl w t.heap ∧ va_D (va_A ws_247 H.size) w ∧ Pic9 kc w ad ga_266 gc_267 M n_269 f_270 T_243 G_272 K F_246 ∧ I9 M n_269 T_243 gc_267 G_272 K R ∧ hpS t.heap + (260 * M + 2 * S9 M gc) ≤ hpS H + (260 * M + 2 * S9 M gc_267) ∧ 16 * t.heap.size + (256 * M + S9 M gc) ≤ 16 * H.size + (256 * M + S9 M gc_267) ∧ (n 0).toInt ≤ (n_269 0).toInt := hB
        rw [ht] at hB
        obtain ⟨ws_275, hP, hD, hQ, hI_277, hy1, hy2, hn_276⟩ := hB
        have hD := hD.weaken (fun k q _ h => hFc _ h)
        obtain ⟨i1_278, i2_279, i3_280, i4_281, i5_282, i6_283, i7_284, i8_285, i9_286⟩ := id hI_277
        have q1_ := i1_278
        unfold i1 at q1_
        have hSl := S9_le i8_285 i9_286
        have hb0_ := i8_285.2.1 0 (by omega)
        have hb1_ := i8_285.2.1 1 (by omega)
        have hb2_ := i8_285.2.1 2 (by omega)
        refine W_msr2 (fun hn1 hn2 hn3 => ?_)
        obtain ⟨ce2, se2, hk3, hk4, hr1, hr2⟩ : ∃ c2 s2 : Nat, H1.size ≤ s.heap.size + c2 ∧ hpS H1 ≤ hpS s.heap + s2 ∧ s2 + (260 * M + 2 * S9 M gc) ≤ (260 * M + 2 * S9 M gc_267) ∧ 16 * c2 + (256 * M + S9 M gc) ≤ (256 * M + S9 M gc_267) := ⟨H1.size - s.heap.size, hpS H1 - hpS s.heap, by omega, by omega, by have := hS.1; omega, by have := hS.1; omega⟩
        refine W_tightP hk3 hk4 ?_
        clear hm1 hm2 hm3 hn1 hn2 hn3 hk3 hk4
        clear hk1 hz1
        generalize ce2 = ce, se2 = se at hr1 hr2 ⊢
        generalize H1 = H at hP hS ⊢
        have w_287 : S9 M gc_267 + gc 1 ≤ S9 M gc + gc_267 1 ∧ (n_269 0).toInt = (n 0).toInt := hw
        refine W_msr2 (fun hm1 hm2 hm3 => ?_)
        have hSl := S9_le i8_285 i9_286
        have hb0_ := i8_285.2.1 0 (by omega)
        have hb1_ := i8_285.2.1 1 (by omega)
        have hb2_ := i8_285.2.1 2 (by omega)
        refine W.widen (k := 2400) (n := 84000) (by omega) (by omega) ?_
        exact W.vret hx hb hr (fun t ht hW => ⟨⟨(ad, ga_266, gc_267, M, n_269, f_270, T_243, G_272, K, F_246), rfl, ⟨by show S9 M gc_267 + gc 1 ≤ S9 M gc + gc_267 1; omega, by show (n_269 0).toInt = (n 0).toInt; omega, w_258⟩, ws_275, by rw [ht]; exact hP, hD, hQ, ⟨i1_278, i2_279, i3_280, i4_281, i5_282, i6_283, i7_284, i8_285, i9_286⟩, by rw [ht]; show hpS H + (260 * M + 2 * S9 M gc) ≤ hpS s.heap + (260 * M + 2 * S9 M gc_267); omega, by rw [ht]; show 16 * H.size + (256 * M + S9 M gc) ≤ 16 * s.heap.size + (256 * M + S9 M gc_267); omega, by show (n 0).toInt ≤ (n_269 0).toInt; omega⟩, hS.F ht⟩) hS.2.2 dX9_closeTurn_55
      · refine lv_if_eq (tgt := 55) hx hb dX9_closeTurn_47 (by decide) (fun _ => ?_) (fun c_288 => absurd c_288 (by decide))
        refine W_msr2 (fun hm1 hm2 hm3 => ?_)
        have hSl := S9_le i8_256 i9_257
        have hb0_ := i8_256.2.1 0 (by omega)
        have hb1_ := i8_256.2.1 1 (by omega)
        have hb2_ := i8_256.2.1 2 (by omega)
        refine W.widen (k := 2400) (n := 84000) (by omega) (by omega) ?_
        exact W.vret hx hb hr (fun t ht hW => ⟨⟨(ad, ga, gc, M, n, f, T_243, G_244, K, F_246), rfl, ⟨by show S9 M gc + gc 1 ≤ S9 M gc + gc 1; omega, by show (n 0).toInt = (n 0).toInt; omega, w_258⟩, ws_247, by rw [ht]; exact hP, hD, hQ, ⟨i1_249, i2_250, i3_251, i4_252, i5_253, i6_254, i7_255, i8_256, i9_257⟩, by rw [ht]; show hpS H + (260 * M + 2 * S9 M gc) ≤ hpS s.heap + (260 * M + 2 * S9 M gc); omega, by rw [ht]; show 16 * H.size + (256 * M + S9 M gc) ≤ 16 * s.heap.size + (256 * M + S9 M gc); omega, by show (n 0).toInt ≤ (n 0).toInt; omega⟩, hS.F ht⟩) hS.2.2 dX9_closeTurn_55

set_option maxHeartbeats 8000000 in
set_option maxRecDepth 100000 in
theorem c_X4_adopt (l : Launch) (dC : Nat → ClassId) (dI : Nat → Nat → Nat) (kc : Nat → ClassId) (ws : va_W) (ad : Nat → Nat) (ga : Nat → Nat) (gc : Nat → Nat) (M : Nat) (n : Nat → Int32) (f : Nat → Nat → Int32) (T : Nat → Option Nat) (G : Nat → Nat → Int32) (K : Nat → Nat → Option Nat) (F : Nat → Nat → Nat → Int32) (R : Nat) (k : Nat) (cc : Nat) (sz hz : Nat) (hQ : Pic9 kc ws ad ga gc M n f T G K F) (hI : I9 M n T gc G K R) (hk : k < M) (hc : cc < M) (hcn : (cc : Int) < (n 0).toInt) (hkc : ∀ j : Nat, K k 3 = some j → j < cc) : Met l yX4_adopt (.code yX4_adopt cX4_adopt 2 none :: gw) ({ frames := 0, cells := 0, slots := 0, locals := 0 }) (va_Pc [.ref (ad (50 + 16 * k + 1)), .ref (ad (50 + 16 * cc))] (fun U => U.heap.size = sz ∧ hpS U.heap = hz ∧ va_P (dC, dI) vwCl ws U.heap ∧ va_K (dC, dI) vwCl (t9 kc) U ∧ va_D (fun _ => True) ws ∧ nx U)) (va_Qv (fun (u : (Nat → Nat) × (Nat → Nat) × (Nat → Nat) × Nat × (Nat → Int32) × (Nat → Nat → Int32) × (Nat → Option Nat) × (Nat → Nat → Int32) × (Nat → Nat → Option Nat) × (Nat → Nat → Nat → Int32)) => True) (fun u t => ∃ w : va_W, va_P (dC, dI) vwCl w t.heap ∧ va_D (va_A ws sz) w ∧ Pic9 kc w ad ga gc M n f T u.2.2.2.2.2.2.2.1 u.2.2.2.2.2.2.2.2.1 F ∧ I9 M n T gc u.2.2.2.2.2.2.2.1 u.2.2.2.2.2.2.2.2.1 R ∧ hpS t.heap + (260 * M + 2 * S9 M gc) ≤ hz + (260 * M + 2 * S9 M gc) ∧ 16 * t.heap.size + (256 * M + S9 M gc) ≤ 16 * sz + (256 * M + S9 M gc)) (va_A ws sz)) 0 0 (va_A ws sz) := by
  refine Met.ofW (cc := cX4_adopt) (maxL := 2) (ret := none) (by decide) rfl ?_
  intro p e s m args below meth c s₁ B hml hv
  obtain ⟨rfl, hsz, rfl, hP, hK, hD0, hN⟩ := hv
  have hx := B.exec
  have hb := B.bytes
  have hr := B.returns
  have hts := atoms_spec (ws := .code yX4_adopt cX4_adopt 2 none :: gw) B.pre
  have hg : ∀ w ∈ gw, w.before _ s = true := fun w h => hts w (List.mem_cons_of_mem _ h)
  have hown : s.vm.findClass RX4 = some m.cls := findClass_of_methodNamed B.named
  have hlocks := B.notSynchronized
  subst hsz
  have hD := hD0.self (sz := s.heap.size)
  generalize hAe : va_A ws s.heap.size = A at hD ⊢
  have hA : ∀ q : Nat, s.heap.size ≤ q → A q := fun q h => by rw [← hAe]; exact Or.inr h
  clear hAe
  have hS : va_S A s.heap s.heap [] := va_S.rf
  have hl := lv_entry ([.ref (ad (50 + 16 * k + 1)), .ref (ad (50 + 16 * cc))]) (n := 2) (Nat.le_of_ble_eq_true rfl)
  rw [lg_entry_eq]
  generalize (lg_sl ([.ref (ad (50 + 16 * k + 1)), .ref (ad (50 + 16 * cc))]) ++ List.replicate (2 - (lg_sl ([.ref (ad (50 + 16 * k + 1)), .ref (ad (50 + 16 * cc))])).length) Slot.unset).toArray = ls at hl ⊢
  have hl : lv_has ls 2 [(0, .ref (ad (50 + 16 * k + 1))), (1, .ref (ad (50 + 16 * cc)))] := hl
  obtain ⟨h_i1, h_i2, h_i3, h_i4, h_i5, h_i6, h_i7, h_i8, h_i9⟩ := id hI
  have q1_ := h_i1
  unfold i1 at q1_
  refine lv_aload_n hx hb dX4_adopt_0 rfl (lv_at hl 0 rfl) ?_
  refine va_get (D := (dC, dI)) (ci := 4) (v := va_rf (rA9 ad (K k 3))) (C := RX4) (T := TX4) (N := 9) hx hb hg gb_4 hown hK hP (50 + 16 * k + 1) (hQ.b1 hk) rfl 6 (by decide) (hg _ gm_fieldLink_RX4_43_ErrandGuild_Kin_lastChild_LErrandGuild_Run_) (fun _ h9 => h9) rfl dX4_adopt_1 ?_
  rcases eo_1 : K k 3 with _ | j_2
  · refine W.eq (g2 := F0 m 4 ls [.null]) (by first | rfl | (rw [eo_1]; rfl)) ?_
    refine lv_ifnonnullN hx hb dX4_adopt_4 ?_
    refine lv_aload_n hx hb dX4_adopt_7 rfl (lv_at hl 0 rfl) ?_
    refine lv_aload_n hx hb dX4_adopt_8 rfl (lv_at hl 1 rfl) ?_
    refine va_put (D := (dC, dI)) (ci := 4) (v := .ref (ad (50 + 16 * cc))) (ty := .object "ErrandGuild$Run") (C := RX4) (T := TX4) (N := 9) hx hb hg gb_4 tyX4 tyX4_ok nmX4 hown hK hP hD hS (50 + 16 * k + 1) (hQ.b1 hk) rfl 5 (by decide) (hg _ gm_fieldLink_RX4_40_ErrandGuild_Kin_firstChild_LErrandGuild_Run_) (fun _ h9 => h9) rfl (by decide +kernel) rfl rfl (Nat.le_of_ble_eq_true rfl) dX4_adopt_9 (fun H locs hP hD hS => ?_)
    obtain ⟨ws_4, K_3, eK_3, hP, hD, hQ⟩ : ∃ (ws_4 : va_W) (K_3 : Nat → Nat → Option Nat), K_3 = u2 K k 2 (some cc) ∧ va_P (dC, dI) vwCl ws_4 H ∧ va_D A ws_4 ∧ Pic9 kc ws_4 ad ga gc M n f T G K_3 F := ⟨_, _, rfl, hP, hD, hQ.kinR hk 2 5 (by decide) (some cc)⟩
    have i3_5 : i3 M K_3 := by rw [eK_3]; exact i3.pK h_i3 k 2 (fun _ h => by cases h; exact hc)
    have i4_6 : i4 M K_3 := by rw [eK_3]; exact i4.pK h_i4 k _ (by decide)
    have i5_7 : i5 n K_3 := by rw [eK_3]; exact i5.pK h_i5 k _ (by decide)
    refine lv_goto (tgt := 26) hx hb dX4_adopt_12 (by decide) ?_
    refine lv_aload_n hx hb dX4_adopt_26 rfl (lv_at hl 0 rfl) ?_
    refine lv_aload_n hx hb dX4_adopt_27 rfl (lv_at hl 1 rfl) ?_
    refine va_put (D := (dC, dI)) (ci := 4) (v := .ref (ad (50 + 16 * cc))) (ty := .object "ErrandGuild$Run") (C := RX4) (T := TX4) (N := 9) hx hb hg gb_4 tyX4 tyX4_ok nmX4 hown hK hP hD hS (50 + 16 * k + 1) (hQ.b1 hk) rfl 6 (by decide) (hg _ gm_fieldLink_RX4_43_ErrandGuild_Kin_lastChild_LErrandGuild_Run_) (fun _ h9 => h9) rfl (by decide +kernel) rfl rfl (Nat.le_of_ble_eq_true rfl) dX4_adopt_28 (fun H locs hP hD hS => ?_)
    obtain ⟨ws_9, K_8, eK_8, hP, hD, hQ⟩ : ∃ (ws_9 : va_W) (K_8 : Nat → Nat → Option Nat), K_8 = u2 K_3 k 3 (some cc) ∧ va_P (dC, dI) vwCl ws_9 H ∧ va_D A ws_9 ∧ Pic9 kc ws_9 ad ga gc M n f T G K_8 F := ⟨_, _, rfl, hP, hD, hQ.kinR hk 3 6 (by decide) (some cc)⟩
    have i3_10 : i3 M K_8 := by rw [eK_8]; exact i3.pK i3_5 k 3 (fun _ h => by cases h; exact hc)
    have i4_11 : i4 M K_8 := by rw [eK_8]; exact i4.pK i4_6 k _ (by decide)
    have i5_12 : i5 n K_8 := by rw [eK_8]; exact i5.K3 i5_7 k (fun _ h _ => by cases h; omega)
    refine lv_aload_n hx hb dX4_adopt_31 rfl (lv_at hl 0 rfl) ?_
    refine lv_dup hx hb dX4_adopt_32 rfl ?_
    refine va_get (D := (dC, dI)) (ci := 4) (v := .int (G k 13)) (C := RX4) (T := TX4) (N := 9) hx hb hg gb_4 hown hK hP (50 + 16 * k + 1) (hQ.b1 hk) rfl 8 (by decide) (hg _ gm_fieldLink_RX4_49_ErrandGuild_Kin_children_I_) (fun _ h9 => h9) rfl dX4_adopt_33 ?_
    refine lv_iconst (v := 1) hx hb dX4_adopt_36 (by decide) ?_
    refine lv_iadd hx hb dX4_adopt_37 ?_
    refine lv_topi (fun z_13 ez_13 => ?_)
    refine va_put (D := (dC, dI)) (ci := 4) (v := .int (z_13)) (ty := .int) (C := RX4) (T := TX4) (N := 9) hx hb hg gb_4 tyX4 tyX4_ok nmX4 hown hK hP hD hS (50 + 16 * k + 1) (hQ.b1 hk) rfl 8 (by decide) (hg _ gm_fieldLink_RX4_49_ErrandGuild_Kin_children_I_) (fun _ h9 => h9) rfl (by decide +kernel) rfl rfl (Nat.le_of_ble_eq_true rfl) dX4_adopt_38 (fun H locs hP hD hS => ?_)
    obtain ⟨ws_15, G_14, eG_14, hP, hD, hQ⟩ : ∃ (ws_15 : va_W) (G_14 : Nat → Nat → Int32), G_14 = u2 G k 13 z_13 ∧ va_P (dC, dI) vwCl ws_15 H ∧ va_D A ws_15 ∧ Pic9 kc ws_15 ad ga gc M n f T G_14 K_8 F := ⟨_, _, rfl, hP, hD, hQ.kinI hk 13 8 (by decide) z_13⟩
    have i6_16 : i6 n T G_14 := by rw [eG_14]; exact (i6.pG h_i6 k _ (by decide))
    have i7_17 : i7 n G_14 := by rw [eG_14]; exact (i7.pG h_i7 k _ (by decide))
    have i8_18 : i8 M n gc G_14 := by rw [eG_14]; exact (i8.pG h_i8 k _ (by decide))
    have i9_19 : i9 M gc G_14 R := by rw [eG_14]; exact (i9.pG h_i9 k _ (by decide))
    have eg_20 : G_14 k 13 = z_13 := by rw [eG_14, u2_eq]
    refine W_msr2 (fun hm1 hm2 hm3 => ?_)
    exact W.vret hx hb hr (fun t ht hW => ⟨⟨(ad, ga, gc, M, n, f, T, G_14, K_8, F), rfl, trivial, ws_15, by rw [ht]; exact hP, hD, hQ, ⟨h_i1, h_i2, i3_10, i4_11, i5_12, i6_16, i7_17, i8_18, i9_19⟩, by rw [ht]; show hpS H + (260 * M + 2 * S9 M gc) ≤ hpS s.heap + (260 * M + 2 * S9 M gc); omega, by rw [ht]; show 16 * H.size + (256 * M + S9 M gc) ≤ 16 * s.heap.size + (256 * M + S9 M gc); omega⟩, hS.F ht⟩) hS.2.2 dX4_adopt_41
  · refine W.eq (g2 := F0 m 4 ls [.ref (ad (50 + 16 * j_2))]) (by first | rfl | (rw [eo_1]; rfl)) ?_
    have hj_2 : j_2 < M := h_i3 _ _ _ hk eo_1
    refine lv_ifnonnull (tgt := 15) hx hb dX4_adopt_4 (by decide) ?_
    refine lv_aload_n hx hb dX4_adopt_15 rfl (lv_at hl 0 rfl) ?_
    refine va_get (D := (dC, dI)) (ci := 4) (v := va_rf (rA9 ad (K k 3))) (C := RX4) (T := TX4) (N := 9) hx hb hg gb_4 hown hK hP (50 + 16 * k + 1) (hQ.b1 hk) rfl 6 (by decide) (hg _ gm_fieldLink_RX4_43_ErrandGuild_Kin_lastChild_LErrandGuild_Run_) (fun _ h9 => h9) rfl dX4_adopt_16 ?_
    refine W.eq (g2 := F0 m 19 ls [.ref (ad (50 + 16 * j_2))]) (by rw [eo_1]; rfl) ?_
    refine va_get (D := (dC, dI)) (ci := 7) (v := .ref (ad (50 + 16 * j_2 + 1))) (C := RX7) (T := TX7) (N := 15) hx hb hg gb_7 hown hK hP (50 + 16 * j_2) (hQ.b0 hj_2) rfl 10 (by decide) (hg _ gm_fieldLink_RX4_23_ErrandGuild_Run_kin_LErrandGuild_Kin_) (fun _ h9 => h9) rfl dX4_adopt_19 ?_
    refine lv_aload_n hx hb dX4_adopt_22 rfl (lv_at hl 1 rfl) ?_
    refine va_put (D := (dC, dI)) (ci := 4) (v := .ref (ad (50 + 16 * cc))) (ty := .object "ErrandGuild$Run") (C := RX4) (T := TX4) (N := 9) hx hb hg gb_4 tyX4 tyX4_ok nmX4 hown hK hP hD hS (50 + 16 * j_2 + 1) (hQ.b1 hj_2) rfl 7 (by decide) (hg _ gm_fieldLink_RX4_46_ErrandGuild_Kin_nextSibling_LErrandGuild_Run_) (fun _ h9 => h9) rfl (by decide +kernel) rfl rfl (Nat.le_of_ble_eq_true rfl) dX4_adopt_23 (fun H locs hP hD hS => ?_)
    obtain ⟨ws_22, K_21, eK_21, hP, hD, hQ⟩ : ∃ (ws_22 : va_W) (K_21 : Nat → Nat → Option Nat), K_21 = u2 K j_2 4 (some cc) ∧ va_P (dC, dI) vwCl ws_22 H ∧ va_D A ws_22 ∧ Pic9 kc ws_22 ad ga gc M n f T G K_21 F := ⟨_, _, rfl, hP, hD, hQ.kinR hj_2 4 7 (by decide) (some cc)⟩
    have i3_23 : i3 M K_21 := by rw [eK_21]; exact i3.pK h_i3 j_2 4 (fun _ h => by cases h; exact hc)
    have i4_24 : i4 M K_21 := by rw [eK_21]; exact i4.K4 h_i4 j_2 (fun _ h => by cases h; exact hkc _ eo_1)
    have i5_25 : i5 n K_21 := by rw [eK_21]; exact i5.pK h_i5 j_2 _ (by decide)
    refine lv_aload_n hx hb dX4_adopt_26 rfl (lv_at hl 0 rfl) ?_
    refine lv_aload_n hx hb dX4_adopt_27 rfl (lv_at hl 1 rfl) ?_
    refine va_put (D := (dC, dI)) (ci := 4) (v := .ref (ad (50 + 16 * cc))) (ty := .object "ErrandGuild$Run") (C := RX4) (T := TX4) (N := 9) hx hb hg gb_4 tyX4 tyX4_ok nmX4 hown hK hP hD hS (50 + 16 * k + 1) (hQ.b1 hk) rfl 6 (by decide) (hg _ gm_fieldLink_RX4_43_ErrandGuild_Kin_lastChild_LErrandGuild_Run_) (fun _ h9 => h9) rfl (by decide +kernel) rfl rfl (Nat.le_of_ble_eq_true rfl) dX4_adopt_28 (fun H locs hP hD hS => ?_)
    obtain ⟨ws_27, K_26, eK_26, hP, hD, hQ⟩ : ∃ (ws_27 : va_W) (K_26 : Nat → Nat → Option Nat), K_26 = u2 K_21 k 3 (some cc) ∧ va_P (dC, dI) vwCl ws_27 H ∧ va_D A ws_27 ∧ Pic9 kc ws_27 ad ga gc M n f T G K_26 F := ⟨_, _, rfl, hP, hD, hQ.kinR hk 3 6 (by decide) (some cc)⟩
    have i3_28 : i3 M K_26 := by rw [eK_26]; exact i3.pK i3_23 k 3 (fun _ h => by cases h; exact hc)
    have i4_29 : i4 M K_26 := by rw [eK_26]; exact i4.pK i4_24 k _ (by decide)
    have i5_30 : i5 n K_26 := by rw [eK_26]; exact i5.K3 i5_25 k (fun _ h _ => by cases h; omega)
    refine lv_aload_n hx hb dX4_adopt_31 rfl (lv_at hl 0 rfl) ?_
    refine lv_dup hx hb dX4_adopt_32 rfl ?_
    refine va_get (D := (dC, dI)) (ci := 4) (v := .int (G k 13)) (C := RX4) (T := TX4) (N := 9) hx hb hg gb_4 hown hK hP (50 + 16 * k + 1) (hQ.b1 hk) rfl 8 (by decide) (hg _ gm_fieldLink_RX4_49_ErrandGuild_Kin_children_I_) (fun _ h9 => h9) rfl dX4_adopt_33 ?_
    refine lv_iconst (v := 1) hx hb dX4_adopt_36 (by decide) ?_
    refine lv_iadd hx hb dX4_adopt_37 ?_
    refine lv_topi (fun z_31 ez_31 => ?_)
    refine va_put (D := (dC, dI)) (ci := 4) (v := .int (z_31)) (ty := .int) (C := RX4) (T := TX4) (N := 9) hx hb hg gb_4 tyX4 tyX4_ok nmX4 hown hK hP hD hS (50 + 16 * k + 1) (hQ.b1 hk) rfl 8 (by decide) (hg _ gm_fieldLink_RX4_49_ErrandGuild_Kin_children_I_) (fun _ h9 => h9) rfl (by decide +kernel) rfl rfl (Nat.le_of_ble_eq_true rfl) dX4_adopt_38 (fun H locs hP hD hS => ?_)
    obtain ⟨ws_33, G_32, eG_32, hP, hD, hQ⟩ : ∃ (ws_33 : va_W) (G_32 : Nat → Nat → Int32), G_32 = u2 G k 13 z_31 ∧ va_P (dC, dI) vwCl ws_33 H ∧ va_D A ws_33 ∧ Pic9 kc ws_33 ad ga gc M n f T G_32 K_26 F := ⟨_, _, rfl, hP, hD, hQ.kinI hk 13 8 (by decide) z_31⟩
    have i6_34 : i6 n T G_32 := by rw [eG_32]; exact (i6.pG h_i6 k _ (by decide))
    have i7_35 : i7 n G_32 := by rw [eG_32]; exact (i7.pG h_i7 k _ (by decide))
    have i8_36 : i8 M n gc G_32 := by rw [eG_32]; exact (i8.pG h_i8 k _ (by decide))
    have i9_37 : i9 M gc G_32 R := by rw [eG_32]; exact (i9.pG h_i9 k _ (by decide))
    have eg_38 : G_32 k 13 = z_31 := by rw [eG_32, u2_eq]
    refine W_msr2 (fun hm1 hm2 hm3 => ?_)
    exact W.vret hx hb hr (fun t ht hW => ⟨⟨(ad, ga, gc, M, n, f, T, G_32, K_26, F), rfl, trivial, ws_33, by rw [ht]; exact hP, hD, hQ, ⟨h_i1, h_i2, i3_28, i4_29, i5_30, i6_34, i7_35, i8_36, i9_37⟩, by rw [ht]; show hpS H + (260 * M + 2 * S9 M gc) ≤ hpS s.heap + (260 * M + 2 * S9 M gc); omega, by rw [ht]; show 16 * H.size + (256 * M + S9 M gc) ≤ 16 * s.heap.size + (256 * M + S9 M gc); omega⟩, hS.F ht⟩) hS.2.2 dX4_adopt_41

set_option maxHeartbeats 8000000 in
set_option maxRecDepth 100000 in
theorem c_X4_begin_n (l : Launch) (dC : Nat → ClassId) (dI : Nat → Nat → Nat) (kc : Nat → ClassId) (ws : va_W) (ad : Nat → Nat) (ga : Nat → Nat) (gc : Nat → Nat) (M : Nat) (n : Nat → Int32) (f : Nat → Nat → Int32) (T : Nat → Option Nat) (G : Nat → Nat → Int32) (K : Nat → Nat → Option Nat) (F : Nat → Nat → Nat → Int32) (R : Nat) (i : Nat) (sz hz : Nat) (hQ : Pic9 kc ws ad ga gc M n f T G K F) (hI : I9 M n T gc G K R) (hi : i < M) : Met l yX4_begin (.code yX4_begin cX4_begin 2 none :: gw) ({ frames := 0, cells := 0, slots := 0, locals := 0 }) (va_Pc [.ref (ad (50 + 16 * i + 1)), .null] (fun U => U.heap.size = sz ∧ hpS U.heap = hz ∧ va_P (dC, dI) vwCl ws U.heap ∧ va_K (dC, dI) vwCl (t9 kc) U ∧ va_D (fun _ => True) ws ∧ nx U)) (va_Qv (fun (u : (Nat → Nat) × (Nat → Nat) × (Nat → Nat) × Nat × (Nat → Int32) × (Nat → Nat → Int32) × (Nat → Option Nat) × (Nat → Nat → Int32) × (Nat → Nat → Option Nat) × (Nat → Nat → Nat → Int32)) => (∀ a : Nat, u.2.2.2.2.2.2.2.1 a 2 = G a 2) ∧ (∀ a : Nat, u.2.2.2.2.2.2.2.1 a 3 = G a 3) ∧ u.2.2.2.2.2.2.2.2.1 i 3 = none ∧ (∀ a : Nat, a ≠ i → u.2.2.2.2.2.2.2.2.1 a = K a)) (fun u t => ∃ w : va_W, va_P (dC, dI) vwCl w t.heap ∧ va_D (va_A ws sz) w ∧ Pic9 kc w ad ga gc M n f T u.2.2.2.2.2.2.2.1 u.2.2.2.2.2.2.2.2.1 F ∧ I9 M n T gc u.2.2.2.2.2.2.2.1 u.2.2.2.2.2.2.2.2.1 R ∧ hpS t.heap + (260 * M + 2 * S9 M gc) ≤ hz + (260 * M + 2 * S9 M gc) ∧ 16 * t.heap.size + (256 * M + S9 M gc) ≤ 16 * sz + (256 * M + S9 M gc)) (va_A ws sz)) 0 0 (va_A ws sz) := by
  refine Met.ofW (cc := cX4_begin) (maxL := 2) (ret := none) (by decide) rfl ?_
  intro p e s m args below meth c s₁ B hml hv
  obtain ⟨rfl, hsz, rfl, hP, hK, hD0, hN⟩ := hv
  have hx := B.exec
  have hb := B.bytes
  have hr := B.returns
  have hts := atoms_spec (ws := .code yX4_begin cX4_begin 2 none :: gw) B.pre
  have hg : ∀ w ∈ gw, w.before _ s = true := fun w h => hts w (List.mem_cons_of_mem _ h)
  have hown : s.vm.findClass RX4 = some m.cls := findClass_of_methodNamed B.named
  have hlocks := B.notSynchronized
  subst hsz
  have hD := hD0.self (sz := s.heap.size)
  generalize hAe : va_A ws s.heap.size = A at hD ⊢
  have hA : ∀ q : Nat, s.heap.size ≤ q → A q := fun q h => by rw [← hAe]; exact Or.inr h
  clear hAe
  have hS : va_S A s.heap s.heap [] := va_S.rf
  have hl := lv_entry ([.ref (ad (50 + 16 * i + 1)), .null]) (n := 2) (Nat.le_of_ble_eq_true rfl)
  rw [lg_entry_eq]
  generalize (lg_sl ([.ref (ad (50 + 16 * i + 1)), .null]) ++ List.replicate (2 - (lg_sl ([.ref (ad (50 + 16 * i + 1)), .null])).length) Slot.unset).toArray = ls at hl ⊢
  have hl : lv_has ls 2 [(0, .ref (ad (50 + 16 * i + 1))), (1, .null)] := hl
  obtain ⟨h_i1, h_i2, h_i3, h_i4, h_i5, h_i6, h_i7, h_i8, h_i9⟩ := id hI
  have q1_ := h_i1
  unfold i1 at q1_
  refine lv_aload_n hx hb dX4_begin_0 rfl (lv_at hl 0 rfl) ?_
  refine lv_aload_nN hx hb dX4_begin_1 rfl (lv_at hl 1 rfl) ?_
  refine va_put (D := (dC, dI)) (ci := 4) (v := .null) (ty := .object "ErrandGuild$Run") (C := RX4) (T := TX4) (N := 9) hx hb hg gb_4 tyX4 tyX4_ok nmX4 hown hK hP hD hS (50 + 16 * i + 1) (hQ.b1 hi) rfl 0 (by decide) (hg _ gm_fieldLink_RX4_9_ErrandGuild_Kin_giver_LErrandGuild_Run_) (fun _ h9 => h9) rfl (by decide +kernel) rfl rfl (Nat.le_of_ble_eq_true rfl) dX4_begin_2 (fun H locs hP hD hS => ?_)
  obtain ⟨ws_2, K_1, eK_1, hP, hD, hQ⟩ : ∃ (ws_2 : va_W) (K_1 : Nat → Nat → Option Nat), K_1 = u2 K i 0 none ∧ va_P (dC, dI) vwCl ws_2 H ∧ va_D A ws_2 ∧ Pic9 kc ws_2 ad ga gc M n f T G K_1 F := ⟨_, _, rfl, hP, hD, hQ.kinR hi 0 0 (by decide) none⟩
  have i3_3 : i3 M K_1 := by rw [eK_1]; exact i3.pK h_i3 i 0 (fun _ h => by cases h)
  have i4_4 : i4 M K_1 := by rw [eK_1]; exact i4.pK h_i4 i _ (by decide)
  have i5_5 : i5 n K_1 := by rw [eK_1]; exact i5.pK h_i5 i _ (by decide)
  refine lv_aload_n hx hb dX4_begin_5 rfl (lv_at hl 0 rfl) ?_
  refine lv_aload_nN hx hb dX4_begin_6 rfl (lv_at hl 1 rfl) ?_
  refine lv_ifnonnullN hx hb dX4_begin_7 ?_
  refine lv_null hx hb dX4_begin_10 ?_
  refine lv_goto (tgt := 18) hx hb dX4_begin_11 (by decide) ?_
  refine va_put (D := (dC, dI)) (ci := 4) (v := .null) (ty := .object "ErrandGuild$Run") (C := RX4) (T := TX4) (N := 9) hx hb hg gb_4 tyX4 tyX4_ok nmX4 hown hK hP hD hS (50 + 16 * i + 1) (hQ.b1 hi) rfl 1 (by decide) (hg _ gm_fieldLink_RX4_21_ErrandGuild_Kin_root_LErrandGuild_Run_) (fun _ h9 => h9) rfl (by decide +kernel) rfl rfl (Nat.le_of_ble_eq_true rfl) dX4_begin_18 (fun H locs hP hD hS => ?_)
  obtain ⟨ws_7, K_6, eK_6, hP, hD, hQ⟩ : ∃ (ws_7 : va_W) (K_6 : Nat → Nat → Option Nat), K_6 = u2 K_1 i 1 none ∧ va_P (dC, dI) vwCl ws_7 H ∧ va_D A ws_7 ∧ Pic9 kc ws_7 ad ga gc M n f T G K_6 F := ⟨_, _, rfl, hP, hD, hQ.kinR hi 1 1 (by decide) none⟩
  have i3_8 : i3 M K_6 := by rw [eK_6]; exact i3.pK i3_3 i 1 (fun _ h => by cases h)
  have i4_9 : i4 M K_6 := by rw [eK_6]; exact i4.pK i4_4 i _ (by decide)
  have i5_10 : i5 n K_6 := by rw [eK_6]; exact i5.pK i5_5 i _ (by decide)
  refine lv_aload_n hx hb dX4_begin_21 rfl (lv_at hl 0 rfl) ?_
  refine lv_aload_nN hx hb dX4_begin_22 rfl (lv_at hl 1 rfl) ?_
  refine lv_ifnonnullN hx hb dX4_begin_23 ?_
  refine lv_iconst (v := 0) hx hb dX4_begin_26 (by decide) ?_
  refine lv_goto (tgt := 39) hx hb dX4_begin_27 (by decide) ?_
  refine va_put (D := (dC, dI)) (ci := 4) (v := .int (0)) (ty := .int) (C := RX4) (T := TX4) (N := 9) hx hb hg gb_4 tyX4 tyX4_ok nmX4 hown hK hP hD hS (50 + 16 * i + 1) (hQ.b1 hi) rfl 2 (by decide) (hg _ gm_fieldLink_RX4_27_ErrandGuild_Kin_depth_I_) (fun _ h9 => h9) rfl (by decide +kernel) rfl rfl (Nat.le_of_ble_eq_true rfl) dX4_begin_39 (fun H locs hP hD hS => ?_)
  obtain ⟨ws_12, G_11, eG_11, hP, hD, hQ⟩ : ∃ (ws_12 : va_W) (G_11 : Nat → Nat → Int32), G_11 = u2 G i 10 0 ∧ va_P (dC, dI) vwCl ws_12 H ∧ va_D A ws_12 ∧ Pic9 kc ws_12 ad ga gc M n f T G_11 K_6 F := ⟨_, _, rfl, hP, hD, hQ.kinI hi 10 2 (by decide) 0⟩
  have i6_13 : i6 n T G_11 := by rw [eG_11]; exact (i6.pG h_i6 i _ (by decide))
  have i7_14 : i7 n G_11 := by rw [eG_11]; exact (i7.pG h_i7 i _ (by decide))
  have i8_15 : i8 M n gc G_11 := by rw [eG_11]; exact (i8.pG h_i8 i _ (by decide))
  have i9_16 : i9 M gc G_11 R := by rw [eG_11]; exact (i9.pG h_i9 i _ (by decide))
  have eg_17 : G_11 i 10 = 0 := by rw [eG_11, u2_eq]
  refine lv_aload_n hx hb dX4_begin_42 rfl (lv_at hl 0 rfl) ?_
  refine lv_aload_nN hx hb dX4_begin_43 rfl (lv_at hl 1 rfl) ?_
  refine lv_ifnonnullN hx hb dX4_begin_44 ?_
  refine lv_iconst (v := 0) hx hb dX4_begin_47 (by decide) ?_
  refine lv_goto (tgt := 55) hx hb dX4_begin_48 (by decide) ?_
  refine va_put (D := (dC, dI)) (ci := 4) (v := .int (0)) (ty := .int) (C := RX4) (T := TX4) (N := 9) hx hb hg gb_4 tyX4 tyX4_ok nmX4 hown hK hP hD hS (50 + 16 * i + 1) (hQ.b1 hi) rfl 3 (by decide) (hg _ gm_fieldLink_RX4_34_ErrandGuild_Kin_handedAt_I_) (fun _ h9 => h9) rfl (by decide +kernel) rfl rfl (Nat.le_of_ble_eq_true rfl) dX4_begin_55 (fun H locs hP hD hS => ?_)
  obtain ⟨ws_19, G_18, eG_18, hP, hD, hQ⟩ : ∃ (ws_19 : va_W) (G_18 : Nat → Nat → Int32), G_18 = u2 G_11 i 11 0 ∧ va_P (dC, dI) vwCl ws_19 H ∧ va_D A ws_19 ∧ Pic9 kc ws_19 ad ga gc M n f T G_18 K_6 F := ⟨_, _, rfl, hP, hD, hQ.kinI hi 11 3 (by decide) 0⟩
  have i6_20 : i6 n T G_18 := by rw [eG_18]; exact (i6.pG i6_13 i _ (by decide))
  have i7_21 : i7 n G_18 := by rw [eG_18]; exact (i7.pG i7_14 i _ (by decide))
  have i8_22 : i8 M n gc G_18 := by rw [eG_18]; exact (i8.pG i8_15 i _ (by decide))
  have i9_23 : i9 M gc G_18 R := by rw [eG_18]; exact (i9.pG i9_16 i _ (by decide))
  have eg_24 : G_18 i 11 = 0 := by rw [eG_18, u2_eq]
  refine lv_aload_n hx hb dX4_begin_58 rfl (lv_at hl 0 rfl) ?_
  refine lv_iconst (v := 0) hx hb dX4_begin_59 (by decide) ?_
  refine va_put (D := (dC, dI)) (ci := 4) (v := .int (0)) (ty := .int) (C := RX4) (T := TX4) (N := 9) hx hb hg gb_4 tyX4 tyX4_ok nmX4 hown hK hP hD hS (50 + 16 * i + 1) (hQ.b1 hi) rfl 4 (by decide) (hg _ gm_fieldLink_RX4_37_ErrandGuild_Kin_claim_I_) (fun _ h9 => h9) rfl (by decide +kernel) rfl rfl (Nat.le_of_ble_eq_true rfl) dX4_begin_60 (fun H locs hP hD hS => ?_)
  obtain ⟨ws_26, G_25, eG_25, hP, hD, hQ⟩ : ∃ (ws_26 : va_W) (G_25 : Nat → Nat → Int32), G_25 = u2 G_18 i 12 0 ∧ va_P (dC, dI) vwCl ws_26 H ∧ va_D A ws_26 ∧ Pic9 kc ws_26 ad ga gc M n f T G_25 K_6 F := ⟨_, _, rfl, hP, hD, hQ.kinI hi 12 4 (by decide) 0⟩
  have i6_27 : i6 n T G_25 := by rw [eG_25]; exact (i6.pG i6_20 i _ (by decide))
  have i7_28 : i7 n G_25 := by rw [eG_25]; exact (i7.pG i7_21 i _ (by decide))
  have i8_29 : i8 M n gc G_25 := by rw [eG_25]; exact (i8.pG i8_22 i _ (by decide))
  have i9_30 : i9 M gc G_25 R := by rw [eG_25]; exact (i9.pG i9_23 i _ (by decide))
  have eg_31 : G_25 i 12 = 0 := by rw [eG_25, u2_eq]
  refine lv_aload_n hx hb dX4_begin_63 rfl (lv_at hl 0 rfl) ?_
  refine lv_null hx hb dX4_begin_64 ?_
  refine va_put (D := (dC, dI)) (ci := 4) (v := .null) (ty := .object "ErrandGuild$Run") (C := RX4) (T := TX4) (N := 9) hx hb hg gb_4 tyX4 tyX4_ok nmX4 hown hK hP hD hS (50 + 16 * i + 1) (hQ.b1 hi) rfl 5 (by decide) (hg _ gm_fieldLink_RX4_40_ErrandGuild_Kin_firstChild_LErrandGuild_Run_) (fun _ h9 => h9) rfl (by decide +kernel) rfl rfl (Nat.le_of_ble_eq_true rfl) dX4_begin_65 (fun H locs hP hD hS => ?_)
  obtain ⟨ws_33, K_32, eK_32, hP, hD, hQ⟩ : ∃ (ws_33 : va_W) (K_32 : Nat → Nat → Option Nat), K_32 = u2 K_6 i 2 none ∧ va_P (dC, dI) vwCl ws_33 H ∧ va_D A ws_33 ∧ Pic9 kc ws_33 ad ga gc M n f T G_25 K_32 F := ⟨_, _, rfl, hP, hD, hQ.kinR hi 2 5 (by decide) none⟩
  have i3_34 : i3 M K_32 := by rw [eK_32]; exact i3.pK i3_8 i 2 (fun _ h => by cases h)
  have i4_35 : i4 M K_32 := by rw [eK_32]; exact i4.pK i4_9 i _ (by decide)
  have i5_36 : i5 n K_32 := by rw [eK_32]; exact i5.pK i5_10 i _ (by decide)
  refine lv_aload_n hx hb dX4_begin_68 rfl (lv_at hl 0 rfl) ?_
  refine lv_null hx hb dX4_begin_69 ?_
  refine va_put (D := (dC, dI)) (ci := 4) (v := .null) (ty := .object "ErrandGuild$Run") (C := RX4) (T := TX4) (N := 9) hx hb hg gb_4 tyX4 tyX4_ok nmX4 hown hK hP hD hS (50 + 16 * i + 1) (hQ.b1 hi) rfl 6 (by decide) (hg _ gm_fieldLink_RX4_43_ErrandGuild_Kin_lastChild_LErrandGuild_Run_) (fun _ h9 => h9) rfl (by decide +kernel) rfl rfl (Nat.le_of_ble_eq_true rfl) dX4_begin_70 (fun H locs hP hD hS => ?_)
  obtain ⟨ws_38, K_37, eK_37, hP, hD, hQ⟩ : ∃ (ws_38 : va_W) (K_37 : Nat → Nat → Option Nat), K_37 = u2 K_32 i 3 none ∧ va_P (dC, dI) vwCl ws_38 H ∧ va_D A ws_38 ∧ Pic9 kc ws_38 ad ga gc M n f T G_25 K_37 F := ⟨_, _, rfl, hP, hD, hQ.kinR hi 3 6 (by decide) none⟩
  have i3_39 : i3 M K_37 := by rw [eK_37]; exact i3.pK i3_34 i 3 (fun _ h => by cases h)
  have i4_40 : i4 M K_37 := by rw [eK_37]; exact i4.pK i4_35 i _ (by decide)
  have i5_41 : i5 n K_37 := by rw [eK_37]; exact i5.K3 i5_36 i (fun _ h => by cases h)
  refine lv_aload_n hx hb dX4_begin_73 rfl (lv_at hl 0 rfl) ?_
  refine lv_null hx hb dX4_begin_74 ?_
  refine va_put (D := (dC, dI)) (ci := 4) (v := .null) (ty := .object "ErrandGuild$Run") (C := RX4) (T := TX4) (N := 9) hx hb hg gb_4 tyX4 tyX4_ok nmX4 hown hK hP hD hS (50 + 16 * i + 1) (hQ.b1 hi) rfl 7 (by decide) (hg _ gm_fieldLink_RX4_46_ErrandGuild_Kin_nextSibling_LErrandGuild_Run_) (fun _ h9 => h9) rfl (by decide +kernel) rfl rfl (Nat.le_of_ble_eq_true rfl) dX4_begin_75 (fun H locs hP hD hS => ?_)
  obtain ⟨ws_43, K_42, eK_42, hP, hD, hQ⟩ : ∃ (ws_43 : va_W) (K_42 : Nat → Nat → Option Nat), K_42 = u2 K_37 i 4 none ∧ va_P (dC, dI) vwCl ws_43 H ∧ va_D A ws_43 ∧ Pic9 kc ws_43 ad ga gc M n f T G_25 K_42 F := ⟨_, _, rfl, hP, hD, hQ.kinR hi 4 7 (by decide) none⟩
  have i3_44 : i3 M K_42 := by rw [eK_42]; exact i3.pK i3_39 i 4 (fun _ h => by cases h)
  have i4_45 : i4 M K_42 := by rw [eK_42]; exact i4.K4 i4_40 i (fun _ h => by cases h)
  have i5_46 : i5 n K_42 := by rw [eK_42]; exact i5.pK i5_41 i _ (by decide)
  refine lv_aload_n hx hb dX4_begin_78 rfl (lv_at hl 0 rfl) ?_
  refine lv_iconst (v := 0) hx hb dX4_begin_79 (by decide) ?_
  refine va_put (D := (dC, dI)) (ci := 4) (v := .int (0)) (ty := .int) (C := RX4) (T := TX4) (N := 9) hx hb hg gb_4 tyX4 tyX4_ok nmX4 hown hK hP hD hS (50 + 16 * i + 1) (hQ.b1 hi) rfl 8 (by decide) (hg _ gm_fieldLink_RX4_49_ErrandGuild_Kin_children_I_) (fun _ h9 => h9) rfl (by decide +kernel) rfl rfl (Nat.le_of_ble_eq_true rfl) dX4_begin_80 (fun H locs hP hD hS => ?_)
  obtain ⟨ws_48, G_47, eG_47, hP, hD, hQ⟩ : ∃ (ws_48 : va_W) (G_47 : Nat → Nat → Int32), G_47 = u2 G_25 i 13 0 ∧ va_P (dC, dI) vwCl ws_48 H ∧ va_D A ws_48 ∧ Pic9 kc ws_48 ad ga gc M n f T G_47 K_42 F := ⟨_, _, rfl, hP, hD, hQ.kinI hi 13 8 (by decide) 0⟩
  have i6_49 : i6 n T G_47 := by rw [eG_47]; exact (i6.pG i6_27 i _ (by decide))
  have i7_50 : i7 n G_47 := by rw [eG_47]; exact (i7.pG i7_28 i _ (by decide))
  have i8_51 : i8 M n gc G_47 := by rw [eG_47]; exact (i8.pG i8_29 i _ (by decide))
  have i9_52 : i9 M gc G_47 R := by rw [eG_47]; exact (i9.pG i9_30 i _ (by decide))
  have eg_53 : G_47 i 13 = 0 := by rw [eG_47, u2_eq]
  refine W_msr2 (fun hm1 hm2 hm3 => ?_)
  exact W.vret hx hb hr (fun t ht hW => ⟨⟨(ad, ga, gc, M, n, f, T, G_47, K_42, F), rfl, ⟨fun a => by show G_47 a 2 = G a 2; rw [eG_47]; (repeat rw [u2_n2 _ _ _ _ (show (2 : Nat) ≠ _ by decide)]); rw [eG_25]; (repeat rw [u2_n2 _ _ _ _ (show (2 : Nat) ≠ _ by decide)]); rw [eG_18]; (repeat rw [u2_n2 _ _ _ _ (show (2 : Nat) ≠ _ by decide)]); rw [eG_11]; (repeat rw [u2_n2 _ _ _ _ (show (2 : Nat) ≠ _ by decide)]), fun a => by show G_47 a 3 = G a 3; rw [eG_47]; (repeat rw [u2_n2 _ _ _ _ (show (3 : Nat) ≠ _ by decide)]); rw [eG_25]; (repeat rw [u2_n2 _ _ _ _ (show (3 : Nat) ≠ _ by decide)]); rw [eG_18]; (repeat rw [u2_n2 _ _ _ _ (show (3 : Nat) ≠ _ by decide)]); rw [eG_11]; (repeat rw [u2_n2 _ _ _ _ (show (3 : Nat) ≠ _ by decide)]), by show K_42 i 3 = none; rw [eK_42, u2_n2 _ _ _ _ (by decide), eK_37, u2_eq], fun a ha => by show K_42 a = K a; rw [eK_42, u2_n1 _ _ _ ha]; rw [eK_37, u2_n1 _ _ _ ha]; rw [eK_32, u2_n1 _ _ _ ha]; rw [eK_6, u2_n1 _ _ _ ha]; rw [eK_1, u2_n1 _ _ _ ha]⟩, ws_48, by rw [ht]; exact hP, hD, hQ, ⟨h_i1, h_i2, i3_44, i4_45, i5_46, i6_49, i7_50, i8_51, i9_52⟩, by rw [ht]; show hpS H + (260 * M + 2 * S9 M gc) ≤ hpS s.heap + (260 * M + 2 * S9 M gc); omega, by rw [ht]; show 16 * H.size + (256 * M + S9 M gc) ≤ 16 * s.heap.size + (256 * M + S9 M gc); omega⟩, hS.F ht⟩) hS.2.2 dX4_begin_83

set_option maxHeartbeats 8000000 in
set_option maxRecDepth 100000 in
theorem c_X4_begin_r (l : Launch) (dC : Nat → ClassId) (dI : Nat → Nat → Nat) (kc : Nat → ClassId) (ws : va_W) (ad : Nat → Nat) (ga : Nat → Nat) (gc : Nat → Nat) (M : Nat) (n : Nat → Int32) (f : Nat → Nat → Int32) (T : Nat → Option Nat) (G : Nat → Nat → Int32) (K : Nat → Nat → Option Nat) (F : Nat → Nat → Nat → Int32) (R : Nat) (i : Nat) (q : Nat) (sz hz : Nat) (hQ : Pic9 kc ws ad ga gc M n f T G K F) (hI : I9 M n T gc G K R) (hi : i < M) (hq : q < M) : Met l yX4_begin (.code yX4_begin cX4_begin 2 none :: gw) ({ frames := 1, cells := 0, slots := 0, locals := 20 }) (va_Pc [.ref (ad (50 + 16 * i + 1)), .ref (ad (50 + 16 * q))] (fun U => U.heap.size = sz ∧ hpS U.heap = hz ∧ va_P (dC, dI) vwCl ws U.heap ∧ va_K (dC, dI) vwCl (t9 kc) U ∧ va_D (fun _ => True) ws ∧ nx U)) (va_Qv (fun (u : (Nat → Nat) × (Nat → Nat) × (Nat → Nat) × Nat × (Nat → Int32) × (Nat → Nat → Int32) × (Nat → Option Nat) × (Nat → Nat → Int32) × (Nat → Nat → Option Nat) × (Nat → Nat → Nat → Int32)) => (∀ a : Nat, u.2.2.2.2.2.2.2.1 a 2 = G a 2) ∧ (∀ a : Nat, u.2.2.2.2.2.2.2.1 a 3 = G a 3) ∧ u.2.2.2.2.2.2.2.2.1 i 3 = none ∧ (∀ a : Nat, a ≠ i → u.2.2.2.2.2.2.2.2.1 a = K a)) (fun u t => ∃ w : va_W, va_P (dC, dI) vwCl w t.heap ∧ va_D (va_A ws sz) w ∧ Pic9 kc w ad ga gc M n f T u.2.2.2.2.2.2.2.1 u.2.2.2.2.2.2.2.2.1 F ∧ I9 M n T gc u.2.2.2.2.2.2.2.1 u.2.2.2.2.2.2.2.2.1 R ∧ hpS t.heap + (260 * M + 2 * S9 M gc) ≤ hz + (260 * M + 2 * S9 M gc) ∧ 16 * t.heap.size + (256 * M + S9 M gc) ≤ 16 * sz + (256 * M + S9 M gc)) (va_A ws sz)) 0 0 (va_A ws sz) := by
  refine Met.ofW (cc := cX4_begin) (maxL := 2) (ret := none) (by decide) rfl ?_
  intro p e s m args below meth c s₁ B hml hv
  obtain ⟨rfl, hsz, rfl, hP, hK, hD0, hN⟩ := hv
  have hx := B.exec
  have hb := B.bytes
  have hr := B.returns
  have hts := atoms_spec (ws := .code yX4_begin cX4_begin 2 none :: gw) B.pre
  have hg : ∀ w ∈ gw, w.before _ s = true := fun w h => hts w (List.mem_cons_of_mem _ h)
  have hown : s.vm.findClass RX4 = some m.cls := findClass_of_methodNamed B.named
  have hlocks := B.notSynchronized
  subst hsz
  have hD := hD0.self (sz := s.heap.size)
  generalize hAe : va_A ws s.heap.size = A at hD ⊢
  have hA : ∀ q : Nat, s.heap.size ≤ q → A q := fun q h => by rw [← hAe]; exact Or.inr h
  clear hAe
  have hS : va_S A s.heap s.heap [] := va_S.rf
  have hl := lv_entry ([.ref (ad (50 + 16 * i + 1)), .ref (ad (50 + 16 * q))]) (n := 2) (Nat.le_of_ble_eq_true rfl)
  rw [lg_entry_eq]
  generalize (lg_sl ([.ref (ad (50 + 16 * i + 1)), .ref (ad (50 + 16 * q))]) ++ List.replicate (2 - (lg_sl ([.ref (ad (50 + 16 * i + 1)), .ref (ad (50 + 16 * q))])).length) Slot.unset).toArray = ls at hl ⊢
  have hl : lv_has ls 2 [(0, .ref (ad (50 + 16 * i + 1))), (1, .ref (ad (50 + 16 * q)))] := hl
  obtain ⟨h_i1, h_i2, h_i3, h_i4, h_i5, h_i6, h_i7, h_i8, h_i9⟩ := id hI
  have q1_ := h_i1
  unfold i1 at q1_
  refine lv_aload_n hx hb dX4_begin_0 rfl (lv_at hl 0 rfl) ?_
  refine lv_aload_n hx hb dX4_begin_1 rfl (lv_at hl 1 rfl) ?_
  refine va_put (D := (dC, dI)) (ci := 4) (v := .ref (ad (50 + 16 * q))) (ty := .object "ErrandGuild$Run") (C := RX4) (T := TX4) (N := 9) hx hb hg gb_4 tyX4 tyX4_ok nmX4 hown hK hP hD hS (50 + 16 * i + 1) (hQ.b1 hi) rfl 0 (by decide) (hg _ gm_fieldLink_RX4_9_ErrandGuild_Kin_giver_LErrandGuild_Run_) (fun _ h9 => h9) rfl (by decide +kernel) rfl rfl (Nat.le_of_ble_eq_true rfl) dX4_begin_2 (fun H locs hP hD hS => ?_)
  obtain ⟨ws_2, K_1, eK_1, hP, hD, hQ⟩ : ∃ (ws_2 : va_W) (K_1 : Nat → Nat → Option Nat), K_1 = u2 K i 0 (some q) ∧ va_P (dC, dI) vwCl ws_2 H ∧ va_D A ws_2 ∧ Pic9 kc ws_2 ad ga gc M n f T G K_1 F := ⟨_, _, rfl, hP, hD, hQ.kinR hi 0 0 (by decide) (some q)⟩
  have i3_3 : i3 M K_1 := by rw [eK_1]; exact i3.pK h_i3 i 0 (fun _ h => by cases h; exact hq)
  have i4_4 : i4 M K_1 := by rw [eK_1]; exact i4.pK h_i4 i _ (by decide)
  have i5_5 : i5 n K_1 := by rw [eK_1]; exact i5.pK h_i5 i _ (by decide)
  refine lv_aload_n hx hb dX4_begin_5 rfl (lv_at hl 0 rfl) ?_
  refine lv_aload_n hx hb dX4_begin_6 rfl (lv_at hl 1 rfl) ?_
  refine lv_ifnonnull (tgt := 14) hx hb dX4_begin_7 (by decide) ?_
  refine lv_aload_n hx hb dX4_begin_14 rfl (lv_at hl 1 rfl) ?_
  have hFc := free_all hD hS hA
  refine va_callq (va_runV (As := []) (rest := [.ref (ad (50 + 16 * i + 1))]) ⟨hx, hb, hml, hown, hg⟩ (c_X7_root l dC dI kc ws_2 ad ga gc M n f T G K_1 F R q H.size (hpS H) hQ ⟨h_i1, h_i2, i3_3, i4_4, i5_5, h_i6, h_i7, h_i8, h_i9⟩ (by show q < M; omega)) (cwV 0 hg (gw_V gm_methodLink_RX4_15_yX7_root gm_instanceMethod_yX7_root gm_selects_RX7_yX7_root_yX7_root gm_initialized_RX7 gm_code_yX7_root_cX7_root_1_some_object_ErrandGuild_Run_) rfl rfl rfl (by decide +kernel) ⟨Nat.le_of_ble_eq_true rfl, Nat.le_of_ble_eq_true rfl⟩) ⟨fun a U g mk q => by obtain ⟨q0, q1, q2, qP, qK, qD, qN⟩ := q; exact ⟨q0, q1, q2, qP, va_K.moved (u := U) (U := U.calling g mk a) (Vm.Alike.refl U.vm) qK, qD, nx_same (u := U) (U := U.calling g mk a) rfl qN⟩, va_recv hK hP (ci := 7) (q0 := (50 + 16 * q)) rfl (hQ.b0 hq), fun U hU hW => ⟨rfl, by rw [hU], by rw [hU], by rw [hU]; exact hP, va_K.moved hW.alike hK, hD.weaken (fun _ _ _ _ => trivial), nx_warm hW hN⟩⟩ rfl rfl hl.1 rfl (lv_room (Nat.le_of_ble_eq_true rfl)) dX4_begin_15 ⟨Nat.le_of_ble_eq_true rfl, Nat.le_of_ble_eq_true rfl⟩) hS (fun q _ h => hFc q h) hFc (fun r_6 u_7 t H1 locs ht hvm hw hB hz1 hk1 hS => ?_)
  obtain ⟨hP, hD, hy1, hy2⟩ := hB
  rw [ht] at hP hy1 hy2
  have hD := hD.weaken (fun k q _ h => hFc _ h)
  have q1_ := h_i1
  unfold i1 at q1_
  generalize H1 = H at hP hS ⊢
  obtain rfl : r_6 = some (ad (50 + 16 * (rt9 K_1 q))) := hw
  have hl_9 : (rt9 K_1 q) < M := rt9_lt i3_3 hq
  refine W.eq (g2 := F0 m 18 ls [.ref (ad (50 + 16 * (rt9 K_1 q))), .ref (ad (50 + 16 * i + 1))]) rfl ?_
  refine va_put (D := (dC, dI)) (ci := 4) (v := .ref (ad (50 + 16 * (rt9 K_1 q)))) (ty := .object "ErrandGuild$Run") (C := RX4) (T := TX4) (N := 9) hx hb hg gb_4 tyX4 tyX4_ok nmX4 hown hK hP hD hS (50 + 16 * i + 1) (hQ.b1 hi) rfl 1 (by decide) (hg _ gm_fieldLink_RX4_21_ErrandGuild_Kin_root_LErrandGuild_Run_) (fun _ h9 => h9) rfl (by decide +kernel) rfl rfl (Nat.le_of_ble_eq_true rfl) dX4_begin_18 (fun H locs hP hD hS => ?_)
  obtain ⟨ws_11, K_10, eK_10, hP, hD, hQ⟩ : ∃ (ws_11 : va_W) (K_10 : Nat → Nat → Option Nat), K_10 = u2 K_1 i 1 (some (rt9 K_1 q)) ∧ va_P (dC, dI) vwCl ws_11 H ∧ va_D A ws_11 ∧ Pic9 kc ws_11 ad ga gc M n f T G K_10 F := ⟨_, _, rfl, hP, hD, hQ.kinR hi 1 1 (by decide) (some (rt9 K_1 q))⟩
  have i3_12 : i3 M K_10 := by rw [eK_10]; exact i3.pK i3_3 i 1 (fun _ h => by cases h; exact hl_9)
  have i4_13 : i4 M K_10 := by rw [eK_10]; exact i4.pK i4_4 i _ (by decide)
  have i5_14 : i5 n K_10 := by rw [eK_10]; exact i5.pK i5_5 i _ (by decide)
  refine lv_aload_n hx hb dX4_begin_21 rfl (lv_at hl 0 rfl) ?_
  refine lv_aload_n hx hb dX4_begin_22 rfl (lv_at hl 1 rfl) ?_
  refine lv_ifnonnull (tgt := 30) hx hb dX4_begin_23 (by decide) ?_
  refine lv_aload_n hx hb dX4_begin_30 rfl (lv_at hl 1 rfl) ?_
  refine va_get (D := (dC, dI)) (ci := 7) (v := .ref (ad (50 + 16 * q + 1))) (C := RX7) (T := TX7) (N := 15) hx hb hg gb_7 hown hK hP (50 + 16 * q) (hQ.b0 hq) rfl 10 (by decide) (hg _ gm_fieldLink_RX4_23_ErrandGuild_Run_kin_LErrandGuild_Kin_) (fun _ h9 => h9) rfl dX4_begin_31 ?_
  refine va_get (D := (dC, dI)) (ci := 4) (v := .int (G q 10)) (C := RX4) (T := TX4) (N := 9) hx hb hg gb_4 hown hK hP (50 + 16 * q + 1) (hQ.b1 hq) rfl 2 (by decide) (hg _ gm_fieldLink_RX4_27_ErrandGuild_Kin_depth_I_) (fun _ h9 => h9) rfl dX4_begin_34 ?_
  refine lv_iconst (v := 1) hx hb dX4_begin_37 (by decide) ?_
  refine lv_iadd hx hb dX4_begin_38 ?_
  refine lv_topi (fun z_15 ez_15 => ?_)
  refine va_put (D := (dC, dI)) (ci := 4) (v := .int (z_15)) (ty := .int) (C := RX4) (T := TX4) (N := 9) hx hb hg gb_4 tyX4 tyX4_ok nmX4 hown hK hP hD hS (50 + 16 * i + 1) (hQ.b1 hi) rfl 2 (by decide) (hg _ gm_fieldLink_RX4_27_ErrandGuild_Kin_depth_I_) (fun _ h9 => h9) rfl (by decide +kernel) rfl rfl (Nat.le_of_ble_eq_true rfl) dX4_begin_39 (fun H locs hP hD hS => ?_)
  obtain ⟨ws_17, G_16, eG_16, hP, hD, hQ⟩ : ∃ (ws_17 : va_W) (G_16 : Nat → Nat → Int32), G_16 = u2 G i 10 z_15 ∧ va_P (dC, dI) vwCl ws_17 H ∧ va_D A ws_17 ∧ Pic9 kc ws_17 ad ga gc M n f T G_16 K_10 F := ⟨_, _, rfl, hP, hD, hQ.kinI hi 10 2 (by decide) z_15⟩
  have i6_18 : i6 n T G_16 := by rw [eG_16]; exact (i6.pG h_i6 i _ (by decide))
  have i7_19 : i7 n G_16 := by rw [eG_16]; exact (i7.pG h_i7 i _ (by decide))
  have i8_20 : i8 M n gc G_16 := by rw [eG_16]; exact (i8.pG h_i8 i _ (by decide))
  have i9_21 : i9 M gc G_16 R := by rw [eG_16]; exact (i9.pG h_i9 i _ (by decide))
  have eg_22 : G_16 i 10 = z_15 := by rw [eG_16, u2_eq]
  refine lv_aload_n hx hb dX4_begin_42 rfl (lv_at hl 0 rfl) ?_
  refine lv_aload_n hx hb dX4_begin_43 rfl (lv_at hl 1 rfl) ?_
  refine lv_ifnonnull (tgt := 51) hx hb dX4_begin_44 (by decide) ?_
  refine lv_aload_n hx hb dX4_begin_51 rfl (lv_at hl 1 rfl) ?_
  refine va_get (D := (dC, dI)) (ci := 7) (v := .int (G_16 q 6)) (C := RX7) (T := TX7) (N := 15) hx hb hg gb_7 hown hK hP (50 + 16 * q) (hQ.b0 hq) rfl 6 (by decide) (hg _ gm_fieldLink_RX4_31_ErrandGuild_Run_place_I_) (fun _ h9 => h9) rfl dX4_begin_52 ?_
  refine va_put (D := (dC, dI)) (ci := 4) (v := .int (G_16 q 6)) (ty := .int) (C := RX4) (T := TX4) (N := 9) hx hb hg gb_4 tyX4 tyX4_ok nmX4 hown hK hP hD hS (50 + 16 * i + 1) (hQ.b1 hi) rfl 3 (by decide) (hg _ gm_fieldLink_RX4_34_ErrandGuild_Kin_handedAt_I_) (fun _ h9 => h9) rfl (by decide +kernel) rfl rfl (Nat.le_of_ble_eq_true rfl) dX4_begin_55 (fun H locs hP hD hS => ?_)
  obtain ⟨ws_24, G_23, eG_23, hP, hD, hQ⟩ : ∃ (ws_24 : va_W) (G_23 : Nat → Nat → Int32), G_23 = u2 G_16 i 11 (G_16 q 6) ∧ va_P (dC, dI) vwCl ws_24 H ∧ va_D A ws_24 ∧ Pic9 kc ws_24 ad ga gc M n f T G_23 K_10 F := ⟨_, _, rfl, hP, hD, hQ.kinI hi 11 3 (by decide) (G_16 q 6)⟩
  have i6_25 : i6 n T G_23 := by rw [eG_23]; exact (i6.pG i6_18 i _ (by decide))
  have i7_26 : i7 n G_23 := by rw [eG_23]; exact (i7.pG i7_19 i _ (by decide))
  have i8_27 : i8 M n gc G_23 := by rw [eG_23]; exact (i8.pG i8_20 i _ (by decide))
  have i9_28 : i9 M gc G_23 R := by rw [eG_23]; exact (i9.pG i9_21 i _ (by decide))
  have eg_29 : G_23 i 11 = (G_16 q 6) := by rw [eG_23, u2_eq]
  refine lv_aload_n hx hb dX4_begin_58 rfl (lv_at hl 0 rfl) ?_
  refine lv_iconst (v := 0) hx hb dX4_begin_59 (by decide) ?_
  refine va_put (D := (dC, dI)) (ci := 4) (v := .int (0)) (ty := .int) (C := RX4) (T := TX4) (N := 9) hx hb hg gb_4 tyX4 tyX4_ok nmX4 hown hK hP hD hS (50 + 16 * i + 1) (hQ.b1 hi) rfl 4 (by decide) (hg _ gm_fieldLink_RX4_37_ErrandGuild_Kin_claim_I_) (fun _ h9 => h9) rfl (by decide +kernel) rfl rfl (Nat.le_of_ble_eq_true rfl) dX4_begin_60 (fun H locs hP hD hS => ?_)
  obtain ⟨ws_31, G_30, eG_30, hP, hD, hQ⟩ : ∃ (ws_31 : va_W) (G_30 : Nat → Nat → Int32), G_30 = u2 G_23 i 12 0 ∧ va_P (dC, dI) vwCl ws_31 H ∧ va_D A ws_31 ∧ Pic9 kc ws_31 ad ga gc M n f T G_30 K_10 F := ⟨_, _, rfl, hP, hD, hQ.kinI hi 12 4 (by decide) 0⟩
  have i6_32 : i6 n T G_30 := by rw [eG_30]; exact (i6.pG i6_25 i _ (by decide))
  have i7_33 : i7 n G_30 := by rw [eG_30]; exact (i7.pG i7_26 i _ (by decide))
  have i8_34 : i8 M n gc G_30 := by rw [eG_30]; exact (i8.pG i8_27 i _ (by decide))
  have i9_35 : i9 M gc G_30 R := by rw [eG_30]; exact (i9.pG i9_28 i _ (by decide))
  have eg_36 : G_30 i 12 = 0 := by rw [eG_30, u2_eq]
  refine lv_aload_n hx hb dX4_begin_63 rfl (lv_at hl 0 rfl) ?_
  refine lv_null hx hb dX4_begin_64 ?_
  refine va_put (D := (dC, dI)) (ci := 4) (v := .null) (ty := .object "ErrandGuild$Run") (C := RX4) (T := TX4) (N := 9) hx hb hg gb_4 tyX4 tyX4_ok nmX4 hown hK hP hD hS (50 + 16 * i + 1) (hQ.b1 hi) rfl 5 (by decide) (hg _ gm_fieldLink_RX4_40_ErrandGuild_Kin_firstChild_LErrandGuild_Run_) (fun _ h9 => h9) rfl (by decide +kernel) rfl rfl (Nat.le_of_ble_eq_true rfl) dX4_begin_65 (fun H locs hP hD hS => ?_)
  obtain ⟨ws_38, K_37, eK_37, hP, hD, hQ⟩ : ∃ (ws_38 : va_W) (K_37 : Nat → Nat → Option Nat), K_37 = u2 K_10 i 2 none ∧ va_P (dC, dI) vwCl ws_38 H ∧ va_D A ws_38 ∧ Pic9 kc ws_38 ad ga gc M n f T G_30 K_37 F := ⟨_, _, rfl, hP, hD, hQ.kinR hi 2 5 (by decide) none⟩
  have i3_39 : i3 M K_37 := by rw [eK_37]; exact i3.pK i3_12 i 2 (fun _ h => by cases h)
  have i4_40 : i4 M K_37 := by rw [eK_37]; exact i4.pK i4_13 i _ (by decide)
  have i5_41 : i5 n K_37 := by rw [eK_37]; exact i5.pK i5_14 i _ (by decide)
  refine lv_aload_n hx hb dX4_begin_68 rfl (lv_at hl 0 rfl) ?_
  refine lv_null hx hb dX4_begin_69 ?_
  refine va_put (D := (dC, dI)) (ci := 4) (v := .null) (ty := .object "ErrandGuild$Run") (C := RX4) (T := TX4) (N := 9) hx hb hg gb_4 tyX4 tyX4_ok nmX4 hown hK hP hD hS (50 + 16 * i + 1) (hQ.b1 hi) rfl 6 (by decide) (hg _ gm_fieldLink_RX4_43_ErrandGuild_Kin_lastChild_LErrandGuild_Run_) (fun _ h9 => h9) rfl (by decide +kernel) rfl rfl (Nat.le_of_ble_eq_true rfl) dX4_begin_70 (fun H locs hP hD hS => ?_)
  obtain ⟨ws_43, K_42, eK_42, hP, hD, hQ⟩ : ∃ (ws_43 : va_W) (K_42 : Nat → Nat → Option Nat), K_42 = u2 K_37 i 3 none ∧ va_P (dC, dI) vwCl ws_43 H ∧ va_D A ws_43 ∧ Pic9 kc ws_43 ad ga gc M n f T G_30 K_42 F := ⟨_, _, rfl, hP, hD, hQ.kinR hi 3 6 (by decide) none⟩
  have i3_44 : i3 M K_42 := by rw [eK_42]; exact i3.pK i3_39 i 3 (fun _ h => by cases h)
  have i4_45 : i4 M K_42 := by rw [eK_42]; exact i4.pK i4_40 i _ (by decide)
  have i5_46 : i5 n K_42 := by rw [eK_42]; exact i5.K3 i5_41 i (fun _ h => by cases h)
  refine lv_aload_n hx hb dX4_begin_73 rfl (lv_at hl 0 rfl) ?_
  refine lv_null hx hb dX4_begin_74 ?_
  refine va_put (D := (dC, dI)) (ci := 4) (v := .null) (ty := .object "ErrandGuild$Run") (C := RX4) (T := TX4) (N := 9) hx hb hg gb_4 tyX4 tyX4_ok nmX4 hown hK hP hD hS (50 + 16 * i + 1) (hQ.b1 hi) rfl 7 (by decide) (hg _ gm_fieldLink_RX4_46_ErrandGuild_Kin_nextSibling_LErrandGuild_Run_) (fun _ h9 => h9) rfl (by decide +kernel) rfl rfl (Nat.le_of_ble_eq_true rfl) dX4_begin_75 (fun H locs hP hD hS => ?_)
  obtain ⟨ws_48, K_47, eK_47, hP, hD, hQ⟩ : ∃ (ws_48 : va_W) (K_47 : Nat → Nat → Option Nat), K_47 = u2 K_42 i 4 none ∧ va_P (dC, dI) vwCl ws_48 H ∧ va_D A ws_48 ∧ Pic9 kc ws_48 ad ga gc M n f T G_30 K_47 F := ⟨_, _, rfl, hP, hD, hQ.kinR hi 4 7 (by decide) none⟩
  have i3_49 : i3 M K_47 := by rw [eK_47]; exact i3.pK i3_44 i 4 (fun _ h => by cases h)
  have i4_50 : i4 M K_47 := by rw [eK_47]; exact i4.K4 i4_45 i (fun _ h => by cases h)
  have i5_51 : i5 n K_47 := by rw [eK_47]; exact i5.pK i5_46 i _ (by decide)
  refine lv_aload_n hx hb dX4_begin_78 rfl (lv_at hl 0 rfl) ?_
  refine lv_iconst (v := 0) hx hb dX4_begin_79 (by decide) ?_
  refine va_put (D := (dC, dI)) (ci := 4) (v := .int (0)) (ty := .int) (C := RX4) (T := TX4) (N := 9) hx hb hg gb_4 tyX4 tyX4_ok nmX4 hown hK hP hD hS (50 + 16 * i + 1) (hQ.b1 hi) rfl 8 (by decide) (hg _ gm_fieldLink_RX4_49_ErrandGuild_Kin_children_I_) (fun _ h9 => h9) rfl (by decide +kernel) rfl rfl (Nat.le_of_ble_eq_true rfl) dX4_begin_80 (fun H locs hP hD hS => ?_)
  obtain ⟨ws_53, G_52, eG_52, hP, hD, hQ⟩ : ∃ (ws_53 : va_W) (G_52 : Nat → Nat → Int32), G_52 = u2 G_30 i 13 0 ∧ va_P (dC, dI) vwCl ws_53 H ∧ va_D A ws_53 ∧ Pic9 kc ws_53 ad ga gc M n f T G_52 K_47 F := ⟨_, _, rfl, hP, hD, hQ.kinI hi 13 8 (by decide) 0⟩
  have i6_54 : i6 n T G_52 := by rw [eG_52]; exact (i6.pG i6_32 i _ (by decide))
  have i7_55 : i7 n G_52 := by rw [eG_52]; exact (i7.pG i7_33 i _ (by decide))
  have i8_56 : i8 M n gc G_52 := by rw [eG_52]; exact (i8.pG i8_34 i _ (by decide))
  have i9_57 : i9 M gc G_52 R := by rw [eG_52]; exact (i9.pG i9_35 i _ (by decide))
  have eg_58 : G_52 i 13 = 0 := by rw [eG_52, u2_eq]
  refine W_msr2 (fun hm1 hm2 hm3 => ?_)
  exact W.vret hx hb hr (fun t ht hW => ⟨⟨(ad, ga, gc, M, n, f, T, G_52, K_47, F), rfl, ⟨fun a => by show G_52 a 2 = G a 2; rw [eG_52]; (repeat rw [u2_n2 _ _ _ _ (show (2 : Nat) ≠ _ by decide)]); rw [eG_30]; (repeat rw [u2_n2 _ _ _ _ (show (2 : Nat) ≠ _ by decide)]); rw [eG_23]; (repeat rw [u2_n2 _ _ _ _ (show (2 : Nat) ≠ _ by decide)]); rw [eG_16]; (repeat rw [u2_n2 _ _ _ _ (show (2 : Nat) ≠ _ by decide)]), fun a => by show G_52 a 3 = G a 3; rw [eG_52]; (repeat rw [u2_n2 _ _ _ _ (show (3 : Nat) ≠ _ by decide)]); rw [eG_30]; (repeat rw [u2_n2 _ _ _ _ (show (3 : Nat) ≠ _ by decide)]); rw [eG_23]; (repeat rw [u2_n2 _ _ _ _ (show (3 : Nat) ≠ _ by decide)]); rw [eG_16]; (repeat rw [u2_n2 _ _ _ _ (show (3 : Nat) ≠ _ by decide)]), by show K_47 i 3 = none; rw [eK_47, u2_n2 _ _ _ _ (by decide), eK_42, u2_eq], fun a ha => by show K_47 a = K a; rw [eK_47, u2_n1 _ _ _ ha]; rw [eK_42, u2_n1 _ _ _ ha]; rw [eK_37, u2_n1 _ _ _ ha]; rw [eK_10, u2_n1 _ _ _ ha]; rw [eK_1, u2_n1 _ _ _ ha]⟩, ws_53, by rw [ht]; exact hP, hD, hQ, ⟨h_i1, h_i2, i3_49, i4_50, i5_51, i6_54, i7_55, i8_56, i9_57⟩, by rw [ht]; show hpS H + (260 * M + 2 * S9 M gc) ≤ hpS s.heap + (260 * M + 2 * S9 M gc); omega, by rw [ht]; show 16 * H.size + (256 * M + S9 M gc) ≤ 16 * s.heap.size + (256 * M + S9 M gc); omega⟩, hS.F ht⟩) hS.2.2 dX4_begin_83

set_option maxHeartbeats 8000000 in
set_option maxRecDepth 100000 in
theorem c_X7_begin_n (l : Launch) (dC : Nat → ClassId) (dI : Nat → Nat → Nat) (kc : Nat → ClassId) (ws : va_W) (ad : Nat → Nat) (ga : Nat → Nat) (gc : Nat → Nat) (M : Nat) (n : Nat → Int32) (f : Nat → Nat → Int32) (T : Nat → Option Nat) (G : Nat → Nat → Int32) (K : Nat → Nat → Option Nat) (F : Nat → Nat → Nat → Int32) (R : Nat) (i : Nat) (v1 : Int32) (sz hz : Nat) (hQ : Pic9 kc ws ad ga gc M n f T G K F) (hI : I9 M n T gc G K R) (hi : i < M) : Met l yX7_begin (.code yX7_begin cX7_begin 3 none :: gw) ({ frames := 1, cells := 0, slots := 0, locals := 21 }) (va_Pc [.ref (ad (50 + 16 * i)), .int v1, .null] (fun U => U.heap.size = sz ∧ hpS U.heap = hz ∧ va_P (dC, dI) vwCl ws U.heap ∧ va_K (dC, dI) vwCl (t9 kc) U ∧ va_D (fun _ => True) ws ∧ nx U)) (va_Qv (fun (u : (Nat → Nat) × (Nat → Nat) × (Nat → Nat) × Nat × (Nat → Int32) × (Nat → Nat → Int32) × (Nat → Option Nat) × (Nat → Nat → Int32) × (Nat → Nat → Option Nat) × (Nat → Nat → Nat → Int32)) => (u.2.2.2.2.2.2.2.1 i 2).toInt = 0 ∧ (u.2.2.2.2.2.2.2.1 i 3).toInt = -1 ∧ u.2.2.2.2.2.2.2.2.1 i 3 = none ∧ (∀ a : Nat, a ≠ i → u.2.2.2.2.2.2.2.2.1 a = K a)) (fun u t => ∃ w : va_W, va_P (dC, dI) vwCl w t.heap ∧ va_D (va_A ws sz) w ∧ Pic9 kc w ad ga gc M n f T u.2.2.2.2.2.2.2.1 u.2.2.2.2.2.2.2.2.1 u.2.2.2.2.2.2.2.2.2 ∧ I9 M n T gc u.2.2.2.2.2.2.2.1 u.2.2.2.2.2.2.2.2.1 R ∧ hpS t.heap + (260 * M + 2 * S9 M gc) ≤ hz + (260 * M + 2 * S9 M gc) ∧ 16 * t.heap.size + (256 * M + S9 M gc) ≤ 16 * sz + (256 * M + S9 M gc)) (va_A ws sz)) 0 0 (va_A ws sz) := by
  refine Met.ofW (cc := cX7_begin) (maxL := 3) (ret := none) (by decide) rfl ?_
  intro p e s m args below meth c s₁ B hml hv
  obtain ⟨rfl, hsz, rfl, hP, hK, hD0, hN⟩ := hv
  have hx := B.exec
  have hb := B.bytes
  have hr := B.returns
  have hts := atoms_spec (ws := .code yX7_begin cX7_begin 3 none :: gw) B.pre
  have hg : ∀ w ∈ gw, w.before _ s = true := fun w h => hts w (List.mem_cons_of_mem _ h)
  have hown : s.vm.findClass RX7 = some m.cls := findClass_of_methodNamed B.named
  have hlocks := B.notSynchronized
  subst hsz
  have hD := hD0.self (sz := s.heap.size)
  generalize hAe : va_A ws s.heap.size = A at hD ⊢
  have hA : ∀ q : Nat, s.heap.size ≤ q → A q := fun q h => by rw [← hAe]; exact Or.inr h
  clear hAe
  have hS : va_S A s.heap s.heap [] := va_S.rf
  have hl := lv_entry ([.ref (ad (50 + 16 * i)), .int v1, .null]) (n := 3) (Nat.le_of_ble_eq_true rfl)
  rw [lg_entry_eq]
  generalize (lg_sl ([.ref (ad (50 + 16 * i)), .int v1, .null]) ++ List.replicate (3 - (lg_sl ([.ref (ad (50 + 16 * i)), .int v1, .null])).length) Slot.unset).toArray = ls at hl ⊢
  have hl : lv_has ls 3 [(0, .ref (ad (50 + 16 * i))), (1, .int v1), (2, .null)] := hl
  obtain ⟨h_i1, h_i2, h_i3, h_i4, h_i5, h_i6, h_i7, h_i8, h_i9⟩ := id hI
  have q1_ := h_i1
  unfold i1 at q1_
  refine lv_aload_n hx hb dX7_begin_0 rfl (lv_at hl 0 rfl) ?_
  refine lv_iload_n hx hb dX7_begin_1 rfl (lv_at hl 1 rfl) ?_
  refine va_put (D := (dC, dI)) (ci := 7) (v := .int (v1)) (ty := .int) (C := RX7) (T := TX7) (N := 15) hx hb hg gb_7 tyX7 tyX7_ok nmX7 hown hK hP hD hS (50 + 16 * i) (hQ.b0 hi) rfl 1 (by decide) (hg _ gm_fieldLink_RX7_53_ErrandGuild_Run_errand_I_) (fun _ h9 => h9) rfl (by decide +kernel) rfl rfl (Nat.le_of_ble_eq_true rfl) dX7_begin_2 (fun H locs hP hD hS => ?_)
  obtain ⟨ws_2, G_1, eG_1, hP, hD, hQ⟩ : ∃ (ws_2 : va_W) (G_1 : Nat → Nat → Int32), G_1 = u2 G i 1 v1 ∧ va_P (dC, dI) vwCl ws_2 H ∧ va_D A ws_2 ∧ Pic9 kc ws_2 ad ga gc M n f T G_1 K F := ⟨_, _, rfl, hP, hD, hQ.run hi 1 (by decide) v1⟩
  have i6_3 : i6 n T G_1 := by rw [eG_1]; exact (i6.pG h_i6 i _ (by decide))
  have i7_4 : i7 n G_1 := by rw [eG_1]; exact (i7.pG h_i7 i _ (by decide))
  have i8_5 : i8 M n gc G_1 := by rw [eG_1]; exact (i8.pG h_i8 i _ (by decide))
  have i9_6 : i9 M gc G_1 R := by rw [eG_1]; exact (i9.pG h_i9 i _ (by decide))
  have eg_7 : G_1 i 1 = v1 := by rw [eG_1, u2_eq]
  refine lv_aload_n hx hb dX7_begin_5 rfl (lv_at hl 0 rfl) ?_
  refine lv_iconst (v := 0) hx hb dX7_begin_6 (by decide) ?_
  refine va_put (D := (dC, dI)) (ci := 7) (v := .int (0)) (ty := .int) (C := RX7) (T := TX7) (N := 15) hx hb hg gb_7 tyX7 tyX7_ok nmX7 hown hK hP hD hS (50 + 16 * i) (hQ.b0 hi) rfl 2 (by decide) (hg _ gm_fieldLink_RX7_56_ErrandGuild_Run_state_I_) (fun _ h9 => h9) rfl (by decide +kernel) rfl rfl (Nat.le_of_ble_eq_true rfl) dX7_begin_7 (fun H locs hP hD hS => ?_)
  obtain ⟨ws_9, G_8, eG_8, hP, hD, hQ⟩ : ∃ (ws_9 : va_W) (G_8 : Nat → Nat → Int32), G_8 = u2 G_1 i 2 0 ∧ va_P (dC, dI) vwCl ws_9 H ∧ va_D A ws_9 ∧ Pic9 kc ws_9 ad ga gc M n f T G_8 K F := ⟨_, _, rfl, hP, hD, hQ.run hi 2 (by decide) 0⟩
  have i6_10 : i6 n T G_8 := by rw [eG_8]; exact (i6.pG i6_3 i _ (by decide))
  have i7_11 : i7 n G_8 := by rw [eG_8]; exact (i7.st i7_4 i (by decide))
  have i8_12 : i8 M n gc G_8 := by rw [eG_8]; exact (i8.pG i8_5 i _ (by decide))
  have i9_13 : i9 M gc G_8 R := by rw [eG_8]; exact (i9.pG i9_6 i _ (by decide))
  have eg_14 : G_8 i 2 = 0 := by rw [eG_8, u2_eq]
  refine lv_aload_n hx hb dX7_begin_10 rfl (lv_at hl 0 rfl) ?_
  refine lv_iconst (v := -1) hx hb dX7_begin_11 (by decide) ?_
  refine va_put (D := (dC, dI)) (ci := 7) (v := .int (-1)) (ty := .int) (C := RX7) (T := TX7) (N := 15) hx hb hg gb_7 tyX7 tyX7_ok nmX7 hown hK hP hD hS (50 + 16 * i) (hQ.b0 hi) rfl 3 (by decide) (hg _ gm_fieldLink_RX7_59_ErrandGuild_Run_thread_I_) (fun _ h9 => h9) rfl (by decide +kernel) rfl rfl (Nat.le_of_ble_eq_true rfl) dX7_begin_12 (fun H locs hP hD hS => ?_)
  obtain ⟨ws_16, G_15, eG_15, hP, hD, hQ⟩ : ∃ (ws_16 : va_W) (G_15 : Nat → Nat → Int32), G_15 = u2 G_8 i 3 (-1) ∧ va_P (dC, dI) vwCl ws_16 H ∧ va_D A ws_16 ∧ Pic9 kc ws_16 ad ga gc M n f T G_15 K F := ⟨_, _, rfl, hP, hD, hQ.run hi 3 (by decide) (-1)⟩
  have i6_17 : i6 n T G_15 := by rw [eG_15]; exact i6.off i6_10 i (by decide)
  have i7_18 : i7 n G_15 := by rw [eG_15]; exact i7.off i7_11 _ (by rw [eg_14]; decide)
  have i8_19 : i8 M n gc G_15 := by rw [eG_15]; exact (i8.pG i8_12 i _ (by decide))
  have i9_20 : i9 M gc G_15 R := by rw [eG_15]; exact (i9.pG i9_13 i _ (by decide))
  have eg_21 : G_15 i 3 = (-1) := by rw [eG_15, u2_eq]
  refine lv_aload_n hx hb dX7_begin_15 rfl (lv_at hl 0 rfl) ?_
  refine lv_iconst (v := 0) hx hb dX7_begin_16 (by decide) ?_
  refine va_put (D := (dC, dI)) (ci := 7) (v := .int (0)) (ty := .int) (C := RX7) (T := TX7) (N := 15) hx hb hg gb_7 tyX7 tyX7_ok nmX7 hown hK hP hD hS (50 + 16 * i) (hQ.b0 hi) rfl 4 (by decide) (hg _ gm_fieldLink_RX7_62_ErrandGuild_Run_visits_I_) (fun _ h9 => h9) rfl (by decide +kernel) rfl rfl (Nat.le_of_ble_eq_true rfl) dX7_begin_17 (fun H locs hP hD hS => ?_)
  obtain ⟨ws_23, G_22, eG_22, hP, hD, hQ⟩ : ∃ (ws_23 : va_W) (G_22 : Nat → Nat → Int32), G_22 = u2 G_15 i 4 0 ∧ va_P (dC, dI) vwCl ws_23 H ∧ va_D A ws_23 ∧ Pic9 kc ws_23 ad ga gc M n f T G_22 K F := ⟨_, _, rfl, hP, hD, hQ.run hi 4 (by decide) 0⟩
  have i6_24 : i6 n T G_22 := by rw [eG_22]; exact (i6.pG i6_17 i _ (by decide))
  have i7_25 : i7 n G_22 := by rw [eG_22]; exact (i7.pG i7_18 i _ (by decide))
  have i8_26 : i8 M n gc G_22 := by rw [eG_22]; exact (i8.pG i8_19 i _ (by decide))
  have i9_27 : i9 M gc G_22 R := by rw [eG_22]; exact (i9.pG i9_20 i _ (by decide))
  have eg_28 : G_22 i 4 = 0 := by rw [eG_22, u2_eq]
  refine lv_aload_n hx hb dX7_begin_20 rfl (lv_at hl 0 rfl) ?_
  refine lv_iconst (v := 0) hx hb dX7_begin_21 (by decide) ?_
  refine va_put (D := (dC, dI)) (ci := 7) (v := .int (0)) (ty := .int) (C := RX7) (T := TX7) (N := 15) hx hb hg gb_7 tyX7 tyX7_ok nmX7 hown hK hP hD hS (50 + 16 * i) (hQ.b0 hi) rfl 5 (by decide) (hg _ gm_fieldLink_RX7_65_ErrandGuild_Run_sum_I_) (fun _ h9 => h9) rfl (by decide +kernel) rfl rfl (Nat.le_of_ble_eq_true rfl) dX7_begin_22 (fun H locs hP hD hS => ?_)
  obtain ⟨ws_30, G_29, eG_29, hP, hD, hQ⟩ : ∃ (ws_30 : va_W) (G_29 : Nat → Nat → Int32), G_29 = u2 G_22 i 5 0 ∧ va_P (dC, dI) vwCl ws_30 H ∧ va_D A ws_30 ∧ Pic9 kc ws_30 ad ga gc M n f T G_29 K F := ⟨_, _, rfl, hP, hD, hQ.run hi 5 (by decide) 0⟩
  have i6_31 : i6 n T G_29 := by rw [eG_29]; exact (i6.pG i6_24 i _ (by decide))
  have i7_32 : i7 n G_29 := by rw [eG_29]; exact (i7.pG i7_25 i _ (by decide))
  have i8_33 : i8 M n gc G_29 := by rw [eG_29]; exact (i8.pG i8_26 i _ (by decide))
  have i9_34 : i9 M gc G_29 R := by rw [eG_29]; exact (i9.pG i9_27 i _ (by decide))
  have eg_35 : G_29 i 5 = 0 := by rw [eG_29, u2_eq]
  refine lv_aload_n hx hb dX7_begin_25 rfl (lv_at hl 0 rfl) ?_
  refine lv_iconst (v := 0) hx hb dX7_begin_26 (by decide) ?_
  refine va_put (D := (dC, dI)) (ci := 7) (v := .int (0)) (ty := .int) (C := RX7) (T := TX7) (N := 15) hx hb hg gb_7 tyX7 tyX7_ok nmX7 hown hK hP hD hS (50 + 16 * i) (hQ.b0 hi) rfl 6 (by decide) (hg _ gm_fieldLink_RX7_68_ErrandGuild_Run_place_I_) (fun _ h9 => h9) rfl (by decide +kernel) rfl rfl (Nat.le_of_ble_eq_true rfl) dX7_begin_27 (fun H locs hP hD hS => ?_)
  obtain ⟨ws_37, G_36, eG_36, hP, hD, hQ⟩ : ∃ (ws_37 : va_W) (G_36 : Nat → Nat → Int32), G_36 = u2 G_29 i 6 0 ∧ va_P (dC, dI) vwCl ws_37 H ∧ va_D A ws_37 ∧ Pic9 kc ws_37 ad ga gc M n f T G_36 K F := ⟨_, _, rfl, hP, hD, hQ.run hi 6 (by decide) 0⟩
  have i6_38 : i6 n T G_36 := by rw [eG_36]; exact (i6.pG i6_31 i _ (by decide))
  have i7_39 : i7 n G_36 := by rw [eG_36]; exact (i7.pG i7_32 i _ (by decide))
  have i8_40 : i8 M n gc G_36 := by rw [eG_36]; exact (i8.pG i8_33 i _ (by decide))
  have i9_41 : i9 M gc G_36 R := by rw [eG_36]; exact (i9.pG i9_34 i _ (by decide))
  have eg_42 : G_36 i 6 = 0 := by rw [eG_36, u2_eq]
  refine lv_aload_n hx hb dX7_begin_30 rfl (lv_at hl 0 rfl) ?_
  refine lv_iconst (v := -1) hx hb dX7_begin_31 (by decide) ?_
  refine va_put (D := (dC, dI)) (ci := 7) (v := .int (-1)) (ty := .int) (C := RX7) (T := TX7) (N := 15) hx hb hg gb_7 tyX7 tyX7_ok nmX7 hown hK hP hD hS (50 + 16 * i) (hQ.b0 hi) rfl 7 (by decide) (hg _ gm_fieldLink_RX7_71_ErrandGuild_Run_overBeat_I_) (fun _ h9 => h9) rfl (by decide +kernel) rfl rfl (Nat.le_of_ble_eq_true rfl) dX7_begin_32 (fun H locs hP hD hS => ?_)
  obtain ⟨ws_44, G_43, eG_43, hP, hD, hQ⟩ : ∃ (ws_44 : va_W) (G_43 : Nat → Nat → Int32), G_43 = u2 G_36 i 7 (-1) ∧ va_P (dC, dI) vwCl ws_44 H ∧ va_D A ws_44 ∧ Pic9 kc ws_44 ad ga gc M n f T G_43 K F := ⟨_, _, rfl, hP, hD, hQ.run hi 7 (by decide) (-1)⟩
  have i6_45 : i6 n T G_43 := by rw [eG_43]; exact (i6.pG i6_38 i _ (by decide))
  have i7_46 : i7 n G_43 := by rw [eG_43]; exact (i7.pG i7_39 i _ (by decide))
  have i8_47 : i8 M n gc G_43 := by rw [eG_43]; exact (i8.pG i8_40 i _ (by decide))
  have i9_48 : i9 M gc G_43 R := by rw [eG_43]; exact (i9.pG i9_41 i _ (by decide))
  have eg_49 : G_43 i 7 = (-1) := by rw [eG_43, u2_eq]
  refine lv_aload_n hx hb dX7_begin_35 rfl (lv_at hl 0 rfl) ?_
  refine lv_iconst (v := 0) hx hb dX7_begin_36 (by decide) ?_
  refine va_put (D := (dC, dI)) (ci := 7) (v := .int (0)) (ty := .boolean) (C := RX7) (T := TX7) (N := 15) hx hb hg gb_7 tyX7 tyX7_ok nmX7 hown hK hP hD hS (50 + 16 * i) (hQ.b0 hi) rfl 8 (by decide) (hg _ gm_fieldLink_RX7_74_ErrandGuild_Run_interrupted_Z_) (fun _ h9 => h9) rfl (by decide +kernel) rfl rfl (Nat.le_of_ble_eq_true rfl) dX7_begin_37 (fun H locs hP hD hS => ?_)
  obtain ⟨ws_51, G_50, eG_50, hP, hD, hQ⟩ : ∃ (ws_51 : va_W) (G_50 : Nat → Nat → Int32), G_50 = u2 G_43 i 8 0 ∧ va_P (dC, dI) vwCl ws_51 H ∧ va_D A ws_51 ∧ Pic9 kc ws_51 ad ga gc M n f T G_50 K F := ⟨_, _, rfl, hP, hD, hQ.run hi 8 (by decide) 0⟩
  have i6_52 : i6 n T G_50 := by rw [eG_50]; exact (i6.pG i6_45 i _ (by decide))
  have i7_53 : i7 n G_50 := by rw [eG_50]; exact (i7.pG i7_46 i _ (by decide))
  have i8_54 : i8 M n gc G_50 := by rw [eG_50]; exact (i8.pG i8_47 i _ (by decide))
  have i9_55 : i9 M gc G_50 R := by rw [eG_50]; exact (i9.pG i9_48 i _ (by decide))
  have eg_56 : G_50 i 8 = 0 := by rw [eG_50, u2_eq]
  refine lv_aload_n hx hb dX7_begin_40 rfl (lv_at hl 0 rfl) ?_
  refine lv_iconst (v := 0) hx hb dX7_begin_41 (by decide) ?_
  refine va_put (D := (dC, dI)) (ci := 7) (v := .int (0)) (ty := .boolean) (C := RX7) (T := TX7) (N := 15) hx hb hg gb_7 tyX7 tyX7_ok nmX7 hown hK hP hD hS (50 + 16 * i) (hQ.b0 hi) rfl 9 (by decide) (hg _ gm_fieldLink_RX7_78_ErrandGuild_Run_returning_Z_) (fun _ h9 => h9) rfl (by decide +kernel) rfl rfl (Nat.le_of_ble_eq_true rfl) dX7_begin_42 (fun H locs hP hD hS => ?_)
  obtain ⟨ws_58, G_57, eG_57, hP, hD, hQ⟩ : ∃ (ws_58 : va_W) (G_57 : Nat → Nat → Int32), G_57 = u2 G_50 i 9 0 ∧ va_P (dC, dI) vwCl ws_58 H ∧ va_D A ws_58 ∧ Pic9 kc ws_58 ad ga gc M n f T G_57 K F := ⟨_, _, rfl, hP, hD, hQ.run hi 9 (by decide) 0⟩
  have i6_59 : i6 n T G_57 := by rw [eG_57]; exact (i6.pG i6_52 i _ (by decide))
  have i7_60 : i7 n G_57 := by rw [eG_57]; exact (i7.pG i7_53 i _ (by decide))
  have i8_61 : i8 M n gc G_57 := by rw [eG_57]; exact (i8.pG i8_54 i _ (by decide))
  have i9_62 : i9 M gc G_57 R := by rw [eG_57]; exact (i9.pG i9_55 i _ (by decide))
  have eg_63 : G_57 i 9 = 0 := by rw [eG_57, u2_eq]
  refine lv_aload_n hx hb dX7_begin_45 rfl (lv_at hl 0 rfl) ?_
  refine va_get (D := (dC, dI)) (ci := 7) (v := .ref (ad (50 + 16 * i + 1))) (C := RX7) (T := TX7) (N := 15) hx hb hg gb_7 hown hK hP (50 + 16 * i) (hQ.b0 hi) rfl 10 (by decide) (hg _ gm_fieldLink_RX7_12_ErrandGuild_Run_kin_LErrandGuild_Kin_) (fun _ h9 => h9) rfl dX7_begin_46 ?_
  refine lv_aload_nN hx hb dX7_begin_49 rfl (lv_at hl 2 rfl) ?_
  have hFc := free_all hD hS hA
  refine va_callv (va_runV (As := [.null]) (rest := []) ⟨hx, hb, hml, hown, hg⟩ (c_X4_begin_n l dC dI kc ws_58 ad ga gc M n f T G_57 K F R i H.size (hpS H) hQ ⟨h_i1, h_i2, h_i3, h_i4, h_i5, i6_59, i7_60, i8_61, i9_62⟩ (by show i < M; omega)) (cwV 1 hg (gw_V gm_methodLink_RX7_81_yX4_begin gm_instanceMethod_yX4_begin gm_selects_RX4_yX4_begin_yX4_begin gm_initialized_RX4 gm_code_yX4_begin_cX4_begin_2_none) rfl rfl rfl (by decide +kernel) ⟨Nat.le_of_ble_eq_true rfl, Nat.le_of_ble_eq_true rfl⟩) ⟨fun a U g mk q => by obtain ⟨q0, q1, q2, qP, qK, qD, qN⟩ := q; exact ⟨q0, q1, q2, qP, va_K.moved (u := U) (U := U.calling g mk a) (Vm.Alike.refl U.vm) qK, qD, nx_same (u := U) (U := U.calling g mk a) rfl qN⟩, va_recv hK hP (ci := 4) (q0 := (50 + 16 * i + 1)) rfl (hQ.b1 hi), fun U hU hW => ⟨rfl, by rw [hU], by rw [hU], by rw [hU]; exact hP, va_K.moved hW.alike hK, hD.weaken (fun _ _ _ _ => trivial), nx_warm hW hN⟩⟩ rfl rfl hl.1 rfl (lv_room (Nat.le_of_ble_eq_true rfl)) dX7_begin_50 ⟨Nat.le_of_ble_eq_true rfl, Nat.le_of_ble_eq_true rfl⟩) hS (fun q _ h => hFc q h) hFc (fun u_65 t H1 locs ht hvm hw hB hz1 hk1 hS => ?_)
  obtain ⟨ad_66, ga_67, gc_68, M_69, n_70, f_71, T_72, G_73, K_74, F_75⟩ := u_65
  have hB : ∃ w : va_W, va_P (dC, dI) vwCl w t.heap ∧ va_D (va_A ws_58 H.size) w ∧ Pic9 kc w ad ga gc M n f T G_73 K_74 F ∧ I9 M n T gc G_73 K_74 R ∧ hpS t.heap + (260 * M + 2 * S9 M gc) ≤ hpS H + (260 * M + 2 * S9 M gc) ∧ 16 * t.heap.size + (256 * M + S9 M gc) ≤ 16 * H.size + (256 * M + S9 M gc) := hB
  rw [ht] at hB
  obtain ⟨ws_76, hP, hD, hQ, hI_77, hy1, hy2⟩ := hB
  have hD := hD.weaken (fun k q _ h => hFc _ h)
  obtain ⟨i1_78, i2_79, i3_80, i4_81, i5_82, i6_83, i7_84, i8_85, i9_86⟩ := id hI_77
  have q1_ := i1_78
  unfold i1 at q1_
  generalize H1 = H at hP hS ⊢
  have w_87 : (∀ a : Nat, G_73 a 2 = G_57 a 2) ∧ (∀ a : Nat, G_73 a 3 = G_57 a 3) ∧ K_74 i 3 = none ∧ (∀ a : Nat, a ≠ i → K_74 a = K a) := hw
  refine lv_aload_n hx hb dX7_begin_53 rfl (lv_at hl 0 rfl) ?_
  refine va_get (D := (dC, dI)) (ci := 7) (v := .ref (ad (50 + 16 * i + 2))) (C := RX7) (T := TX7) (N := 15) hx hb hg gb_7 hown hK hP (50 + 16 * i) (hQ.b0 hi) rfl 11 (by decide) (hg _ gm_fieldLink_RX7_21_ErrandGuild_Run_memory_LErrandGuild_Memory_) (fun _ h9 => h9) rfl dX7_begin_54 ?_
  have hCc : ([(50 + 16 * i + 2), (50 + 16 * i + 3), (50 + 16 * i + 5)] : List Nat).map (fun i => ws_76[i]?) = ([(ad (50 + 16 * i + 2), .inr (6, [.ref (ad (50 + 16 * i + 3)), .ref (ad (50 + 16 * i + 4)), .ref (ad (50 + 16 * i + 5))])), (ad (50 + 16 * i + 3), .inl (kc 1, 8, .inl (F i 0))), (ad (50 + 16 * i + 5), .inl (kc 0, 8, .inl (F i 2)))] : va_W).map some := mp3 (hQ.b2 hi) (hQ.b3 hi) (hQ.b5 hi)
  have hNd : ([(50 + 16 * i + 2), (50 + 16 * i + 3), (50 + 16 * i + 5)] : List Nat).Nodup := (nd_off (50 + 16 * i) (l := [2, 3, 5]) (by decide))
  have hPc := hP.pick [(50 + 16 * i + 2), (50 + 16 * i + 3), (50 + 16 * i + 5)] hCc
  have hDc := hD.pick [(50 + 16 * i + 2), (50 + 16 * i + 3), (50 + 16 * i + 5)] hNd hCc
  have hKc := hK.sub (tys' := [((kc 1), .boolean), ((kc 0), .int)]) [1, 0] rfl
  have hFc := va_free (wc := [(ad (50 + 16 * i + 2), .inr (6, [.ref (ad (50 + 16 * i + 3)), .ref (ad (50 + 16 * i + 4)), .ref (ad (50 + 16 * i + 5))])), (ad (50 + 16 * i + 3), .inl (kc 1, 8, .inl (F i 0))), (ad (50 + 16 * i + 5), .inl (kc 0, 8, .inl (F i 2)))]) hD hS hA [(50 + 16 * i + 2), (50 + 16 * i + 3), (50 + 16 * i + 5)] hCc
  refine va_callv (va_runV (As := []) (rest := []) ⟨hx, hb, hml, hown, hg⟩ (c_X6_clear l dC dI (ad (50 + 16 * i + 2)) (ad (50 + 16 * i + 3)) (ad (50 + 16 * i + 4)) (ad (50 + 16 * i + 5)) (kc 1) (kc 0) (F i 0) (F i 2) H.size ) (cwV 0 hg (gw_V gm_methodLink_RX7_85_yX6_clear gm_instanceMethod_yX6_clear gm_selects_RX6_yX6_clear_yX6_clear gm_initialized_RX6 gm_code_yX6_clear_cX6_clear_2_none) rfl rfl rfl (by decide +kernel) ⟨Nat.le_of_ble_eq_true rfl, Nat.le_of_ble_eq_true rfl⟩) ⟨fun a U g mk q => by obtain ⟨q0, q1, qP, qK, qD, qN⟩ := q; exact ⟨q0, q1, qP, va_K.moved (u := U) (U := U.calling g mk a) (Vm.Alike.refl U.vm) qK, qD, nx_same (u := U) (U := U.calling g mk a) rfl qN⟩, va_recv hK hP (ci := 6) (q0 := (50 + 16 * i + 2)) rfl (hQ.b2 hi), fun U hU hW => ⟨rfl, by rw [hU], by rw [hU]; exact hPc, va_K.moved hW.alike hKc, hDc.weaken (fun _ _ _ _ => trivial), nx_warm hW hN⟩⟩ rfl rfl hl.1 rfl (lv_room (Nat.le_of_ble_eq_true rfl)) dX7_begin_57 ⟨Nat.le_of_ble_eq_true rfl, Nat.le_of_ble_eq_true rfl⟩) hS (fun q _ h => hFc q h) hFc (fun u_89 t H1 locs ht hvm hw hB hz1 hk1 hS => ?_)
  obtain ⟨ad_90, ac_91, af_92, ag_93⟩ := u_89
  obtain ⟨hP1, hD1, hK1⟩ := hB
  rw [ht] at hP1
  obtain ⟨hP, hD⟩ := va_repl (w1 := [((ad (50 + 16 * i + 2)), .inr (6, [.ref (ad (50 + 16 * i + 3)), .ref (ad (50 + 16 * i + 4)), .ref (ad (50 + 16 * i + 5))])), ((ad (50 + 16 * i + 3)), .inl ((kc 1), 8, .inl (af_92 0))), ((ad (50 + 16 * i + 5)), .inl ((kc 0), 8, .inl (af_92 2)))]) hP hD [(50 + 16 * i + 2), (50 + 16 * i + 3), (50 + 16 * i + 5)] hCc hNd rfl hk1 hFc hP1 hD1
  obtain ⟨ws_95, F_94, eF_94, hP, hD, hQ⟩ : ∃ (ws_95 : va_W) (F_94 : Nat → Nat → Nat → Int32), F_94 = u2 (u2 F i 0 (af_92 0)) i 2 (af_92 2) ∧ va_P (dC, dI) vwCl ws_95 H1 ∧ va_D A ws_95 ∧ Pic9 kc ws_95 ad ga gc M n f T G_73 K_74 F_94 := ⟨_, _, rfl, hP, hD, ((hQ.same (hQ.b2 hi)).arr hi 3 0 (by decide) (af_92 0) rfl).arr hi 5 2 (by decide) (af_92 2) rfl⟩
  generalize H1 = H at hP hS ⊢
  refine lv_aload_n hx hb dX7_begin_60 rfl (lv_at hl 0 rfl) ?_
  refine va_get (D := (dC, dI)) (ci := 7) (v := .ref (ad (50 + 16 * i + 6))) (C := RX7) (T := TX7) (N := 15) hx hb hg gb_7 hown hK hP (50 + 16 * i) (hQ.b0 hi) rfl 12 (by decide) (hg _ gm_fieldLink_RX7_28_ErrandGuild_Run_scopes_LErrandGuild_Scopes_) (fun _ h9 => h9) rfl dX7_begin_61 ?_
  have hCc : ([(50 + 16 * i + 6)] : List Nat).map (fun i => ws_95[i]?) = ([(ad (50 + 16 * i + 6), .inr (8, [.ref (ad (50 + 16 * i + 7)), .ref (ad (50 + 16 * i + 8)), .ref (ad (50 + 16 * i + 9)), .int (G_73 i 14), .ref (ad (50 + 16 * i + 10)), .ref (ad (50 + 16 * i + 11)), .ref (ad (50 + 16 * i + 12)), .int (G_73 i 15), .int (G_73 i 16)]))] : va_W).map some := mp1 (hQ.b6 hi)
  have hNd : ([(50 + 16 * i + 6)] : List Nat).Nodup := (nd_off (50 + 16 * i) (l := [6]) (by decide))
  have hPc := hP.pick [(50 + 16 * i + 6)] hCc
  have hDc := hD.pick [(50 + 16 * i + 6)] hNd hCc
  have hKc := hK.sub (tys' := []) [] rfl
  have hFc := va_free (wc := [(ad (50 + 16 * i + 6), .inr (8, [.ref (ad (50 + 16 * i + 7)), .ref (ad (50 + 16 * i + 8)), .ref (ad (50 + 16 * i + 9)), .int (G_73 i 14), .ref (ad (50 + 16 * i + 10)), .ref (ad (50 + 16 * i + 11)), .ref (ad (50 + 16 * i + 12)), .int (G_73 i 15), .int (G_73 i 16)]))]) hD hS hA [(50 + 16 * i + 6)] hCc
  refine va_callv (va_runV (As := []) (rest := []) ⟨hx, hb, hml, hown, hg⟩ (c_X8_clear l dC dI (ad (50 + 16 * i + 6)) (ad (50 + 16 * i + 7)) (ad (50 + 16 * i + 8)) (ad (50 + 16 * i + 9)) (ad (50 + 16 * i + 10)) (ad (50 + 16 * i + 11)) (ad (50 + 16 * i + 12)) (G_73 i 14) (G_73 i 15) (G_73 i 16) H.size ) (cwV 0 hg (gw_V gm_methodLink_RX7_88_yX8_clear gm_instanceMethod_yX8_clear gm_selects_RX8_yX8_clear_yX8_clear gm_initialized_RX8 gm_code_yX8_clear_cX8_clear_1_none) rfl rfl rfl (by decide +kernel) ⟨Nat.le_of_ble_eq_true rfl, Nat.le_of_ble_eq_true rfl⟩) ⟨fun a U g mk q => by obtain ⟨q0, q1, qP, qK, qD, qN⟩ := q; exact ⟨q0, q1, qP, va_K.moved (u := U) (U := U.calling g mk a) (Vm.Alike.refl U.vm) qK, qD, nx_same (u := U) (U := U.calling g mk a) rfl qN⟩, va_recv hK hP (ci := 8) (q0 := (50 + 16 * i + 6)) rfl (hQ.b6 hi), fun U hU hW => ⟨rfl, by rw [hU], by rw [hU]; exact hPc, va_K.moved hW.alike hKc, hDc.weaken (fun _ _ _ _ => trivial), nx_warm hW hN⟩⟩ rfl rfl hl.1 rfl (lv_room (Nat.le_of_ble_eq_true rfl)) dX7_begin_64 ⟨Nat.le_of_ble_eq_true rfl, Nat.le_of_ble_eq_true rfl⟩) hS (fun q _ h => hFc q h) hFc (fun u_97 t H1 locs ht hvm hw hB hz1 hk1 hS => ?_)
  obtain ⟨ad_98, ac_99, af_100, ag_101⟩ := u_97
  obtain ⟨hP1, hD1, hK1⟩ := hB
  rw [ht] at hP1
  obtain ⟨hP, hD⟩ := va_repl (w1 := [((ad (50 + 16 * i + 6)), .inr (8, [.ref (ad (50 + 16 * i + 7)), .ref (ad (50 + 16 * i + 8)), .ref (ad (50 + 16 * i + 9)), .int 0, .ref (ad (50 + 16 * i + 10)), .ref (ad (50 + 16 * i + 11)), .ref (ad (50 + 16 * i + 12)), .int 0, .int 0]))]) hP hD [(50 + 16 * i + 6)] hCc hNd rfl hk1 hFc hP1 hD1
  obtain ⟨ws_103, G_102, eG_102, hP, hD, hQ⟩ : ∃ (ws_103 : va_W) (G_102 : Nat → Nat → Int32), G_102 = u2 (u2 (u2 G_73 i 14 0) i 15 0) i 16 0 ∧ va_P (dC, dI) vwCl ws_103 H1 ∧ va_D A ws_103 ∧ Pic9 kc ws_103 ad ga gc M n f T G_102 K_74 F_94 := ⟨_, _, rfl, hP, hD, hQ.sco2 hi 0 0 0⟩
  have i6_104 : i6 n T G_102 := by rw [eG_102]; exact (i6.pG (i6.pG (i6.pG i6_83 i _ (by decide)) i _ (by decide)) i _ (by decide))
  have i7_105 : i7 n G_102 := by rw [eG_102]; exact (i7.pG (i7.pG (i7.pG i7_84 i _ (by decide)) i _ (by decide)) i _ (by decide))
  have i8_106 : i8 M n gc G_102 := by rw [eG_102]; exact (i8.pG (i8.pG (i8.pG i8_85 i _ (by decide)) i _ (by decide)) i _ (by decide))
  have i9_107 : i9 M gc G_102 R := by rw [eG_102]; exact (i9.pG (i9.pG (i9.pG i9_86 i _ (by decide)) i _ (by decide)) i _ (by decide))
  generalize H1 = H at hP hS ⊢
  refine lv_aload_n hx hb dX7_begin_67 rfl (lv_at hl 0 rfl) ?_
  refine va_get (D := (dC, dI)) (ci := 7) (v := .ref (ad (50 + 16 * i + 13))) (C := RX7) (T := TX7) (N := 15) hx hb hg gb_7 hown hK hP (50 + 16 * i) (hQ.b0 hi) rfl 13 (by decide) (hg _ gm_fieldLink_RX7_35_ErrandGuild_Run_fault_LErrandGuild_Fault_) (fun _ h9 => h9) rfl dX7_begin_68 ?_
  have hCc : ([(50 + 16 * i + 13)] : List Nat).map (fun i => ws_103[i]?) = ([(ad (50 + 16 * i + 13), .inr (2, [.int (G_102 i 17), .int (G_102 i 18), .int (G_102 i 19), .int (G_102 i 20), .int (G_102 i 21)]))] : va_W).map some := mp1 (hQ.b13 hi)
  have hNd : ([(50 + 16 * i + 13)] : List Nat).Nodup := (nd_off (50 + 16 * i) (l := [13]) (by decide))
  have hPc := hP.pick [(50 + 16 * i + 13)] hCc
  have hDc := hD.pick [(50 + 16 * i + 13)] hNd hCc
  have hKc := hK.sub (tys' := []) [] rfl
  have hFc := va_free (wc := [(ad (50 + 16 * i + 13), .inr (2, [.int (G_102 i 17), .int (G_102 i 18), .int (G_102 i 19), .int (G_102 i 20), .int (G_102 i 21)]))]) hD hS hA [(50 + 16 * i + 13)] hCc
  refine va_callv (va_runV (As := []) (rest := []) ⟨hx, hb, hml, hown, hg⟩ (c_X2_clear l dC dI (ad (50 + 16 * i + 13)) (G_102 i 17) (G_102 i 18) (G_102 i 19) (G_102 i 20) (G_102 i 21) H.size ) (cwV 0 hg (gw_V gm_methodLink_RX7_89_yX2_clear gm_instanceMethod_yX2_clear gm_selects_RX2_yX2_clear_yX2_clear gm_initialized_RX2 gm_code_yX2_clear_cX2_clear_1_none) rfl rfl rfl (by decide +kernel) ⟨Nat.le_of_ble_eq_true rfl, Nat.le_of_ble_eq_true rfl⟩) ⟨fun a U g mk q => by obtain ⟨q0, q1, qP, qK, qD, qN⟩ := q; exact ⟨q0, q1, qP, va_K.moved (u := U) (U := U.calling g mk a) (Vm.Alike.refl U.vm) qK, qD, nx_same (u := U) (U := U.calling g mk a) rfl qN⟩, va_recv hK hP (ci := 2) (q0 := (50 + 16 * i + 13)) rfl (hQ.b13 hi), fun U hU hW => ⟨rfl, by rw [hU], by rw [hU]; exact hPc, va_K.moved hW.alike hKc, hDc.weaken (fun _ _ _ _ => trivial), nx_warm hW hN⟩⟩ rfl rfl hl.1 rfl (lv_room (Nat.le_of_ble_eq_true rfl)) dX7_begin_71 ⟨Nat.le_of_ble_eq_true rfl, Nat.le_of_ble_eq_true rfl⟩) hS (fun q _ h => hFc q h) hFc (fun u_109 t H1 locs ht hvm hw hB hz1 hk1 hS => ?_)
  obtain ⟨ad_110, ac_111, af_112, ag_113⟩ := u_109
  obtain ⟨hP1, hD1, hK1⟩ := hB
  rw [ht] at hP1
  obtain ⟨hP, hD⟩ := va_repl (w1 := [((ad (50 + 16 * i + 13)), .inr (2, [.int (-1), .int (-1), .int (-1), .int 0, .int 0]))]) hP hD [(50 + 16 * i + 13)] hCc hNd rfl hk1 hFc hP1 hD1
  obtain ⟨ws_115, G_114, eG_114, hP, hD, hQ⟩ : ∃ (ws_115 : va_W) (G_114 : Nat → Nat → Int32), G_114 = u2 (u2 (u2 (u2 (u2 G_102 i 17 (-1)) i 18 (-1)) i 19 (-1)) i 20 0) i 21 0 ∧ va_P (dC, dI) vwCl ws_115 H1 ∧ va_D A ws_115 ∧ Pic9 kc ws_115 ad ga gc M n f T G_114 K_74 F_94 := ⟨_, _, rfl, hP, hD, hQ.flt2 hi (-1) (-1) (-1) 0 0⟩
  have i6_116 : i6 n T G_114 := by rw [eG_114]; exact (i6.pG (i6.pG (i6.pG (i6.pG (i6.pG i6_104 i _ (by decide)) i _ (by decide)) i _ (by decide)) i _ (by decide)) i _ (by decide))
  have i7_117 : i7 n G_114 := by rw [eG_114]; exact (i7.pG (i7.pG (i7.pG (i7.pG (i7.pG i7_105 i _ (by decide)) i _ (by decide)) i _ (by decide)) i _ (by decide)) i _ (by decide))
  have i8_118 : i8 M n gc G_114 := by rw [eG_114]; exact (i8.pG (i8.pG (i8.pG (i8.pG (i8.pG i8_106 i _ (by decide)) i _ (by decide)) i _ (by decide)) i _ (by decide)) i _ (by decide))
  have i9_119 : i9 M gc G_114 R := by rw [eG_114]; exact (i9.pG (i9.pG (i9.pG (i9.pG (i9.pG i9_107 i _ (by decide)) i _ (by decide)) i _ (by decide)) i _ (by decide)) i _ (by decide))
  generalize H1 = H at hP hS ⊢
  refine lv_aload_n hx hb dX7_begin_74 rfl (lv_at hl 0 rfl) ?_
  refine va_get (D := (dC, dI)) (ci := 7) (v := .ref (ad (50 + 16 * i + 14))) (C := RX7) (T := TX7) (N := 15) hx hb hg gb_7 hown hK hP (50 + 16 * i) (hQ.b0 hi) rfl 14 (by decide) (hg _ gm_fieldLink_RX7_45_ErrandGuild_Run_remarks_LErrandGuild_Cells_) (fun _ h9 => h9) rfl dX7_begin_75 ?_
  have hCc : ([(50 + 16 * i + 14)] : List Nat).map (fun i => ws_115[i]?) = ([(ad (50 + 16 * i + 14), .inr (0, [.int (G_114 i 22), .ref (ga (3 + i)), .int (G_114 i 23)]))] : va_W).map some := mp1 (hQ.b14 hi)
  have hNd : ([(50 + 16 * i + 14)] : List Nat).Nodup := (nd_off (50 + 16 * i) (l := [14]) (by decide))
  have hPc := hP.pick [(50 + 16 * i + 14)] hCc
  have hDc := hD.pick [(50 + 16 * i + 14)] hNd hCc
  have hKc := hK.sub (tys' := []) [] rfl
  have hFc := va_free (wc := [(ad (50 + 16 * i + 14), .inr (0, [.int (G_114 i 22), .ref (ga (3 + i)), .int (G_114 i 23)]))]) hD hS hA [(50 + 16 * i + 14)] hCc
  refine va_callv (va_runV (As := []) (rest := []) ⟨hx, hb, hml, hown, hg⟩ (c_X0_clear l dC dI (ad (50 + 16 * i + 14)) (ga (3 + i)) (G_114 i 22) (G_114 i 23) H.size ) (cwV 0 hg (gw_V gm_methodLink_RX7_90_yX0_clear gm_instanceMethod_yX0_clear gm_selects_RX0_yX0_clear_yX0_clear gm_initialized_RX0 gm_code_yX0_clear_cX0_clear_1_none) rfl rfl rfl (by decide +kernel) ⟨Nat.le_of_ble_eq_true rfl, Nat.le_of_ble_eq_true rfl⟩) ⟨fun a U g mk q => by obtain ⟨q0, q1, qP, qK, qD, qN⟩ := q; exact ⟨q0, q1, qP, va_K.moved (u := U) (U := U.calling g mk a) (Vm.Alike.refl U.vm) qK, qD, nx_same (u := U) (U := U.calling g mk a) rfl qN⟩, va_recv hK hP (ci := 0) (q0 := (50 + 16 * i + 14)) rfl (hQ.b14 hi), fun U hU hW => ⟨rfl, by rw [hU], by rw [hU]; exact hPc, va_K.moved hW.alike hKc, hDc.weaken (fun _ _ _ _ => trivial), nx_warm hW hN⟩⟩ rfl rfl hl.1 rfl (lv_room (Nat.le_of_ble_eq_true rfl)) dX7_begin_78 ⟨Nat.le_of_ble_eq_true rfl, Nat.le_of_ble_eq_true rfl⟩) hS (fun q _ h => hFc q h) hFc (fun u_121 t H1 locs ht hvm hw hB hz1 hk1 hS => ?_)
  obtain ⟨ad_122, ac_123, af_124, ag_125⟩ := u_121
  obtain ⟨hP1, hD1, hK1⟩ := hB
  rw [ht] at hP1
  obtain ⟨hP, hD⟩ := va_repl (w1 := [((ad (50 + 16 * i + 14)), .inr (0, [.int (G_114 i 22), .ref (ga (3 + i)), .int 0]))]) hP hD [(50 + 16 * i + 14)] hCc hNd rfl hk1 hFc hP1 hD1
  obtain ⟨ws_127, G_126, eG_126, hP, hD, hQ⟩ : ∃ (ws_127 : va_W) (G_126 : Nat → Nat → Int32), G_126 = u2 G_114 i 23 0 ∧ va_P (dC, dI) vwCl ws_127 H1 ∧ va_D A ws_127 ∧ Pic9 kc ws_127 ad ga gc M n f T G_126 K_74 F_94 := ⟨_, _, rfl, hP, hD, hQ.remC hi 0⟩
  have i6_128 : i6 n T G_126 := by rw [eG_126]; exact (i6.pG i6_116 i _ (by decide))
  have i7_129 : i7 n G_126 := by rw [eG_126]; exact (i7.pG i7_117 i _ (by decide))
  have i8_130 : i8 M n gc G_126 := by rw [eG_126]; exact (i8.pG i8_118 i _ (by decide))
  have i9_131 : i9 M gc G_126 R := by rw [eG_126]; exact (i9.clr i9_119 i)
  generalize H1 = H at hP hS ⊢
  refine W_msr2 (fun hm1 hm2 hm3 => ?_)
  exact W.vret hx hb hr (fun t ht hW => ⟨⟨(ad, ga, gc, M, n, f, T, G_126, K_74, F_94), rfl, ⟨by show (G_126 i 2).toInt = 0; rw [eG_126]; (repeat rw [u2_n2 _ _ _ _ (show (2 : Nat) ≠ _ by decide)]); rw [eG_114]; (repeat rw [u2_n2 _ _ _ _ (show (2 : Nat) ≠ _ by decide)]); rw [eG_102]; (repeat rw [u2_n2 _ _ _ _ (show (2 : Nat) ≠ _ by decide)]); rw [w_87.1]; rw [eG_57]; (repeat rw [u2_n2 _ _ _ _ (show (2 : Nat) ≠ _ by decide)]); rw [eG_50]; (repeat rw [u2_n2 _ _ _ _ (show (2 : Nat) ≠ _ by decide)]); rw [eG_43]; (repeat rw [u2_n2 _ _ _ _ (show (2 : Nat) ≠ _ by decide)]); rw [eG_36]; (repeat rw [u2_n2 _ _ _ _ (show (2 : Nat) ≠ _ by decide)]); rw [eG_29]; (repeat rw [u2_n2 _ _ _ _ (show (2 : Nat) ≠ _ by decide)]); rw [eG_22]; (repeat rw [u2_n2 _ _ _ _ (show (2 : Nat) ≠ _ by decide)]); rw [eG_15]; (repeat rw [u2_n2 _ _ _ _ (show (2 : Nat) ≠ _ by decide)]); rw [eG_8, u2_eq]; decide, by show (G_126 i 3).toInt = -1; rw [eG_126]; (repeat rw [u2_n2 _ _ _ _ (show (3 : Nat) ≠ _ by decide)]); rw [eG_114]; (repeat rw [u2_n2 _ _ _ _ (show (3 : Nat) ≠ _ by decide)]); rw [eG_102]; (repeat rw [u2_n2 _ _ _ _ (show (3 : Nat) ≠ _ by decide)]); rw [w_87.2.1]; rw [eG_57]; (repeat rw [u2_n2 _ _ _ _ (show (3 : Nat) ≠ _ by decide)]); rw [eG_50]; (repeat rw [u2_n2 _ _ _ _ (show (3 : Nat) ≠ _ by decide)]); rw [eG_43]; (repeat rw [u2_n2 _ _ _ _ (show (3 : Nat) ≠ _ by decide)]); rw [eG_36]; (repeat rw [u2_n2 _ _ _ _ (show (3 : Nat) ≠ _ by decide)]); rw [eG_29]; (repeat rw [u2_n2 _ _ _ _ (show (3 : Nat) ≠ _ by decide)]); rw [eG_22]; (repeat rw [u2_n2 _ _ _ _ (show (3 : Nat) ≠ _ by decide)]); rw [eG_15, u2_eq]; decide, by show K_74 i 3 = none; exact w_87.2.2.1, fun a ha => by show K_74 a = K a; exact w_87.2.2.2 a ha⟩, ws_127, by rw [ht]; exact hP, hD, hQ, ⟨i1_78, i2_79, i3_80, i4_81, i5_82, i6_128, i7_129, i8_130, i9_131⟩, by rw [ht]; show hpS H + (260 * M + 2 * S9 M gc) ≤ hpS s.heap + (260 * M + 2 * S9 M gc); omega, by rw [ht]; show 16 * H.size + (256 * M + S9 M gc) ≤ 16 * s.heap.size + (256 * M + S9 M gc); omega⟩, hS.F ht⟩) hS.2.2 dX7_begin_81

set_option maxHeartbeats 8000000 in
set_option maxRecDepth 100000 in
theorem c_X7_begin_r (l : Launch) (dC : Nat → ClassId) (dI : Nat → Nat → Nat) (kc : Nat → ClassId) (ws : va_W) (ad : Nat → Nat) (ga : Nat → Nat) (gc : Nat → Nat) (M : Nat) (n : Nat → Int32) (f : Nat → Nat → Int32) (T : Nat → Option Nat) (G : Nat → Nat → Int32) (K : Nat → Nat → Option Nat) (F : Nat → Nat → Nat → Int32) (R : Nat) (i : Nat) (v1 : Int32) (q : Nat) (sz hz : Nat) (hQ : Pic9 kc ws ad ga gc M n f T G K F) (hI : I9 M n T gc G K R) (hi : i < M) (hq : q < M) : Met l yX7_begin (.code yX7_begin cX7_begin 3 none :: gw) ({ frames := 2, cells := 0, slots := 0, locals := 41 }) (va_Pc [.ref (ad (50 + 16 * i)), .int v1, .ref (ad (50 + 16 * q))] (fun U => U.heap.size = sz ∧ hpS U.heap = hz ∧ va_P (dC, dI) vwCl ws U.heap ∧ va_K (dC, dI) vwCl (t9 kc) U ∧ va_D (fun _ => True) ws ∧ nx U)) (va_Qv (fun (u : (Nat → Nat) × (Nat → Nat) × (Nat → Nat) × Nat × (Nat → Int32) × (Nat → Nat → Int32) × (Nat → Option Nat) × (Nat → Nat → Int32) × (Nat → Nat → Option Nat) × (Nat → Nat → Nat → Int32)) => (u.2.2.2.2.2.2.2.1 i 2).toInt = 0 ∧ (u.2.2.2.2.2.2.2.1 i 3).toInt = -1 ∧ u.2.2.2.2.2.2.2.2.1 i 3 = none ∧ (∀ a : Nat, a ≠ i → u.2.2.2.2.2.2.2.2.1 a = K a)) (fun u t => ∃ w : va_W, va_P (dC, dI) vwCl w t.heap ∧ va_D (va_A ws sz) w ∧ Pic9 kc w ad ga gc M n f T u.2.2.2.2.2.2.2.1 u.2.2.2.2.2.2.2.2.1 u.2.2.2.2.2.2.2.2.2 ∧ I9 M n T gc u.2.2.2.2.2.2.2.1 u.2.2.2.2.2.2.2.2.1 R ∧ hpS t.heap + (260 * M + 2 * S9 M gc) ≤ hz + (260 * M + 2 * S9 M gc) ∧ 16 * t.heap.size + (256 * M + S9 M gc) ≤ 16 * sz + (256 * M + S9 M gc)) (va_A ws sz)) 0 0 (va_A ws sz) := by
  refine Met.ofW (cc := cX7_begin) (maxL := 3) (ret := none) (by decide) rfl ?_
  intro p e s m args below meth c s₁ B hml hv
  obtain ⟨rfl, hsz, rfl, hP, hK, hD0, hN⟩ := hv
  have hx := B.exec
  have hb := B.bytes
  have hr := B.returns
  have hts := atoms_spec (ws := .code yX7_begin cX7_begin 3 none :: gw) B.pre
  have hg : ∀ w ∈ gw, w.before _ s = true := fun w h => hts w (List.mem_cons_of_mem _ h)
  have hown : s.vm.findClass RX7 = some m.cls := findClass_of_methodNamed B.named
  have hlocks := B.notSynchronized
  subst hsz
  have hD := hD0.self (sz := s.heap.size)
  generalize hAe : va_A ws s.heap.size = A at hD ⊢
  have hA : ∀ q : Nat, s.heap.size ≤ q → A q := fun q h => by rw [← hAe]; exact Or.inr h
  clear hAe
  have hS : va_S A s.heap s.heap [] := va_S.rf
  have hl := lv_entry ([.ref (ad (50 + 16 * i)), .int v1, .ref (ad (50 + 16 * q))]) (n := 3) (Nat.le_of_ble_eq_true rfl)
  rw [lg_entry_eq]
  generalize (lg_sl ([.ref (ad (50 + 16 * i)), .int v1, .ref (ad (50 + 16 * q))]) ++ List.replicate (3 - (lg_sl ([.ref (ad (50 + 16 * i)), .int v1, .ref (ad (50 + 16 * q))])).length) Slot.unset).toArray = ls at hl ⊢
  have hl : lv_has ls 3 [(0, .ref (ad (50 + 16 * i))), (1, .int v1), (2, .ref (ad (50 + 16 * q)))] := hl
  obtain ⟨h_i1, h_i2, h_i3, h_i4, h_i5, h_i6, h_i7, h_i8, h_i9⟩ := id hI
  have q1_ := h_i1
  unfold i1 at q1_
  refine lv_aload_n hx hb dX7_begin_0 rfl (lv_at hl 0 rfl) ?_
  refine lv_iload_n hx hb dX7_begin_1 rfl (lv_at hl 1 rfl) ?_
  refine va_put (D := (dC, dI)) (ci := 7) (v := .int (v1)) (ty := .int) (C := RX7) (T := TX7) (N := 15) hx hb hg gb_7 tyX7 tyX7_ok nmX7 hown hK hP hD hS (50 + 16 * i) (hQ.b0 hi) rfl 1 (by decide) (hg _ gm_fieldLink_RX7_53_ErrandGuild_Run_errand_I_) (fun _ h9 => h9) rfl (by decide +kernel) rfl rfl (Nat.le_of_ble_eq_true rfl) dX7_begin_2 (fun H locs hP hD hS => ?_)
  obtain ⟨ws_2, G_1, eG_1, hP, hD, hQ⟩ : ∃ (ws_2 : va_W) (G_1 : Nat → Nat → Int32), G_1 = u2 G i 1 v1 ∧ va_P (dC, dI) vwCl ws_2 H ∧ va_D A ws_2 ∧ Pic9 kc ws_2 ad ga gc M n f T G_1 K F := ⟨_, _, rfl, hP, hD, hQ.run hi 1 (by decide) v1⟩
  have i6_3 : i6 n T G_1 := by rw [eG_1]; exact (i6.pG h_i6 i _ (by decide))
  have i7_4 : i7 n G_1 := by rw [eG_1]; exact (i7.pG h_i7 i _ (by decide))
  have i8_5 : i8 M n gc G_1 := by rw [eG_1]; exact (i8.pG h_i8 i _ (by decide))
  have i9_6 : i9 M gc G_1 R := by rw [eG_1]; exact (i9.pG h_i9 i _ (by decide))
  have eg_7 : G_1 i 1 = v1 := by rw [eG_1, u2_eq]
  refine lv_aload_n hx hb dX7_begin_5 rfl (lv_at hl 0 rfl) ?_
  refine lv_iconst (v := 0) hx hb dX7_begin_6 (by decide) ?_
  refine va_put (D := (dC, dI)) (ci := 7) (v := .int (0)) (ty := .int) (C := RX7) (T := TX7) (N := 15) hx hb hg gb_7 tyX7 tyX7_ok nmX7 hown hK hP hD hS (50 + 16 * i) (hQ.b0 hi) rfl 2 (by decide) (hg _ gm_fieldLink_RX7_56_ErrandGuild_Run_state_I_) (fun _ h9 => h9) rfl (by decide +kernel) rfl rfl (Nat.le_of_ble_eq_true rfl) dX7_begin_7 (fun H locs hP hD hS => ?_)
  obtain ⟨ws_9, G_8, eG_8, hP, hD, hQ⟩ : ∃ (ws_9 : va_W) (G_8 : Nat → Nat → Int32), G_8 = u2 G_1 i 2 0 ∧ va_P (dC, dI) vwCl ws_9 H ∧ va_D A ws_9 ∧ Pic9 kc ws_9 ad ga gc M n f T G_8 K F := ⟨_, _, rfl, hP, hD, hQ.run hi 2 (by decide) 0⟩
  have i6_10 : i6 n T G_8 := by rw [eG_8]; exact (i6.pG i6_3 i _ (by decide))
  have i7_11 : i7 n G_8 := by rw [eG_8]; exact (i7.st i7_4 i (by decide))
  have i8_12 : i8 M n gc G_8 := by rw [eG_8]; exact (i8.pG i8_5 i _ (by decide))
  have i9_13 : i9 M gc G_8 R := by rw [eG_8]; exact (i9.pG i9_6 i _ (by decide))
  have eg_14 : G_8 i 2 = 0 := by rw [eG_8, u2_eq]
  refine lv_aload_n hx hb dX7_begin_10 rfl (lv_at hl 0 rfl) ?_
  refine lv_iconst (v := -1) hx hb dX7_begin_11 (by decide) ?_
  refine va_put (D := (dC, dI)) (ci := 7) (v := .int (-1)) (ty := .int) (C := RX7) (T := TX7) (N := 15) hx hb hg gb_7 tyX7 tyX7_ok nmX7 hown hK hP hD hS (50 + 16 * i) (hQ.b0 hi) rfl 3 (by decide) (hg _ gm_fieldLink_RX7_59_ErrandGuild_Run_thread_I_) (fun _ h9 => h9) rfl (by decide +kernel) rfl rfl (Nat.le_of_ble_eq_true rfl) dX7_begin_12 (fun H locs hP hD hS => ?_)
  obtain ⟨ws_16, G_15, eG_15, hP, hD, hQ⟩ : ∃ (ws_16 : va_W) (G_15 : Nat → Nat → Int32), G_15 = u2 G_8 i 3 (-1) ∧ va_P (dC, dI) vwCl ws_16 H ∧ va_D A ws_16 ∧ Pic9 kc ws_16 ad ga gc M n f T G_15 K F := ⟨_, _, rfl, hP, hD, hQ.run hi 3 (by decide) (-1)⟩
  have i6_17 : i6 n T G_15 := by rw [eG_15]; exact i6.off i6_10 i (by decide)
  have i7_18 : i7 n G_15 := by rw [eG_15]; exact i7.off i7_11 _ (by rw [eg_14]; decide)
  have i8_19 : i8 M n gc G_15 := by rw [eG_15]; exact (i8.pG i8_12 i _ (by decide))
  have i9_20 : i9 M gc G_15 R := by rw [eG_15]; exact (i9.pG i9_13 i _ (by decide))
  have eg_21 : G_15 i 3 = (-1) := by rw [eG_15, u2_eq]
  refine lv_aload_n hx hb dX7_begin_15 rfl (lv_at hl 0 rfl) ?_
  refine lv_iconst (v := 0) hx hb dX7_begin_16 (by decide) ?_
  refine va_put (D := (dC, dI)) (ci := 7) (v := .int (0)) (ty := .int) (C := RX7) (T := TX7) (N := 15) hx hb hg gb_7 tyX7 tyX7_ok nmX7 hown hK hP hD hS (50 + 16 * i) (hQ.b0 hi) rfl 4 (by decide) (hg _ gm_fieldLink_RX7_62_ErrandGuild_Run_visits_I_) (fun _ h9 => h9) rfl (by decide +kernel) rfl rfl (Nat.le_of_ble_eq_true rfl) dX7_begin_17 (fun H locs hP hD hS => ?_)
  obtain ⟨ws_23, G_22, eG_22, hP, hD, hQ⟩ : ∃ (ws_23 : va_W) (G_22 : Nat → Nat → Int32), G_22 = u2 G_15 i 4 0 ∧ va_P (dC, dI) vwCl ws_23 H ∧ va_D A ws_23 ∧ Pic9 kc ws_23 ad ga gc M n f T G_22 K F := ⟨_, _, rfl, hP, hD, hQ.run hi 4 (by decide) 0⟩
  have i6_24 : i6 n T G_22 := by rw [eG_22]; exact (i6.pG i6_17 i _ (by decide))
  have i7_25 : i7 n G_22 := by rw [eG_22]; exact (i7.pG i7_18 i _ (by decide))
  have i8_26 : i8 M n gc G_22 := by rw [eG_22]; exact (i8.pG i8_19 i _ (by decide))
  have i9_27 : i9 M gc G_22 R := by rw [eG_22]; exact (i9.pG i9_20 i _ (by decide))
  have eg_28 : G_22 i 4 = 0 := by rw [eG_22, u2_eq]
  refine lv_aload_n hx hb dX7_begin_20 rfl (lv_at hl 0 rfl) ?_
  refine lv_iconst (v := 0) hx hb dX7_begin_21 (by decide) ?_
  refine va_put (D := (dC, dI)) (ci := 7) (v := .int (0)) (ty := .int) (C := RX7) (T := TX7) (N := 15) hx hb hg gb_7 tyX7 tyX7_ok nmX7 hown hK hP hD hS (50 + 16 * i) (hQ.b0 hi) rfl 5 (by decide) (hg _ gm_fieldLink_RX7_65_ErrandGuild_Run_sum_I_) (fun _ h9 => h9) rfl (by decide +kernel) rfl rfl (Nat.le_of_ble_eq_true rfl) dX7_begin_22 (fun H locs hP hD hS => ?_)
  obtain ⟨ws_30, G_29, eG_29, hP, hD, hQ⟩ : ∃ (ws_30 : va_W) (G_29 : Nat → Nat → Int32), G_29 = u2 G_22 i 5 0 ∧ va_P (dC, dI) vwCl ws_30 H ∧ va_D A ws_30 ∧ Pic9 kc ws_30 ad ga gc M n f T G_29 K F := ⟨_, _, rfl, hP, hD, hQ.run hi 5 (by decide) 0⟩
  have i6_31 : i6 n T G_29 := by rw [eG_29]; exact (i6.pG i6_24 i _ (by decide))
  have i7_32 : i7 n G_29 := by rw [eG_29]; exact (i7.pG i7_25 i _ (by decide))
  have i8_33 : i8 M n gc G_29 := by rw [eG_29]; exact (i8.pG i8_26 i _ (by decide))
  have i9_34 : i9 M gc G_29 R := by rw [eG_29]; exact (i9.pG i9_27 i _ (by decide))
  have eg_35 : G_29 i 5 = 0 := by rw [eG_29, u2_eq]
  refine lv_aload_n hx hb dX7_begin_25 rfl (lv_at hl 0 rfl) ?_
  refine lv_iconst (v := 0) hx hb dX7_begin_26 (by decide) ?_
  refine va_put (D := (dC, dI)) (ci := 7) (v := .int (0)) (ty := .int) (C := RX7) (T := TX7) (N := 15) hx hb hg gb_7 tyX7 tyX7_ok nmX7 hown hK hP hD hS (50 + 16 * i) (hQ.b0 hi) rfl 6 (by decide) (hg _ gm_fieldLink_RX7_68_ErrandGuild_Run_place_I_) (fun _ h9 => h9) rfl (by decide +kernel) rfl rfl (Nat.le_of_ble_eq_true rfl) dX7_begin_27 (fun H locs hP hD hS => ?_)
  obtain ⟨ws_37, G_36, eG_36, hP, hD, hQ⟩ : ∃ (ws_37 : va_W) (G_36 : Nat → Nat → Int32), G_36 = u2 G_29 i 6 0 ∧ va_P (dC, dI) vwCl ws_37 H ∧ va_D A ws_37 ∧ Pic9 kc ws_37 ad ga gc M n f T G_36 K F := ⟨_, _, rfl, hP, hD, hQ.run hi 6 (by decide) 0⟩
  have i6_38 : i6 n T G_36 := by rw [eG_36]; exact (i6.pG i6_31 i _ (by decide))
  have i7_39 : i7 n G_36 := by rw [eG_36]; exact (i7.pG i7_32 i _ (by decide))
  have i8_40 : i8 M n gc G_36 := by rw [eG_36]; exact (i8.pG i8_33 i _ (by decide))
  have i9_41 : i9 M gc G_36 R := by rw [eG_36]; exact (i9.pG i9_34 i _ (by decide))
  have eg_42 : G_36 i 6 = 0 := by rw [eG_36, u2_eq]
  refine lv_aload_n hx hb dX7_begin_30 rfl (lv_at hl 0 rfl) ?_
  refine lv_iconst (v := -1) hx hb dX7_begin_31 (by decide) ?_
  refine va_put (D := (dC, dI)) (ci := 7) (v := .int (-1)) (ty := .int) (C := RX7) (T := TX7) (N := 15) hx hb hg gb_7 tyX7 tyX7_ok nmX7 hown hK hP hD hS (50 + 16 * i) (hQ.b0 hi) rfl 7 (by decide) (hg _ gm_fieldLink_RX7_71_ErrandGuild_Run_overBeat_I_) (fun _ h9 => h9) rfl (by decide +kernel) rfl rfl (Nat.le_of_ble_eq_true rfl) dX7_begin_32 (fun H locs hP hD hS => ?_)
  obtain ⟨ws_44, G_43, eG_43, hP, hD, hQ⟩ : ∃ (ws_44 : va_W) (G_43 : Nat → Nat → Int32), G_43 = u2 G_36 i 7 (-1) ∧ va_P (dC, dI) vwCl ws_44 H ∧ va_D A ws_44 ∧ Pic9 kc ws_44 ad ga gc M n f T G_43 K F := ⟨_, _, rfl, hP, hD, hQ.run hi 7 (by decide) (-1)⟩
  have i6_45 : i6 n T G_43 := by rw [eG_43]; exact (i6.pG i6_38 i _ (by decide))
  have i7_46 : i7 n G_43 := by rw [eG_43]; exact (i7.pG i7_39 i _ (by decide))
  have i8_47 : i8 M n gc G_43 := by rw [eG_43]; exact (i8.pG i8_40 i _ (by decide))
  have i9_48 : i9 M gc G_43 R := by rw [eG_43]; exact (i9.pG i9_41 i _ (by decide))
  have eg_49 : G_43 i 7 = (-1) := by rw [eG_43, u2_eq]
  refine lv_aload_n hx hb dX7_begin_35 rfl (lv_at hl 0 rfl) ?_
  refine lv_iconst (v := 0) hx hb dX7_begin_36 (by decide) ?_
  refine va_put (D := (dC, dI)) (ci := 7) (v := .int (0)) (ty := .boolean) (C := RX7) (T := TX7) (N := 15) hx hb hg gb_7 tyX7 tyX7_ok nmX7 hown hK hP hD hS (50 + 16 * i) (hQ.b0 hi) rfl 8 (by decide) (hg _ gm_fieldLink_RX7_74_ErrandGuild_Run_interrupted_Z_) (fun _ h9 => h9) rfl (by decide +kernel) rfl rfl (Nat.le_of_ble_eq_true rfl) dX7_begin_37 (fun H locs hP hD hS => ?_)
  obtain ⟨ws_51, G_50, eG_50, hP, hD, hQ⟩ : ∃ (ws_51 : va_W) (G_50 : Nat → Nat → Int32), G_50 = u2 G_43 i 8 0 ∧ va_P (dC, dI) vwCl ws_51 H ∧ va_D A ws_51 ∧ Pic9 kc ws_51 ad ga gc M n f T G_50 K F := ⟨_, _, rfl, hP, hD, hQ.run hi 8 (by decide) 0⟩
  have i6_52 : i6 n T G_50 := by rw [eG_50]; exact (i6.pG i6_45 i _ (by decide))
  have i7_53 : i7 n G_50 := by rw [eG_50]; exact (i7.pG i7_46 i _ (by decide))
  have i8_54 : i8 M n gc G_50 := by rw [eG_50]; exact (i8.pG i8_47 i _ (by decide))
  have i9_55 : i9 M gc G_50 R := by rw [eG_50]; exact (i9.pG i9_48 i _ (by decide))
  have eg_56 : G_50 i 8 = 0 := by rw [eG_50, u2_eq]
  refine lv_aload_n hx hb dX7_begin_40 rfl (lv_at hl 0 rfl) ?_
  refine lv_iconst (v := 0) hx hb dX7_begin_41 (by decide) ?_
  refine va_put (D := (dC, dI)) (ci := 7) (v := .int (0)) (ty := .boolean) (C := RX7) (T := TX7) (N := 15) hx hb hg gb_7 tyX7 tyX7_ok nmX7 hown hK hP hD hS (50 + 16 * i) (hQ.b0 hi) rfl 9 (by decide) (hg _ gm_fieldLink_RX7_78_ErrandGuild_Run_returning_Z_) (fun _ h9 => h9) rfl (by decide +kernel) rfl rfl (Nat.le_of_ble_eq_true rfl) dX7_begin_42 (fun H locs hP hD hS => ?_)
  obtain ⟨ws_58, G_57, eG_57, hP, hD, hQ⟩ : ∃ (ws_58 : va_W) (G_57 : Nat → Nat → Int32), G_57 = u2 G_50 i 9 0 ∧ va_P (dC, dI) vwCl ws_58 H ∧ va_D A ws_58 ∧ Pic9 kc ws_58 ad ga gc M n f T G_57 K F := ⟨_, _, rfl, hP, hD, hQ.run hi 9 (by decide) 0⟩
  have i6_59 : i6 n T G_57 := by rw [eG_57]; exact (i6.pG i6_52 i _ (by decide))
  have i7_60 : i7 n G_57 := by rw [eG_57]; exact (i7.pG i7_53 i _ (by decide))
  have i8_61 : i8 M n gc G_57 := by rw [eG_57]; exact (i8.pG i8_54 i _ (by decide))
  have i9_62 : i9 M gc G_57 R := by rw [eG_57]; exact (i9.pG i9_55 i _ (by decide))
  have eg_63 : G_57 i 9 = 0 := by rw [eG_57, u2_eq]
  refine lv_aload_n hx hb dX7_begin_45 rfl (lv_at hl 0 rfl) ?_
  refine va_get (D := (dC, dI)) (ci := 7) (v := .ref (ad (50 + 16 * i + 1))) (C := RX7) (T := TX7) (N := 15) hx hb hg gb_7 hown hK hP (50 + 16 * i) (hQ.b0 hi) rfl 10 (by decide) (hg _ gm_fieldLink_RX7_12_ErrandGuild_Run_kin_LErrandGuild_Kin_) (fun _ h9 => h9) rfl dX7_begin_46 ?_
  refine lv_aload_n hx hb dX7_begin_49 rfl (lv_at hl 2 rfl) ?_
  have hFc := free_all hD hS hA
  refine va_callv (va_runV (As := [.ref (ad (50 + 16 * q))]) (rest := []) ⟨hx, hb, hml, hown, hg⟩ (c_X4_begin_r l dC dI kc ws_58 ad ga gc M n f T G_57 K F R i q H.size (hpS H) hQ ⟨h_i1, h_i2, h_i3, h_i4, h_i5, i6_59, i7_60, i8_61, i9_62⟩ (by show i < M; omega) (by show q < M; omega)) (cwV 1 hg (gw_V gm_methodLink_RX7_81_yX4_begin gm_instanceMethod_yX4_begin gm_selects_RX4_yX4_begin_yX4_begin gm_initialized_RX4 gm_code_yX4_begin_cX4_begin_2_none) rfl rfl rfl (by decide +kernel) ⟨Nat.le_of_ble_eq_true rfl, Nat.le_of_ble_eq_true rfl⟩) ⟨fun a U g mk q => by obtain ⟨q0, q1, q2, qP, qK, qD, qN⟩ := q; exact ⟨q0, q1, q2, qP, va_K.moved (u := U) (U := U.calling g mk a) (Vm.Alike.refl U.vm) qK, qD, nx_same (u := U) (U := U.calling g mk a) rfl qN⟩, va_recv hK hP (ci := 4) (q0 := (50 + 16 * i + 1)) rfl (hQ.b1 hi), fun U hU hW => ⟨rfl, by rw [hU], by rw [hU], by rw [hU]; exact hP, va_K.moved hW.alike hK, hD.weaken (fun _ _ _ _ => trivial), nx_warm hW hN⟩⟩ rfl rfl hl.1 rfl (lv_room (Nat.le_of_ble_eq_true rfl)) dX7_begin_50 ⟨Nat.le_of_ble_eq_true rfl, Nat.le_of_ble_eq_true rfl⟩) hS (fun q _ h => hFc q h) hFc (fun u_65 t H1 locs ht hvm hw hB hz1 hk1 hS => ?_)
  obtain ⟨ad_66, ga_67, gc_68, M_69, n_70, f_71, T_72, G_73, K_74, F_75⟩ := u_65
  have hB : ∃ w : va_W, va_P (dC, dI) vwCl w t.heap ∧ va_D (va_A ws_58 H.size) w ∧ Pic9 kc w ad ga gc M n f T G_73 K_74 F ∧ I9 M n T gc G_73 K_74 R ∧ hpS t.heap + (260 * M + 2 * S9 M gc) ≤ hpS H + (260 * M + 2 * S9 M gc) ∧ 16 * t.heap.size + (256 * M + S9 M gc) ≤ 16 * H.size + (256 * M + S9 M gc) := hB
  rw [ht] at hB
  obtain ⟨ws_76, hP, hD, hQ, hI_77, hy1, hy2⟩ := hB
  have hD := hD.weaken (fun k q _ h => hFc _ h)
  obtain ⟨i1_78, i2_79, i3_80, i4_81, i5_82, i6_83, i7_84, i8_85, i9_86⟩ := id hI_77
  have q1_ := i1_78
  unfold i1 at q1_
  generalize H1 = H at hP hS ⊢
  have w_87 : (∀ a : Nat, G_73 a 2 = G_57 a 2) ∧ (∀ a : Nat, G_73 a 3 = G_57 a 3) ∧ K_74 i 3 = none ∧ (∀ a : Nat, a ≠ i → K_74 a = K a) := hw
  refine lv_aload_n hx hb dX7_begin_53 rfl (lv_at hl 0 rfl) ?_
  refine va_get (D := (dC, dI)) (ci := 7) (v := .ref (ad (50 + 16 * i + 2))) (C := RX7) (T := TX7) (N := 15) hx hb hg gb_7 hown hK hP (50 + 16 * i) (hQ.b0 hi) rfl 11 (by decide) (hg _ gm_fieldLink_RX7_21_ErrandGuild_Run_memory_LErrandGuild_Memory_) (fun _ h9 => h9) rfl dX7_begin_54 ?_
  have hCc : ([(50 + 16 * i + 2), (50 + 16 * i + 3), (50 + 16 * i + 5)] : List Nat).map (fun i => ws_76[i]?) = ([(ad (50 + 16 * i + 2), .inr (6, [.ref (ad (50 + 16 * i + 3)), .ref (ad (50 + 16 * i + 4)), .ref (ad (50 + 16 * i + 5))])), (ad (50 + 16 * i + 3), .inl (kc 1, 8, .inl (F i 0))), (ad (50 + 16 * i + 5), .inl (kc 0, 8, .inl (F i 2)))] : va_W).map some := mp3 (hQ.b2 hi) (hQ.b3 hi) (hQ.b5 hi)
  have hNd : ([(50 + 16 * i + 2), (50 + 16 * i + 3), (50 + 16 * i + 5)] : List Nat).Nodup := (nd_off (50 + 16 * i) (l := [2, 3, 5]) (by decide))
  have hPc := hP.pick [(50 + 16 * i + 2), (50 + 16 * i + 3), (50 + 16 * i + 5)] hCc
  have hDc := hD.pick [(50 + 16 * i + 2), (50 + 16 * i + 3), (50 + 16 * i + 5)] hNd hCc
  have hKc := hK.sub (tys' := [((kc 1), .boolean), ((kc 0), .int)]) [1, 0] rfl
  have hFc := va_free (wc := [(ad (50 + 16 * i + 2), .inr (6, [.ref (ad (50 + 16 * i + 3)), .ref (ad (50 + 16 * i + 4)), .ref (ad (50 + 16 * i + 5))])), (ad (50 + 16 * i + 3), .inl (kc 1, 8, .inl (F i 0))), (ad (50 + 16 * i + 5), .inl (kc 0, 8, .inl (F i 2)))]) hD hS hA [(50 + 16 * i + 2), (50 + 16 * i + 3), (50 + 16 * i + 5)] hCc
  refine va_callv (va_runV (As := []) (rest := []) ⟨hx, hb, hml, hown, hg⟩ (c_X6_clear l dC dI (ad (50 + 16 * i + 2)) (ad (50 + 16 * i + 3)) (ad (50 + 16 * i + 4)) (ad (50 + 16 * i + 5)) (kc 1) (kc 0) (F i 0) (F i 2) H.size ) (cwV 0 hg (gw_V gm_methodLink_RX7_85_yX6_clear gm_instanceMethod_yX6_clear gm_selects_RX6_yX6_clear_yX6_clear gm_initialized_RX6 gm_code_yX6_clear_cX6_clear_2_none) rfl rfl rfl (by decide +kernel) ⟨Nat.le_of_ble_eq_true rfl, Nat.le_of_ble_eq_true rfl⟩) ⟨fun a U g mk q => by obtain ⟨q0, q1, qP, qK, qD, qN⟩ := q; exact ⟨q0, q1, qP, va_K.moved (u := U) (U := U.calling g mk a) (Vm.Alike.refl U.vm) qK, qD, nx_same (u := U) (U := U.calling g mk a) rfl qN⟩, va_recv hK hP (ci := 6) (q0 := (50 + 16 * i + 2)) rfl (hQ.b2 hi), fun U hU hW => ⟨rfl, by rw [hU], by rw [hU]; exact hPc, va_K.moved hW.alike hKc, hDc.weaken (fun _ _ _ _ => trivial), nx_warm hW hN⟩⟩ rfl rfl hl.1 rfl (lv_room (Nat.le_of_ble_eq_true rfl)) dX7_begin_57 ⟨Nat.le_of_ble_eq_true rfl, Nat.le_of_ble_eq_true rfl⟩) hS (fun q _ h => hFc q h) hFc (fun u_89 t H1 locs ht hvm hw hB hz1 hk1 hS => ?_)
  obtain ⟨ad_90, ac_91, af_92, ag_93⟩ := u_89
  obtain ⟨hP1, hD1, hK1⟩ := hB
  rw [ht] at hP1
  obtain ⟨hP, hD⟩ := va_repl (w1 := [((ad (50 + 16 * i + 2)), .inr (6, [.ref (ad (50 + 16 * i + 3)), .ref (ad (50 + 16 * i + 4)), .ref (ad (50 + 16 * i + 5))])), ((ad (50 + 16 * i + 3)), .inl ((kc 1), 8, .inl (af_92 0))), ((ad (50 + 16 * i + 5)), .inl ((kc 0), 8, .inl (af_92 2)))]) hP hD [(50 + 16 * i + 2), (50 + 16 * i + 3), (50 + 16 * i + 5)] hCc hNd rfl hk1 hFc hP1 hD1
  obtain ⟨ws_95, F_94, eF_94, hP, hD, hQ⟩ : ∃ (ws_95 : va_W) (F_94 : Nat → Nat → Nat → Int32), F_94 = u2 (u2 F i 0 (af_92 0)) i 2 (af_92 2) ∧ va_P (dC, dI) vwCl ws_95 H1 ∧ va_D A ws_95 ∧ Pic9 kc ws_95 ad ga gc M n f T G_73 K_74 F_94 := ⟨_, _, rfl, hP, hD, ((hQ.same (hQ.b2 hi)).arr hi 3 0 (by decide) (af_92 0) rfl).arr hi 5 2 (by decide) (af_92 2) rfl⟩
  generalize H1 = H at hP hS ⊢
  refine lv_aload_n hx hb dX7_begin_60 rfl (lv_at hl 0 rfl) ?_
  refine va_get (D := (dC, dI)) (ci := 7) (v := .ref (ad (50 + 16 * i + 6))) (C := RX7) (T := TX7) (N := 15) hx hb hg gb_7 hown hK hP (50 + 16 * i) (hQ.b0 hi) rfl 12 (by decide) (hg _ gm_fieldLink_RX7_28_ErrandGuild_Run_scopes_LErrandGuild_Scopes_) (fun _ h9 => h9) rfl dX7_begin_61 ?_
  have hCc : ([(50 + 16 * i + 6)] : List Nat).map (fun i => ws_95[i]?) = ([(ad (50 + 16 * i + 6), .inr (8, [.ref (ad (50 + 16 * i + 7)), .ref (ad (50 + 16 * i + 8)), .ref (ad (50 + 16 * i + 9)), .int (G_73 i 14), .ref (ad (50 + 16 * i + 10)), .ref (ad (50 + 16 * i + 11)), .ref (ad (50 + 16 * i + 12)), .int (G_73 i 15), .int (G_73 i 16)]))] : va_W).map some := mp1 (hQ.b6 hi)
  have hNd : ([(50 + 16 * i + 6)] : List Nat).Nodup := (nd_off (50 + 16 * i) (l := [6]) (by decide))
  have hPc := hP.pick [(50 + 16 * i + 6)] hCc
  have hDc := hD.pick [(50 + 16 * i + 6)] hNd hCc
  have hKc := hK.sub (tys' := []) [] rfl
  have hFc := va_free (wc := [(ad (50 + 16 * i + 6), .inr (8, [.ref (ad (50 + 16 * i + 7)), .ref (ad (50 + 16 * i + 8)), .ref (ad (50 + 16 * i + 9)), .int (G_73 i 14), .ref (ad (50 + 16 * i + 10)), .ref (ad (50 + 16 * i + 11)), .ref (ad (50 + 16 * i + 12)), .int (G_73 i 15), .int (G_73 i 16)]))]) hD hS hA [(50 + 16 * i + 6)] hCc
  refine va_callv (va_runV (As := []) (rest := []) ⟨hx, hb, hml, hown, hg⟩ (c_X8_clear l dC dI (ad (50 + 16 * i + 6)) (ad (50 + 16 * i + 7)) (ad (50 + 16 * i + 8)) (ad (50 + 16 * i + 9)) (ad (50 + 16 * i + 10)) (ad (50 + 16 * i + 11)) (ad (50 + 16 * i + 12)) (G_73 i 14) (G_73 i 15) (G_73 i 16) H.size ) (cwV 0 hg (gw_V gm_methodLink_RX7_88_yX8_clear gm_instanceMethod_yX8_clear gm_selects_RX8_yX8_clear_yX8_clear gm_initialized_RX8 gm_code_yX8_clear_cX8_clear_1_none) rfl rfl rfl (by decide +kernel) ⟨Nat.le_of_ble_eq_true rfl, Nat.le_of_ble_eq_true rfl⟩) ⟨fun a U g mk q => by obtain ⟨q0, q1, qP, qK, qD, qN⟩ := q; exact ⟨q0, q1, qP, va_K.moved (u := U) (U := U.calling g mk a) (Vm.Alike.refl U.vm) qK, qD, nx_same (u := U) (U := U.calling g mk a) rfl qN⟩, va_recv hK hP (ci := 8) (q0 := (50 + 16 * i + 6)) rfl (hQ.b6 hi), fun U hU hW => ⟨rfl, by rw [hU], by rw [hU]; exact hPc, va_K.moved hW.alike hKc, hDc.weaken (fun _ _ _ _ => trivial), nx_warm hW hN⟩⟩ rfl rfl hl.1 rfl (lv_room (Nat.le_of_ble_eq_true rfl)) dX7_begin_64 ⟨Nat.le_of_ble_eq_true rfl, Nat.le_of_ble_eq_true rfl⟩) hS (fun q _ h => hFc q h) hFc (fun u_97 t H1 locs ht hvm hw hB hz1 hk1 hS => ?_)
  obtain ⟨ad_98, ac_99, af_100, ag_101⟩ := u_97
  obtain ⟨hP1, hD1, hK1⟩ := hB
  rw [ht] at hP1
  obtain ⟨hP, hD⟩ := va_repl (w1 := [((ad (50 + 16 * i + 6)), .inr (8, [.ref (ad (50 + 16 * i + 7)), .ref (ad (50 + 16 * i + 8)), .ref (ad (50 + 16 * i + 9)), .int 0, .ref (ad (50 + 16 * i + 10)), .ref (ad (50 + 16 * i + 11)), .ref (ad (50 + 16 * i + 12)), .int 0, .int 0]))]) hP hD [(50 + 16 * i + 6)] hCc hNd rfl hk1 hFc hP1 hD1
  obtain ⟨ws_103, G_102, eG_102, hP, hD, hQ⟩ : ∃ (ws_103 : va_W) (G_102 : Nat → Nat → Int32), G_102 = u2 (u2 (u2 G_73 i 14 0) i 15 0) i 16 0 ∧ va_P (dC, dI) vwCl ws_103 H1 ∧ va_D A ws_103 ∧ Pic9 kc ws_103 ad ga gc M n f T G_102 K_74 F_94 := ⟨_, _, rfl, hP, hD, hQ.sco2 hi 0 0 0⟩
  have i6_104 : i6 n T G_102 := by rw [eG_102]; exact (i6.pG (i6.pG (i6.pG i6_83 i _ (by decide)) i _ (by decide)) i _ (by decide))
  have i7_105 : i7 n G_102 := by rw [eG_102]; exact (i7.pG (i7.pG (i7.pG i7_84 i _ (by decide)) i _ (by decide)) i _ (by decide))
  have i8_106 : i8 M n gc G_102 := by rw [eG_102]; exact (i8.pG (i8.pG (i8.pG i8_85 i _ (by decide)) i _ (by decide)) i _ (by decide))
  have i9_107 : i9 M gc G_102 R := by rw [eG_102]; exact (i9.pG (i9.pG (i9.pG i9_86 i _ (by decide)) i _ (by decide)) i _ (by decide))
  generalize H1 = H at hP hS ⊢
  refine lv_aload_n hx hb dX7_begin_67 rfl (lv_at hl 0 rfl) ?_
  refine va_get (D := (dC, dI)) (ci := 7) (v := .ref (ad (50 + 16 * i + 13))) (C := RX7) (T := TX7) (N := 15) hx hb hg gb_7 hown hK hP (50 + 16 * i) (hQ.b0 hi) rfl 13 (by decide) (hg _ gm_fieldLink_RX7_35_ErrandGuild_Run_fault_LErrandGuild_Fault_) (fun _ h9 => h9) rfl dX7_begin_68 ?_
  have hCc : ([(50 + 16 * i + 13)] : List Nat).map (fun i => ws_103[i]?) = ([(ad (50 + 16 * i + 13), .inr (2, [.int (G_102 i 17), .int (G_102 i 18), .int (G_102 i 19), .int (G_102 i 20), .int (G_102 i 21)]))] : va_W).map some := mp1 (hQ.b13 hi)
  have hNd : ([(50 + 16 * i + 13)] : List Nat).Nodup := (nd_off (50 + 16 * i) (l := [13]) (by decide))
  have hPc := hP.pick [(50 + 16 * i + 13)] hCc
  have hDc := hD.pick [(50 + 16 * i + 13)] hNd hCc
  have hKc := hK.sub (tys' := []) [] rfl
  have hFc := va_free (wc := [(ad (50 + 16 * i + 13), .inr (2, [.int (G_102 i 17), .int (G_102 i 18), .int (G_102 i 19), .int (G_102 i 20), .int (G_102 i 21)]))]) hD hS hA [(50 + 16 * i + 13)] hCc
  refine va_callv (va_runV (As := []) (rest := []) ⟨hx, hb, hml, hown, hg⟩ (c_X2_clear l dC dI (ad (50 + 16 * i + 13)) (G_102 i 17) (G_102 i 18) (G_102 i 19) (G_102 i 20) (G_102 i 21) H.size ) (cwV 0 hg (gw_V gm_methodLink_RX7_89_yX2_clear gm_instanceMethod_yX2_clear gm_selects_RX2_yX2_clear_yX2_clear gm_initialized_RX2 gm_code_yX2_clear_cX2_clear_1_none) rfl rfl rfl (by decide +kernel) ⟨Nat.le_of_ble_eq_true rfl, Nat.le_of_ble_eq_true rfl⟩) ⟨fun a U g mk q => by obtain ⟨q0, q1, qP, qK, qD, qN⟩ := q; exact ⟨q0, q1, qP, va_K.moved (u := U) (U := U.calling g mk a) (Vm.Alike.refl U.vm) qK, qD, nx_same (u := U) (U := U.calling g mk a) rfl qN⟩, va_recv hK hP (ci := 2) (q0 := (50 + 16 * i + 13)) rfl (hQ.b13 hi), fun U hU hW => ⟨rfl, by rw [hU], by rw [hU]; exact hPc, va_K.moved hW.alike hKc, hDc.weaken (fun _ _ _ _ => trivial), nx_warm hW hN⟩⟩ rfl rfl hl.1 rfl (lv_room (Nat.le_of_ble_eq_true rfl)) dX7_begin_71 ⟨Nat.le_of_ble_eq_true rfl, Nat.le_of_ble_eq_true rfl⟩) hS (fun q _ h => hFc q h) hFc (fun u_109 t H1 locs ht hvm hw hB hz1 hk1 hS => ?_)
  obtain ⟨ad_110, ac_111, af_112, ag_113⟩ := u_109
  obtain ⟨hP1, hD1, hK1⟩ := hB
  rw [ht] at hP1
  obtain ⟨hP, hD⟩ := va_repl (w1 := [((ad (50 + 16 * i + 13)), .inr (2, [.int (-1), .int (-1), .int (-1), .int 0, .int 0]))]) hP hD [(50 + 16 * i + 13)] hCc hNd rfl hk1 hFc hP1 hD1
  obtain ⟨ws_115, G_114, eG_114, hP, hD, hQ⟩ : ∃ (ws_115 : va_W) (G_114 : Nat → Nat → Int32), G_114 = u2 (u2 (u2 (u2 (u2 G_102 i 17 (-1)) i 18 (-1)) i 19 (-1)) i 20 0) i 21 0 ∧ va_P (dC, dI) vwCl ws_115 H1 ∧ va_D A ws_115 ∧ Pic9 kc ws_115 ad ga gc M n f T G_114 K_74 F_94 := ⟨_, _, rfl, hP, hD, hQ.flt2 hi (-1) (-1) (-1) 0 0⟩
  have i6_116 : i6 n T G_114 := by rw [eG_114]; exact (i6.pG (i6.pG (i6.pG (i6.pG (i6.pG i6_104 i _ (by decide)) i _ (by decide)) i _ (by decide)) i _ (by decide)) i _ (by decide))
  have i7_117 : i7 n G_114 := by rw [eG_114]; exact (i7.pG (i7.pG (i7.pG (i7.pG (i7.pG i7_105 i _ (by decide)) i _ (by decide)) i _ (by decide)) i _ (by decide)) i _ (by decide))
  have i8_118 : i8 M n gc G_114 := by rw [eG_114]; exact (i8.pG (i8.pG (i8.pG (i8.pG (i8.pG i8_106 i _ (by decide)) i _ (by decide)) i _ (by decide)) i _ (by decide)) i _ (by decide))
  have i9_119 : i9 M gc G_114 R := by rw [eG_114]; exact (i9.pG (i9.pG (i9.pG (i9.pG (i9.pG i9_107 i _ (by decide)) i _ (by decide)) i _ (by decide)) i _ (by decide)) i _ (by decide))
  generalize H1 = H at hP hS ⊢
  refine lv_aload_n hx hb dX7_begin_74 rfl (lv_at hl 0 rfl) ?_
  refine va_get (D := (dC, dI)) (ci := 7) (v := .ref (ad (50 + 16 * i + 14))) (C := RX7) (T := TX7) (N := 15) hx hb hg gb_7 hown hK hP (50 + 16 * i) (hQ.b0 hi) rfl 14 (by decide) (hg _ gm_fieldLink_RX7_45_ErrandGuild_Run_remarks_LErrandGuild_Cells_) (fun _ h9 => h9) rfl dX7_begin_75 ?_
  have hCc : ([(50 + 16 * i + 14)] : List Nat).map (fun i => ws_115[i]?) = ([(ad (50 + 16 * i + 14), .inr (0, [.int (G_114 i 22), .ref (ga (3 + i)), .int (G_114 i 23)]))] : va_W).map some := mp1 (hQ.b14 hi)
  have hNd : ([(50 + 16 * i + 14)] : List Nat).Nodup := (nd_off (50 + 16 * i) (l := [14]) (by decide))
  have hPc := hP.pick [(50 + 16 * i + 14)] hCc
  have hDc := hD.pick [(50 + 16 * i + 14)] hNd hCc
  have hKc := hK.sub (tys' := []) [] rfl
  have hFc := va_free (wc := [(ad (50 + 16 * i + 14), .inr (0, [.int (G_114 i 22), .ref (ga (3 + i)), .int (G_114 i 23)]))]) hD hS hA [(50 + 16 * i + 14)] hCc
  refine va_callv (va_runV (As := []) (rest := []) ⟨hx, hb, hml, hown, hg⟩ (c_X0_clear l dC dI (ad (50 + 16 * i + 14)) (ga (3 + i)) (G_114 i 22) (G_114 i 23) H.size ) (cwV 0 hg (gw_V gm_methodLink_RX7_90_yX0_clear gm_instanceMethod_yX0_clear gm_selects_RX0_yX0_clear_yX0_clear gm_initialized_RX0 gm_code_yX0_clear_cX0_clear_1_none) rfl rfl rfl (by decide +kernel) ⟨Nat.le_of_ble_eq_true rfl, Nat.le_of_ble_eq_true rfl⟩) ⟨fun a U g mk q => by obtain ⟨q0, q1, qP, qK, qD, qN⟩ := q; exact ⟨q0, q1, qP, va_K.moved (u := U) (U := U.calling g mk a) (Vm.Alike.refl U.vm) qK, qD, nx_same (u := U) (U := U.calling g mk a) rfl qN⟩, va_recv hK hP (ci := 0) (q0 := (50 + 16 * i + 14)) rfl (hQ.b14 hi), fun U hU hW => ⟨rfl, by rw [hU], by rw [hU]; exact hPc, va_K.moved hW.alike hKc, hDc.weaken (fun _ _ _ _ => trivial), nx_warm hW hN⟩⟩ rfl rfl hl.1 rfl (lv_room (Nat.le_of_ble_eq_true rfl)) dX7_begin_78 ⟨Nat.le_of_ble_eq_true rfl, Nat.le_of_ble_eq_true rfl⟩) hS (fun q _ h => hFc q h) hFc (fun u_121 t H1 locs ht hvm hw hB hz1 hk1 hS => ?_)
  obtain ⟨ad_122, ac_123, af_124, ag_125⟩ := u_121
  obtain ⟨hP1, hD1, hK1⟩ := hB
  rw [ht] at hP1
  obtain ⟨hP, hD⟩ := va_repl (w1 := [((ad (50 + 16 * i + 14)), .inr (0, [.int (G_114 i 22), .ref (ga (3 + i)), .int 0]))]) hP hD [(50 + 16 * i + 14)] hCc hNd rfl hk1 hFc hP1 hD1
  obtain ⟨ws_127, G_126, eG_126, hP, hD, hQ⟩ : ∃ (ws_127 : va_W) (G_126 : Nat → Nat → Int32), G_126 = u2 G_114 i 23 0 ∧ va_P (dC, dI) vwCl ws_127 H1 ∧ va_D A ws_127 ∧ Pic9 kc ws_127 ad ga gc M n f T G_126 K_74 F_94 := ⟨_, _, rfl, hP, hD, hQ.remC hi 0⟩
  have i6_128 : i6 n T G_126 := by rw [eG_126]; exact (i6.pG i6_116 i _ (by decide))
  have i7_129 : i7 n G_126 := by rw [eG_126]; exact (i7.pG i7_117 i _ (by decide))
  have i8_130 : i8 M n gc G_126 := by rw [eG_126]; exact (i8.pG i8_118 i _ (by decide))
  have i9_131 : i9 M gc G_126 R := by rw [eG_126]; exact (i9.clr i9_119 i)
  generalize H1 = H at hP hS ⊢
  refine W_msr2 (fun hm1 hm2 hm3 => ?_)
  exact W.vret hx hb hr (fun t ht hW => ⟨⟨(ad, ga, gc, M, n, f, T, G_126, K_74, F_94), rfl, ⟨by show (G_126 i 2).toInt = 0; rw [eG_126]; (repeat rw [u2_n2 _ _ _ _ (show (2 : Nat) ≠ _ by decide)]); rw [eG_114]; (repeat rw [u2_n2 _ _ _ _ (show (2 : Nat) ≠ _ by decide)]); rw [eG_102]; (repeat rw [u2_n2 _ _ _ _ (show (2 : Nat) ≠ _ by decide)]); rw [w_87.1]; rw [eG_57]; (repeat rw [u2_n2 _ _ _ _ (show (2 : Nat) ≠ _ by decide)]); rw [eG_50]; (repeat rw [u2_n2 _ _ _ _ (show (2 : Nat) ≠ _ by decide)]); rw [eG_43]; (repeat rw [u2_n2 _ _ _ _ (show (2 : Nat) ≠ _ by decide)]); rw [eG_36]; (repeat rw [u2_n2 _ _ _ _ (show (2 : Nat) ≠ _ by decide)]); rw [eG_29]; (repeat rw [u2_n2 _ _ _ _ (show (2 : Nat) ≠ _ by decide)]); rw [eG_22]; (repeat rw [u2_n2 _ _ _ _ (show (2 : Nat) ≠ _ by decide)]); rw [eG_15]; (repeat rw [u2_n2 _ _ _ _ (show (2 : Nat) ≠ _ by decide)]); rw [eG_8, u2_eq]; decide, by show (G_126 i 3).toInt = -1; rw [eG_126]; (repeat rw [u2_n2 _ _ _ _ (show (3 : Nat) ≠ _ by decide)]); rw [eG_114]; (repeat rw [u2_n2 _ _ _ _ (show (3 : Nat) ≠ _ by decide)]); rw [eG_102]; (repeat rw [u2_n2 _ _ _ _ (show (3 : Nat) ≠ _ by decide)]); rw [w_87.2.1]; rw [eG_57]; (repeat rw [u2_n2 _ _ _ _ (show (3 : Nat) ≠ _ by decide)]); rw [eG_50]; (repeat rw [u2_n2 _ _ _ _ (show (3 : Nat) ≠ _ by decide)]); rw [eG_43]; (repeat rw [u2_n2 _ _ _ _ (show (3 : Nat) ≠ _ by decide)]); rw [eG_36]; (repeat rw [u2_n2 _ _ _ _ (show (3 : Nat) ≠ _ by decide)]); rw [eG_29]; (repeat rw [u2_n2 _ _ _ _ (show (3 : Nat) ≠ _ by decide)]); rw [eG_22]; (repeat rw [u2_n2 _ _ _ _ (show (3 : Nat) ≠ _ by decide)]); rw [eG_15, u2_eq]; decide, by show K_74 i 3 = none; exact w_87.2.2.1, fun a ha => by show K_74 a = K a; exact w_87.2.2.2 a ha⟩, ws_127, by rw [ht]; exact hP, hD, hQ, ⟨i1_78, i2_79, i3_80, i4_81, i5_82, i6_128, i7_129, i8_130, i9_131⟩, by rw [ht]; show hpS H + (260 * M + 2 * S9 M gc) ≤ hpS s.heap + (260 * M + 2 * S9 M gc); omega, by rw [ht]; show 16 * H.size + (256 * M + S9 M gc) ≤ 16 * s.heap.size + (256 * M + S9 M gc); omega⟩, hS.F ht⟩) hS.2.2 dX7_begin_81
