set_option maxHeartbeats 8000000 in
set_option maxRecDepth 100000 in
theorem c_X9_doStep (l : Launch) (dC : Nat → ClassId) (dI : Nat → Nat → Nat) (kc : Nat → ClassId) (ws : va_W) (ad : Nat → Nat) (ga : Nat → Nat) (gc : Nat → Nat) (M : Nat) (n : Nat → Int32) (f : Nat → Nat → Int32) (T : Nat → Option Nat) (G : Nat → Nat → Int32) (K : Nat → Nat → Option Nat) (F : Nat → Nat → Nat → Int32) (R : Nat) (i : Nat) (sz hz : Nat) (hQ : Pic9 kc ws ad ga gc M n f T G K F) (hI : I9 M n T gc G K R) (hi : i < M) (hin : (i : Int) < (n 0).toInt) (hR : R + 1 ≤ 310000) : Met l yX9_doStep (.code yX9_doStep cX9_doStep 6 (some .int) :: gw) ({ frames := 5, cells := 40000, slots := 1250000, locals := 149 }) (va_Pc [.ref (ad 0), .ref (ad (50 + 16 * i))] (fun U => U.heap.size = sz ∧ hpS U.heap = hz ∧ va_P (dC, dI) vwCl ws U.heap ∧ va_K (dC, dI) vwCl (t9 kc) U ∧ va_D (fun _ => True) ws ∧ nx U)) (va_Qi (fun (r : Int32) (u : (Nat → Nat) × (Nat → Nat) × (Nat → Nat) × Nat × (Nat → Int32) × (Nat → Nat → Int32) × (Nat → Option Nat) × (Nat → Nat → Int32) × (Nat → Nat → Option Nat) × (Nat → Nat → Nat → Int32)) => True) (fun u t => ∃ w : va_W, va_P (dC, dI) vwCl w t.heap ∧ va_D (va_A ws sz) w ∧ Pic9 kc w u.1 u.2.1 u.2.2.1 u.2.2.2.1 u.2.2.2.2.1 u.2.2.2.2.2.1 T u.2.2.2.2.2.2.2.1 u.2.2.2.2.2.2.2.2.1 u.2.2.2.2.2.2.2.2.2 ∧ I9 u.2.2.2.1 u.2.2.2.2.1 T u.2.2.1 u.2.2.2.2.2.2.2.1 u.2.2.2.2.2.2.2.2.1 (R + 1) ∧ hpS t.heap + (260 * M + 2 * S9 M gc) ≤ hz + (260 * u.2.2.2.1 + 2 * S9 u.2.2.2.1 u.2.2.1) ∧ 16 * t.heap.size + (256 * M + S9 M gc) ≤ 16 * sz + (256 * u.2.2.2.1 + S9 u.2.2.2.1 u.2.2.1) ∧ (n 0).toInt ≤ (u.2.2.2.2.1 0).toInt ∧ (∀ q : Nat, q < 50 + 16 * M → u.1 q = ad q) ∧ M ≤ u.2.2.2.1) (va_A ws sz)) 40000 1250000 (va_A ws sz) := by
  refine Met.ofW (cc := cX9_doStep) (maxL := 6) (ret := (some .int)) (by decide) rfl ?_
  intro p e s m args below meth c s₁ B hml hv
  obtain ⟨rfl, hsz, rfl, hP, hK, hD0, hN⟩ := hv
  have hx := B.exec
  have hb := B.bytes
  have hr := B.returns
  have hts := atoms_spec (ws := .code yX9_doStep cX9_doStep 6 (some .int) :: gw) B.pre
  have hg : ∀ w ∈ gw, w.before _ s = true := fun w h => hts w (List.mem_cons_of_mem _ h)
  have hown : s.vm.findClass RX9 = some m.cls := findClass_of_methodNamed B.named
  have hlocks := B.notSynchronized
  subst hsz
  have hD := hD0.self (sz := s.heap.size)
  generalize hAe : va_A ws s.heap.size = A at hD ⊢
  have hA : ∀ q : Nat, s.heap.size ≤ q → A q := fun q h => by rw [← hAe]; exact Or.inr h
  clear hAe
  have hS : va_S A s.heap s.heap [] := va_S.rf
  have hl := lv_entry ([.ref (ad 0), .ref (ad (50 + 16 * i))]) (n := 6) (Nat.le_of_ble_eq_true rfl)
  rw [lg_entry_eq]
  generalize (lg_sl ([.ref (ad 0), .ref (ad (50 + 16 * i))]) ++ List.replicate (6 - (lg_sl ([.ref (ad 0), .ref (ad (50 + 16 * i))])).length) Slot.unset).toArray = ls at hl ⊢
  have hl : lv_has ls 6 [(0, .ref (ad 0)), (1, .ref (ad (50 + 16 * i)))] := hl
  obtain ⟨h_i1, h_i2, h_i3, h_i4, h_i5, h_i6, h_i7, h_i8, h_i9⟩ := id hI
  have q1_ := h_i1
  unfold i1 at q1_
  have hSl0 := S9_le h_i8 h_i9
  have hb0_ := h_i8.2.1 0 (by omega)
  have hb1_ := h_i8.2.1 1 (by omega)
  have hb2_ := h_i8.2.1 2 (by omega)
  have hr1 : 0 + (260 * M + 2 * S9 M gc) ≤ (260 * M + 2 * S9 M gc) := by omega
  have hr2 : 16 * 0 + (256 * M + S9 M gc) ≤ (256 * M + S9 M gc) := by omega
  obtain ⟨ce, hce⟩ : ∃ q : Nat, q = 0 := ⟨_, rfl⟩
  obtain ⟨se, hse⟩ : ∃ q : Nat, q = 0 := ⟨_, rfl⟩
  rw [← hse] at hr1
  have hr2 : 16 * ce + (256 * M + S9 M gc) ≤ (256 * M + S9 M gc) := by omega
  refine W.widen (k := ce) (n := se) (Nat.zero_le _) (Nat.zero_le _) ?_
  refine lv_aload_n hx hb dX9_doStep_0 rfl (lv_at hl 0 rfl) ?_
  refine lv_aload_n hx hb dX9_doStep_1 rfl (lv_at hl 1 rfl) ?_
  refine va_get (D := (dC, dI)) (ci := 7) (v := .int (G i 1)) (C := RX7) (T := TX7) (N := 15) hx hb hg gb_7 hown hK hP (50 + 16 * i) (hQ.b0 hi) rfl 1 (by decide) (hg _ gm_fieldLink_RX9_148_ErrandGuild_Run_errand_I_) (fun _ h9 => h9) rfl dX9_doStep_2 ?_
  have hFc := free_all hD hS hA
  refine W_msr2 (fun hm1 hm2 hm3 => ?_)
  refine va_callq (va_runV (As := [.int (G i 1)]) (rest := []) ⟨hx, hb, hml, hown, hg⟩ (c9_X9_errandAt l dC dI kc ws ad ga gc M n f T G K F R (G i 1) s.heap.size (hpS s.heap) hQ ⟨h_i1, h_i2, h_i3, h_i4, h_i5, h_i6, h_i7, h_i8, h_i9⟩) (cwV 1 hg (gw_V gm_methodLink_RX9_69_yX9_errandAt gm_instanceMethod_yX9_errandAt gm_selects_RX9_yX9_errandAt_yX9_errandAt gm_initialized_RX9 gm_code_yX9_errandAt_cX9_errandAt_2_some_object_ErrandGuild_Errand_) rfl rfl rfl (by decide +kernel) ⟨Nat.le_of_ble_eq_true rfl, Nat.le_of_ble_eq_true rfl⟩) ⟨fun a U g mk q => by obtain ⟨q0, q1, q2, qP, qK, qD, qN⟩ := q; exact ⟨q0, q1, q2, qP, va_K.moved (u := U) (U := U.calling g mk a) (Vm.Alike.refl U.vm) qK, qD, nx_same (u := U) (U := U.calling g mk a) rfl qN⟩, va_recv hK hP (ci := 9) (q0 := 0) rfl hQ.x0, fun U hU hW => ⟨rfl, by rw [hU], by rw [hU], by rw [hU]; exact hP, va_K.moved hW.alike hK, hD.weaken (fun _ _ _ _ => trivial), nx_warm hW hN⟩⟩ rfl rfl hl.1 rfl (lv_room (Nat.le_of_ble_eq_true rfl)) dX9_doStep_5 ⟨by show ce + 0 ≤ 40000; omega, by show se + 0 ≤ 1250000; omega⟩) hS (fun q _ h => hFc q h) hFc (fun r_1 u_2 t H1 locs ht hvm hw hB hz1 hk1 hS => ?_)
  obtain ⟨hP, hD, hy1, hy2⟩ := hB
  rw [ht] at hP hy1 hy2
  have hD := hD.weaken (fun k q _ h => hFc _ h)
  refine W.widen (k := ce) (n := se) (Nat.le_refl _) (Nat.le_refl _) ?_
  have q1_ := h_i1
  unfold i1 at q1_
  generalize H1 = H at hP hS ⊢
  rcases hw with ⟨rfl, w_3⟩ | ⟨rfl, w_3⟩
  · have w_3 : (0 ≤ (G i 1).toInt ∧ (G i 1).toInt < 8) := w_3
    have hl_4 : (G i 1).toInt.toNat < 8 := by omega
    refine W.eq (g2 := F0 m 8 ls [.ref (ad (4 + 4 * ((G i 1).toInt.toNat)))]) rfl ?_
    refine lv_astore_n (lv' := [(2, .ref (ad (4 + 4 * ((G i 1).toInt.toNat)))), (0, .ref (ad 0)), (1, .ref (ad (50 + 16 * i)))]) hx hb dX9_doStep_8 rfl hl (by decide) rfl (fun ls hl => ?_)
    refine lv_aload_n hx hb dX9_doStep_9 rfl (lv_at hl 2 rfl) ?_
    refine va_get (D := (dC, dI)) (ci := 7) (v := .int (G i 6)) (C := RX7) (T := TX7) (N := 15) hx hb hg gb_7 hown hK hP (50 + 16 * i) (hQ.b0 hi) rfl 6 (by decide) (hg _ gm_fieldLink_RX9_174_ErrandGuild_Run_place_I_) (fun _ h9 => h9) rfl dX9_doStep_10 ?_
    refine lv_istore_n (lv' := [(3, .int (G i 6)), (2, .ref (ad (4 + 4 * ((G i 1).toInt.toNat)))), (0, .ref (ad 0)), (1, .ref (ad (50 + 16 * i)))]) hx hb dX9_doStep_13 rfl hl (by decide) rfl (fun ls hl => ?_)
    refine lv_aload_n hx hb dX9_doStep_14 rfl (lv_at hl 1 rfl) ?_
    refine lv_ifnull hx hb dX9_doStep_15 ?_
    refine lv_iload_n hx hb dX9_doStep_18 rfl (lv_at hl 0 rfl) ?_
    refine lv_if_lt (tgt := 36) hx hb dX9_doStep_19 (by decide) (fun c_5 => ?_) (fun c_5 => ?_)
    · simp only [i_lt, i_le, i_eq, ti_0] at c_5
      refine lv_aload_n hx hb dX9_doStep_36 rfl (lv_at hl 2 rfl) ?_
      refine lv_aload_n hx hb dX9_doStep_37 rfl (lv_at hl 3 rfl) ?_
      have hFc := free_all hD hS hA
      refine W_msr2 (fun hm1 hm2 hm3 => ?_)
      refine va_calli (va_runV (As := [.ref (ad (50 + 16 * i))]) (rest := []) ⟨hx, hb, hml, hown, hg⟩ (c_X9_end l dC dI kc ws ad ga gc M n f T G K F R i H.size (hpS H) hQ ⟨h_i1, h_i2, h_i3, h_i4, h_i5, h_i6, h_i7, h_i8, h_i9⟩ (by show i < M; omega)) (cwV 1 hg (gw_V gm_methodLink_RX9_328_yX9_end gm_instanceMethod_yX9_end gm_selects_RX9_yX9_end_yX9_end gm_initialized_RX9 gm_code_yX9_end_cX9_end_2_some_int_) rfl rfl rfl (by decide +kernel) ⟨Nat.le_of_ble_eq_true rfl, Nat.le_of_ble_eq_true rfl⟩) ⟨fun a U g mk q => by obtain ⟨q0, q1, q2, qP, qK, qD, qN⟩ := q; exact ⟨q0, q1, q2, qP, va_K.moved (u := U) (U := U.calling g mk a) (Vm.Alike.refl U.vm) qK, qD, nx_same (u := U) (U := U.calling g mk a) rfl qN⟩, va_recv hK hP (ci := 9) (q0 := 0) rfl hQ.x0, fun U hU hW => ⟨rfl, by rw [hU], by rw [hU], by rw [hU]; exact hP, va_K.moved hW.alike hK, hD.weaken (fun _ _ _ _ => trivial), nx_warm hW hN⟩⟩ rfl rfl hl.1 rfl (lv_room (Nat.le_of_ble_eq_true rfl)) dX9_doStep_38 ⟨by show ce + 0 ≤ 40000; omega, by show se + 0 ≤ 1250000; omega⟩) hS (fun q _ h => hFc q h) hFc (fun r_6 u_7 t H1 locs ht hvm hw hB hz1 hk1 hS => ?_)
      obtain ⟨ad_8, ga_9, gc_10, M_11, n_12, f_13, T_14, G_15, K_16, F_17⟩ := u_7
      have hB : ∃ w : va_W, va_P (dC, dI) vwCl w t.heap ∧ va_D (va_A ws H.size) w ∧ Pic9 kc w ad ga gc M n f T G_15 K F ∧ I9 M n T gc G_15 K R ∧ hpS t.heap + (260 * M + 2 * S9 M gc) ≤ hpS H + (260 * M + 2 * S9 M gc) ∧ 16 * t.heap.size + (256 * M + S9 M gc) ≤ 16 * H.size + (256 * M + S9 M gc) := hB
      rw [ht] at hB
      obtain ⟨ws_18, hP, hD, hQ, hI_19, hy1, hy2⟩ := hB
      have hD := hD.weaken (fun k q _ h => hFc _ h)
      obtain ⟨i1_20, i2_21, i3_22, i4_23, i5_24, i6_25, i7_26, i8_27, i9_28⟩ := id hI_19
      have q1_ := i1_20
      unfold i1 at q1_
      have hSl := S9_le i8_27 i9_28
      have hb0_ := i8_27.2.1 0 (by omega)
      have hb1_ := i8_27.2.1 1 (by omega)
      have hb2_ := i8_27.2.1 2 (by omega)
      refine W_msr2 (fun hn1 hn2 hn3 => ?_)
      obtain ⟨ce2, se2, hk3, hk4, hr1, hr2⟩ : ∃ c2 s2 : Nat, H1.size ≤ s.heap.size + c2 ∧ hpS H1 ≤ hpS s.heap + s2 ∧ s2 + (260 * M + 2 * S9 M gc) ≤ (260 * M + 2 * S9 M gc) ∧ 16 * c2 + (256 * M + S9 M gc) ≤ (256 * M + S9 M gc) := ⟨H1.size - s.heap.size, hpS H1 - hpS s.heap, by omega, by omega, by have := hS.1; omega, by have := hS.1; omega⟩
      refine W_tightP hk3 hk4 ?_
      clear hm1 hm2 hm3 hn1 hn2 hn3 hk3 hk4
      clear hk1 hz1
      generalize ce2 = ce, se2 = se at hr1 hr2 ⊢
      generalize H1 = H at hP hS ⊢
      refine W_msr2 (fun hm1 hm2 hm3 => ?_)
      have hSl := S9_le i8_27 i9_28
      have hb0_ := i8_27.2.1 0 (by omega)
      have hb1_ := i8_27.2.1 1 (by omega)
      have hb2_ := i8_27.2.1 2 (by omega)
      refine W.widen (k := 40000) (n := 1250000) (by omega) (by omega) ?_
      exact W.iret (v := r_6) hx hb hr (fun t ht hW => ⟨⟨r_6, (ad, ga, gc, M, n, f, T, G_15, K, F), rfl, trivial, ws_18, by rw [ht]; exact hP, hD, hQ, I9.mono (R := R) ⟨i1_20, i2_21, i3_22, i4_23, i5_24, i6_25, i7_26, i8_27, i9_28⟩ (by omega), by rw [ht]; show hpS H + (260 * M + 2 * S9 M gc) ≤ hpS s.heap + (260 * M + 2 * S9 M gc); omega, by rw [ht]; show 16 * H.size + (256 * M + S9 M gc) ≤ 16 * s.heap.size + (256 * M + S9 M gc); omega, by show (n 0).toInt ≤ (n 0).toInt; omega, (fun _ _ => rfl), by show M ≤ M; omega⟩, hS.F ht⟩) hS.2.2 dX9_doStep_41
    · simp only [i_lt, i_le, i_eq, ti_0] at c_5
      refine lv_iload_n hx hb dX9_doStep_22 rfl (lv_at hl 0 rfl) ?_
      refine lv_aload_n hx hb dX9_doStep_23 rfl (lv_at hl 1 rfl) ?_
      refine va_get (D := (dC, dI)) (ci := 1) (v := .int (n (6 + ((G i 1).toInt.toNat)))) (C := RX1) (T := TX1) (N := 4) hx hb hg gb_1 hown hK hP (4 + 4 * ((G i 1).toInt.toNat)) (hQ.e0 hl_4) rfl 3 (by decide) (hg _ gm_fieldLink_RX9_73_ErrandGuild_Errand_count_I_) (fun _ h9 => h9) rfl dX9_doStep_24 ?_
      refine lv_icmp_ge (tgt := 36) hx hb dX9_doStep_27 (by decide) (fun c_30 => ?_) (fun c_30 => ?_)
      · simp only [i_lt, i_le, i_eq] at c_30
        refine lv_aload_n hx hb dX9_doStep_36 rfl (lv_at hl 2 rfl) ?_
        refine lv_aload_n hx hb dX9_doStep_37 rfl (lv_at hl 3 rfl) ?_
        have hFc := free_all hD hS hA
        refine W_msr2 (fun hm1 hm2 hm3 => ?_)
        refine va_calli (va_runV (As := [.ref (ad (50 + 16 * i))]) (rest := []) ⟨hx, hb, hml, hown, hg⟩ (c_X9_end l dC dI kc ws ad ga gc M n f T G K F R i H.size (hpS H) hQ ⟨h_i1, h_i2, h_i3, h_i4, h_i5, h_i6, h_i7, h_i8, h_i9⟩ (by show i < M; omega)) (cwV 1 hg (gw_V gm_methodLink_RX9_328_yX9_end gm_instanceMethod_yX9_end gm_selects_RX9_yX9_end_yX9_end gm_initialized_RX9 gm_code_yX9_end_cX9_end_2_some_int_) rfl rfl rfl (by decide +kernel) ⟨Nat.le_of_ble_eq_true rfl, Nat.le_of_ble_eq_true rfl⟩) ⟨fun a U g mk q => by obtain ⟨q0, q1, q2, qP, qK, qD, qN⟩ := q; exact ⟨q0, q1, q2, qP, va_K.moved (u := U) (U := U.calling g mk a) (Vm.Alike.refl U.vm) qK, qD, nx_same (u := U) (U := U.calling g mk a) rfl qN⟩, va_recv hK hP (ci := 9) (q0 := 0) rfl hQ.x0, fun U hU hW => ⟨rfl, by rw [hU], by rw [hU], by rw [hU]; exact hP, va_K.moved hW.alike hK, hD.weaken (fun _ _ _ _ => trivial), nx_warm hW hN⟩⟩ rfl rfl hl.1 rfl (lv_room (Nat.le_of_ble_eq_true rfl)) dX9_doStep_38 ⟨by show ce + 0 ≤ 40000; omega, by show se + 0 ≤ 1250000; omega⟩) hS (fun q _ h => hFc q h) hFc (fun r_31 u_32 t H1 locs ht hvm hw hB hz1 hk1 hS => ?_)
        obtain ⟨ad_33, ga_34, gc_35, M_36, n_37, f_38, T_39, G_40, K_41, F_42⟩ := u_32
        have hB : ∃ w : va_W, va_P (dC, dI) vwCl w t.heap ∧ va_D (va_A ws H.size) w ∧ Pic9 kc w ad ga gc M n f T G_40 K F ∧ I9 M n T gc G_40 K R ∧ hpS t.heap + (260 * M + 2 * S9 M gc) ≤ hpS H + (260 * M + 2 * S9 M gc) ∧ 16 * t.heap.size + (256 * M + S9 M gc) ≤ 16 * H.size + (256 * M + S9 M gc) := hB
        rw [ht] at hB
        obtain ⟨ws_43, hP, hD, hQ, hI_44, hy1, hy2⟩ := hB
        have hD := hD.weaken (fun k q _ h => hFc _ h)
        obtain ⟨i1_45, i2_46, i3_47, i4_48, i5_49, i6_50, i7_51, i8_52, i9_53⟩ := id hI_44
        have q1_ := i1_45
        unfold i1 at q1_
        have hSl := S9_le i8_52 i9_53
        have hb0_ := i8_52.2.1 0 (by omega)
        have hb1_ := i8_52.2.1 1 (by omega)
        have hb2_ := i8_52.2.1 2 (by omega)
        refine W_msr2 (fun hn1 hn2 hn3 => ?_)
        obtain ⟨ce2, se2, hk3, hk4, hr1, hr2⟩ : ∃ c2 s2 : Nat, H1.size ≤ s.heap.size + c2 ∧ hpS H1 ≤ hpS s.heap + s2 ∧ s2 + (260 * M + 2 * S9 M gc) ≤ (260 * M + 2 * S9 M gc) ∧ 16 * c2 + (256 * M + S9 M gc) ≤ (256 * M + S9 M gc) := ⟨H1.size - s.heap.size, hpS H1 - hpS s.heap, by omega, by omega, by have := hS.1; omega, by have := hS.1; omega⟩
        refine W_tightP hk3 hk4 ?_
        clear hm1 hm2 hm3 hn1 hn2 hn3 hk3 hk4
        clear hk1 hz1
        generalize ce2 = ce, se2 = se at hr1 hr2 ⊢
        generalize H1 = H at hP hS ⊢
        refine W_msr2 (fun hm1 hm2 hm3 => ?_)
        have hSl := S9_le i8_52 i9_53
        have hb0_ := i8_52.2.1 0 (by omega)
        have hb1_ := i8_52.2.1 1 (by omega)
        have hb2_ := i8_52.2.1 2 (by omega)
        refine W.widen (k := 40000) (n := 1250000) (by omega) (by omega) ?_
        exact W.iret (v := r_31) hx hb hr (fun t ht hW => ⟨⟨r_31, (ad, ga, gc, M, n, f, T, G_40, K, F), rfl, trivial, ws_43, by rw [ht]; exact hP, hD, hQ, I9.mono (R := R) ⟨i1_45, i2_46, i3_47, i4_48, i5_49, i6_50, i7_51, i8_52, i9_53⟩ (by omega), by rw [ht]; show hpS H + (260 * M + 2 * S9 M gc) ≤ hpS s.heap + (260 * M + 2 * S9 M gc); omega, by rw [ht]; show 16 * H.size + (256 * M + S9 M gc) ≤ 16 * s.heap.size + (256 * M + S9 M gc); omega, by show (n 0).toInt ≤ (n 0).toInt; omega, (fun _ _ => rfl), by show M ≤ M; omega⟩, hS.F ht⟩) hS.2.2 dX9_doStep_41
      · simp only [i_lt, i_le, i_eq] at c_30
        refine lv_iload_n hx hb dX9_doStep_30 rfl (lv_at hl 0 rfl) ?_
        refine lv_bipush (v := 24) hx hb dX9_doStep_31 (by decide) ?_
        refine lv_icmp_lt (tgt := 42) hx hb dX9_doStep_33 (by decide) (fun c_55 => ?_) (fun c_55 => ?_)
        · simp only [i_lt, i_le, i_eq, ti_24] at c_55
          refine lv_aload_n hx hb dX9_doStep_42 rfl (lv_at hl 1 rfl) ?_
          refine va_get (D := (dC, dI)) (ci := 1) (v := .ref (ad (4 + 4 * ((G i 1).toInt.toNat) + 2))) (C := RX1) (T := TX1) (N := 4) hx hb hg gb_1 hown hK hP (4 + 4 * ((G i 1).toInt.toNat)) (hQ.e0 hl_4) rfl 1 (by decide) (hg _ gm_fieldLink_RX9_331_ErrandGuild_Errand_as_AI_) (fun _ h9 => h9) rfl dX9_doStep_43 ?_
          refine lv_iload_n hx hb dX9_doStep_46 rfl (lv_at hl 0 rfl) ?_
          refine va_iald (f := f (3 + 3 * ((G i 1).toInt.toNat))) hx hb hK hP (4 + 4 * ((G i 1).toInt.toNat) + 2) 0 (hQ.e2 hl_4) rfl (vp_in_iff.mpr ⟨by omega, by omega⟩) dX9_doStep_47 ?_
          refine lv_topi (fun z_56 ez_56 => ?_)
          refine lv_istore (lv' := [(4, .int z_56), (3, .int (G i 6)), (2, .ref (ad (4 + 4 * ((G i 1).toInt.toNat)))), (0, .ref (ad 0)), (1, .ref (ad (50 + 16 * i)))]) hx hb dX9_doStep_48 hl (by decide) rfl (fun ls hl => ?_)
          refine lv_aload_n hx hb dX9_doStep_50 rfl (lv_at hl 2 rfl) ?_
          refine va_get (D := (dC, dI)) (ci := 1) (v := .ref (ad (4 + 4 * ((G i 1).toInt.toNat) + 3))) (C := RX1) (T := TX1) (N := 4) hx hb hg gb_1 hown hK hP (4 + 4 * ((G i 1).toInt.toNat)) (hQ.e0 hl_4) rfl 2 (by decide) (hg _ gm_fieldLink_RX9_334_ErrandGuild_Errand_bs_AI_) (fun _ h9 => h9) rfl dX9_doStep_51 ?_
          refine lv_iload_n hx hb dX9_doStep_54 rfl (lv_at hl 1 rfl) ?_
          refine va_iald (f := f (4 + 3 * ((G i 1).toInt.toNat))) hx hb hK hP (4 + 4 * ((G i 1).toInt.toNat) + 3) 0 (hQ.e3 hl_4) rfl (vp_in_iff.mpr ⟨by omega, by omega⟩) dX9_doStep_55 ?_
          refine lv_topi (fun z_57 ez_57 => ?_)
          refine lv_istore (lv' := [(5, .int z_57), (4, .int z_56), (3, .int (G i 6)), (2, .ref (ad (4 + 4 * ((G i 1).toInt.toNat)))), (0, .ref (ad 0)), (1, .ref (ad (50 + 16 * i)))]) hx hb dX9_doStep_56 hl (by decide) rfl (fun ls hl => ?_)
          refine lv_aload_n hx hb dX9_doStep_58 rfl (lv_at hl 3 rfl) ?_
          refine va_get (D := (dC, dI)) (ci := 1) (v := .ref (ad (4 + 4 * ((G i 1).toInt.toNat) + 1))) (C := RX1) (T := TX1) (N := 4) hx hb hg gb_1 hown hK hP (4 + 4 * ((G i 1).toInt.toNat)) (hQ.e0 hl_4) rfl 0 (by decide) (hg _ gm_fieldLink_RX9_337_ErrandGuild_Errand_ops_AI_) (fun _ h9 => h9) rfl dX9_doStep_59 ?_
          refine lv_iload_n hx hb dX9_doStep_62 rfl (lv_at hl 2 rfl) ?_
          refine va_iald (f := f (2 + 3 * ((G i 1).toInt.toNat))) hx hb hK hP (4 + 4 * ((G i 1).toInt.toNat) + 1) 0 (hQ.e1 hl_4) rfl (vp_in_iff.mpr ⟨by omega, by omega⟩) dX9_doStep_63 ?_
          refine lv_topi (fun z_58 ez_58 => ?_)
          rcases (show (z_58.toInt < 0 ∨ 11 < z_58.toInt) ∨ z_58.toInt = 0 ∨ z_58.toInt = 1 ∨ z_58.toInt = 2 ∨ z_58.toInt = 3 ∨ z_58.toInt = 4 ∨ z_58.toInt = 5 ∨ z_58.toInt = 6 ∨ z_58.toInt = 7 ∨ z_58.toInt = 8 ∨ z_58.toInt = 9 ∨ z_58.toInt = 10 ∨ z_58.toInt = 11 by omega) with sw_59 | sw_59 | sw_59 | sw_59 | sw_59 | sw_59 | sw_59 | sw_59 | sw_59 | sw_59 | sw_59 | sw_59 | sw_59
          · refine lv_tableOut (tgt := 270) hx hb dX9_doStep_64 sw_59 (by decide) ?_
            refine lv_aload_n hx hb dX9_doStep_270 rfl (lv_at hl 4 rfl) ?_
            refine lv_aload_n hx hb dX9_doStep_271 rfl (lv_at hl 5 rfl) ?_
            have hFc := free_all hD hS hA
            refine W_msr2 (fun hm1 hm2 hm3 => ?_)
            refine va_calli (va_runV (As := [.ref (ad (50 + 16 * i))]) (rest := []) ⟨hx, hb, hml, hown, hg⟩ (c_X9_end l dC dI kc ws ad ga gc M n f T G K F R i H.size (hpS H) hQ ⟨h_i1, h_i2, h_i3, h_i4, h_i5, h_i6, h_i7, h_i8, h_i9⟩ (by show i < M; omega)) (cwV 1 hg (gw_V gm_methodLink_RX9_328_yX9_end gm_instanceMethod_yX9_end gm_selects_RX9_yX9_end_yX9_end gm_initialized_RX9 gm_code_yX9_end_cX9_end_2_some_int_) rfl rfl rfl (by decide +kernel) ⟨Nat.le_of_ble_eq_true rfl, Nat.le_of_ble_eq_true rfl⟩) ⟨fun a U g mk q => by obtain ⟨q0, q1, q2, qP, qK, qD, qN⟩ := q; exact ⟨q0, q1, q2, qP, va_K.moved (u := U) (U := U.calling g mk a) (Vm.Alike.refl U.vm) qK, qD, nx_same (u := U) (U := U.calling g mk a) rfl qN⟩, va_recv hK hP (ci := 9) (q0 := 0) rfl hQ.x0, fun U hU hW => ⟨rfl, by rw [hU], by rw [hU], by rw [hU]; exact hP, va_K.moved hW.alike hK, hD.weaken (fun _ _ _ _ => trivial), nx_warm hW hN⟩⟩ rfl rfl hl.1 rfl (lv_room (Nat.le_of_ble_eq_true rfl)) dX9_doStep_272 ⟨by show ce + 0 ≤ 40000; omega, by show se + 0 ≤ 1250000; omega⟩) hS (fun q _ h => hFc q h) hFc (fun r_60 u_61 t H1 locs ht hvm hw hB hz1 hk1 hS => ?_)
            obtain ⟨ad_62, ga_63, gc_64, M_65, n_66, f_67, T_68, G_69, K_70, F_71⟩ := u_61
            have hB : ∃ w : va_W, va_P (dC, dI) vwCl w t.heap ∧ va_D (va_A ws H.size) w ∧ Pic9 kc w ad ga gc M n f T G_69 K F ∧ I9 M n T gc G_69 K R ∧ hpS t.heap + (260 * M + 2 * S9 M gc) ≤ hpS H + (260 * M + 2 * S9 M gc) ∧ 16 * t.heap.size + (256 * M + S9 M gc) ≤ 16 * H.size + (256 * M + S9 M gc) := hB
            rw [ht] at hB
            obtain ⟨ws_72, hP, hD, hQ, hI_73, hy1, hy2⟩ := hB
            have hD := hD.weaken (fun k q _ h => hFc _ h)
            obtain ⟨i1_74, i2_75, i3_76, i4_77, i5_78, i6_79, i7_80, i8_81, i9_82⟩ := id hI_73
            have q1_ := i1_74
            unfold i1 at q1_
            have hSl := S9_le i8_81 i9_82
            have hb0_ := i8_81.2.1 0 (by omega)
            have hb1_ := i8_81.2.1 1 (by omega)
            have hb2_ := i8_81.2.1 2 (by omega)
            refine W_msr2 (fun hn1 hn2 hn3 => ?_)
            obtain ⟨ce2, se2, hk3, hk4, hr1, hr2⟩ : ∃ c2 s2 : Nat, H1.size ≤ s.heap.size + c2 ∧ hpS H1 ≤ hpS s.heap + s2 ∧ s2 + (260 * M + 2 * S9 M gc) ≤ (260 * M + 2 * S9 M gc) ∧ 16 * c2 + (256 * M + S9 M gc) ≤ (256 * M + S9 M gc) := ⟨H1.size - s.heap.size, hpS H1 - hpS s.heap, by omega, by omega, by have := hS.1; omega, by have := hS.1; omega⟩
            refine W_tightP hk3 hk4 ?_
            clear hm1 hm2 hm3 hn1 hn2 hn3 hk3 hk4
            clear hk1 hz1
            generalize ce2 = ce, se2 = se at hr1 hr2 ⊢
            generalize H1 = H at hP hS ⊢
            refine W_msr2 (fun hm1 hm2 hm3 => ?_)
            have hSl := S9_le i8_81 i9_82
            have hb0_ := i8_81.2.1 0 (by omega)
            have hb1_ := i8_81.2.1 1 (by omega)
            have hb2_ := i8_81.2.1 2 (by omega)
            refine W.widen (k := 40000) (n := 1250000) (by omega) (by omega) ?_
            exact W.iret (v := r_60) hx hb hr (fun t ht hW => ⟨⟨r_60, (ad, ga, gc, M, n, f, T, G_69, K, F), rfl, trivial, ws_72, by rw [ht]; exact hP, hD, hQ, I9.mono (R := R) ⟨i1_74, i2_75, i3_76, i4_77, i5_78, i6_79, i7_80, i8_81, i9_82⟩ (by omega), by rw [ht]; show hpS H + (260 * M + 2 * S9 M gc) ≤ hpS s.heap + (260 * M + 2 * S9 M gc); omega, by rw [ht]; show 16 * H.size + (256 * M + S9 M gc) ≤ 16 * s.heap.size + (256 * M + S9 M gc); omega, by show (n 0).toInt ≤ (n 0).toInt; omega, (fun _ _ => rfl), by show M ≤ M; omega⟩, hS.F ht⟩) hS.2.2 dX9_doStep_275
          · refine lv_tableIn (tgt := 128) hx hb dX9_doStep_64 (by omega) (by omega) (by rw [sw_59]; rfl) (by decide) ?_
            refine lv_aload_n hx hb dX9_doStep_128 rfl (lv_at hl 4 rfl) ?_
            refine lv_aload_n hx hb dX9_doStep_129 rfl (lv_at hl 5 rfl) ?_
            refine lv_iload hx hb dX9_doStep_130 (lv_at hl 1 rfl) ?_
            refine lv_iload hx hb dX9_doStep_132 (lv_at hl 0 rfl) ?_
            have hFc := free_all hD hS hA
            refine W_msr2 (fun hm1 hm2 hm3 => ?_)
            refine va_calli (va_runV (As := [.ref (ad (50 + 16 * i)), .int z_56, .int z_57]) (rest := []) ⟨hx, hb, hml, hown, hg⟩ (c_X9_writeIn l dC dI kc ws ad ga gc M n f T G K F R i z_56 z_57 H.size (hpS H) hQ ⟨h_i1, h_i2, h_i3, h_i4, h_i5, h_i6, h_i7, h_i8, h_i9⟩ (by show i < M; omega)) (cwV 3 hg (gw_V gm_methodLink_RX9_340_yX9_writeIn gm_instanceMethod_yX9_writeIn gm_selects_RX9_yX9_writeIn_yX9_writeIn gm_initialized_RX9 gm_code_yX9_writeIn_cX9_writeIn_4_some_int_) rfl rfl rfl (by decide +kernel) ⟨Nat.le_of_ble_eq_true rfl, Nat.le_of_ble_eq_true rfl⟩) ⟨fun a U g mk q => by obtain ⟨q0, q1, q2, qP, qK, qD, qN⟩ := q; exact ⟨q0, q1, q2, qP, va_K.moved (u := U) (U := U.calling g mk a) (Vm.Alike.refl U.vm) qK, qD, nx_same (u := U) (U := U.calling g mk a) rfl qN⟩, va_recv hK hP (ci := 9) (q0 := 0) rfl hQ.x0, fun U hU hW => ⟨rfl, by rw [hU], by rw [hU], by rw [hU]; exact hP, va_K.moved hW.alike hK, hD.weaken (fun _ _ _ _ => trivial), nx_warm hW hN⟩⟩ rfl rfl hl.1 rfl (lv_room (Nat.le_of_ble_eq_true rfl)) dX9_doStep_134 ⟨by show ce + 0 ≤ 40000; omega, by show se + 0 ≤ 1250000; omega⟩) hS (fun q _ h => hFc q h) hFc (fun r_84 u_85 t H1 locs ht hvm hw hB hz1 hk1 hS => ?_)
            obtain ⟨ad_86, ga_87, gc_88, M_89, n_90, f_91, T_92, G_93, K_94, F_95⟩ := u_85
            have hB : ∃ w : va_W, va_P (dC, dI) vwCl w t.heap ∧ va_D (va_A ws H.size) w ∧ Pic9 kc w ad ga gc M n f T G_93 K F_95 ∧ I9 M n T gc G_93 K R ∧ hpS t.heap + (260 * M + 2 * S9 M gc) ≤ hpS H + (260 * M + 2 * S9 M gc) ∧ 16 * t.heap.size + (256 * M + S9 M gc) ≤ 16 * H.size + (256 * M + S9 M gc) := hB
            rw [ht] at hB
            obtain ⟨ws_96, hP, hD, hQ, hI_97, hy1, hy2⟩ := hB
            have hD := hD.weaken (fun k q _ h => hFc _ h)
            obtain ⟨i1_98, i2_99, i3_100, i4_101, i5_102, i6_103, i7_104, i8_105, i9_106⟩ := id hI_97
            have q1_ := i1_98
            unfold i1 at q1_
            have hSl := S9_le i8_105 i9_106
            have hb0_ := i8_105.2.1 0 (by omega)
            have hb1_ := i8_105.2.1 1 (by omega)
            have hb2_ := i8_105.2.1 2 (by omega)
            refine W_msr2 (fun hn1 hn2 hn3 => ?_)
            obtain ⟨ce2, se2, hk3, hk4, hr1, hr2⟩ : ∃ c2 s2 : Nat, H1.size ≤ s.heap.size + c2 ∧ hpS H1 ≤ hpS s.heap + s2 ∧ s2 + (260 * M + 2 * S9 M gc) ≤ (260 * M + 2 * S9 M gc) ∧ 16 * c2 + (256 * M + S9 M gc) ≤ (256 * M + S9 M gc) := ⟨H1.size - s.heap.size, hpS H1 - hpS s.heap, by omega, by omega, by have := hS.1; omega, by have := hS.1; omega⟩
            refine W_tightP hk3 hk4 ?_
            clear hm1 hm2 hm3 hn1 hn2 hn3 hk3 hk4
            clear hk1 hz1
            generalize ce2 = ce, se2 = se at hr1 hr2 ⊢
            generalize H1 = H at hP hS ⊢
            refine W_msr2 (fun hm1 hm2 hm3 => ?_)
            have hSl := S9_le i8_105 i9_106
            have hb0_ := i8_105.2.1 0 (by omega)
            have hb1_ := i8_105.2.1 1 (by omega)
            have hb2_ := i8_105.2.1 2 (by omega)
            refine W.widen (k := 40000) (n := 1250000) (by omega) (by omega) ?_
            exact W.iret (v := r_84) hx hb hr (fun t ht hW => ⟨⟨r_84, (ad, ga, gc, M, n, f, T, G_93, K, F_95), rfl, trivial, ws_96, by rw [ht]; exact hP, hD, hQ, I9.mono (R := R) ⟨i1_98, i2_99, i3_100, i4_101, i5_102, i6_103, i7_104, i8_105, i9_106⟩ (by omega), by rw [ht]; show hpS H + (260 * M + 2 * S9 M gc) ≤ hpS s.heap + (260 * M + 2 * S9 M gc); omega, by rw [ht]; show 16 * H.size + (256 * M + S9 M gc) ≤ 16 * s.heap.size + (256 * M + S9 M gc); omega, by show (n 0).toInt ≤ (n 0).toInt; omega, (fun _ _ => rfl), by show M ≤ M; omega⟩, hS.F ht⟩) hS.2.2 dX9_doStep_137
          · refine lv_tableIn (tgt := 138) hx hb dX9_doStep_64 (by omega) (by omega) (by rw [sw_59]; rfl) (by decide) ?_
            refine lv_aload_n hx hb dX9_doStep_138 rfl (lv_at hl 4 rfl) ?_
            refine lv_aload_n hx hb dX9_doStep_139 rfl (lv_at hl 5 rfl) ?_
            refine lv_iload hx hb dX9_doStep_140 (lv_at hl 1 rfl) ?_
            have hFc := free_all hD hS hA
            refine W_msr2 (fun hm1 hm2 hm3 => ?_)
            refine va_calli (va_runV (As := [.ref (ad (50 + 16 * i)), .int z_56]) (rest := []) ⟨hx, hb, hml, hown, hg⟩ (c_X9_addReading l dC dI kc ws ad ga gc M n f T G K F R i z_56 H.size (hpS H) hQ ⟨h_i1, h_i2, h_i3, h_i4, h_i5, h_i6, h_i7, h_i8, h_i9⟩ (by show i < M; omega) (by show R ≤ 310000; omega)) (cwV 2 hg (gw_V gm_methodLink_RX9_344_yX9_addReading gm_instanceMethod_yX9_addReading gm_selects_RX9_yX9_addReading_yX9_addReading gm_initialized_RX9 gm_code_yX9_addReading_cX9_addReading_4_some_int_) rfl rfl rfl (by decide +kernel) ⟨Nat.le_of_ble_eq_true rfl, Nat.le_of_ble_eq_true rfl⟩) ⟨fun a U g mk q => by obtain ⟨q0, q1, q2, qP, qK, qD, qN⟩ := q; exact ⟨q0, q1, q2, qP, va_K.moved (u := U) (U := U.calling g mk a) (Vm.Alike.refl U.vm) qK, qD, nx_same (u := U) (U := U.calling g mk a) rfl qN⟩, va_recv hK hP (ci := 9) (q0 := 0) rfl hQ.x0, fun U hU hW => ⟨rfl, by rw [hU], by rw [hU], by rw [hU]; exact hP, va_K.moved hW.alike hK, hD.weaken (fun _ _ _ _ => trivial), nx_warm hW hN⟩⟩ rfl rfl hl.1 rfl (lv_room (Nat.le_of_ble_eq_true rfl)) dX9_doStep_142 ⟨by show ce + 1200 ≤ 40000; omega, by show se + 50000 ≤ 1250000; omega⟩) hS (fun q _ h => hFc q h) hFc (fun r_108 u_109 t H1 locs ht hvm hw hB hz1 hk1 hS => ?_)
            obtain ⟨ad_110, ga_111, gc_112, M_113, n_114, f_115, T_116, G_117, K_118, F_119⟩ := u_109
            have hB : ∃ w : va_W, va_P (dC, dI) vwCl w t.heap ∧ va_D (va_A ws H.size) w ∧ Pic9 kc w ad ga_111 gc_112 M n_114 f_115 T G_117 K F ∧ I9 M n_114 T gc_112 G_117 K R ∧ hpS t.heap + (260 * M + 2 * S9 M gc) ≤ hpS H + (260 * M + 2 * S9 M gc_112) ∧ 16 * t.heap.size + (256 * M + S9 M gc) ≤ 16 * H.size + (256 * M + S9 M gc_112) ∧ (n 0).toInt ≤ (n_114 0).toInt := hB
            rw [ht] at hB
            obtain ⟨ws_120, hP, hD, hQ, hI_122, hy1, hy2, hn_121⟩ := hB
            have hD := hD.weaken (fun k q _ h => hFc _ h)
            obtain ⟨i1_123, i2_124, i3_125, i4_126, i5_127, i6_128, i7_129, i8_130, i9_131⟩ := id hI_122
            have q1_ := i1_123
            unfold i1 at q1_
            have hSl := S9_le i8_130 i9_131
            have hb0_ := i8_130.2.1 0 (by omega)
            have hb1_ := i8_130.2.1 1 (by omega)
            have hb2_ := i8_130.2.1 2 (by omega)
            refine W_msr2 (fun hn1 hn2 hn3 => ?_)
            obtain ⟨ce2, se2, hk3, hk4, hr1, hr2⟩ : ∃ c2 s2 : Nat, H1.size ≤ s.heap.size + c2 ∧ hpS H1 ≤ hpS s.heap + s2 ∧ s2 + (260 * M + 2 * S9 M gc) ≤ (260 * M + 2 * S9 M gc_112) ∧ 16 * c2 + (256 * M + S9 M gc) ≤ (256 * M + S9 M gc_112) := ⟨H1.size - s.heap.size, hpS H1 - hpS s.heap, by omega, by omega, by have := hS.1; omega, by have := hS.1; omega⟩
            refine W_tightP hk3 hk4 ?_
            clear hm1 hm2 hm3 hn1 hn2 hn3 hk3 hk4
            clear hk1 hz1
            generalize ce2 = ce, se2 = se at hr1 hr2 ⊢
            generalize H1 = H at hP hS ⊢
            have w_132 : S9 M gc_112 + gc 0 ≤ S9 M gc + gc_112 0 ∧ (n_114 0).toInt = (n 0).toInt := hw
            refine W_msr2 (fun hm1 hm2 hm3 => ?_)
            have hSl := S9_le i8_130 i9_131
            have hb0_ := i8_130.2.1 0 (by omega)
            have hb1_ := i8_130.2.1 1 (by omega)
            have hb2_ := i8_130.2.1 2 (by omega)
            refine W.widen (k := 40000) (n := 1250000) (by omega) (by omega) ?_
            exact W.iret (v := r_108) hx hb hr (fun t ht hW => ⟨⟨r_108, (ad, ga_111, gc_112, M, n_114, f_115, T, G_117, K, F), rfl, trivial, ws_120, by rw [ht]; exact hP, hD, hQ, I9.mono (R := R) ⟨i1_123, i2_124, i3_125, i4_126, i5_127, i6_128, i7_129, i8_130, i9_131⟩ (by omega), by rw [ht]; show hpS H + (260 * M + 2 * S9 M gc) ≤ hpS s.heap + (260 * M + 2 * S9 M gc_112); omega, by rw [ht]; show 16 * H.size + (256 * M + S9 M gc) ≤ 16 * s.heap.size + (256 * M + S9 M gc_112); omega, by show (n 0).toInt ≤ (n_114 0).toInt; omega, (fun _ _ => rfl), by show M ≤ M; omega⟩, hS.F ht⟩) hS.2.2 dX9_doStep_145
          · refine lv_tableIn (tgt := 146) hx hb dX9_doStep_64 (by omega) (by omega) (by rw [sw_59]; rfl) (by decide) ?_
            refine lv_aload_n hx hb dX9_doStep_146 rfl (lv_at hl 4 rfl) ?_
            refine lv_aload_n hx hb dX9_doStep_147 rfl (lv_at hl 5 rfl) ?_
            refine lv_iload hx hb dX9_doStep_148 (lv_at hl 1 rfl) ?_
            refine lv_iload hx hb dX9_doStep_150 (lv_at hl 0 rfl) ?_
            have hFc := free_all hD hS hA
            refine W_msr2 (fun hm1 hm2 hm3 => ?_)
            refine va_calli (va_runV (As := [.ref (ad (50 + 16 * i)), .int z_56, .int z_57]) (rest := []) ⟨hx, hb, hml, hown, hg⟩ (c_X9_bind l dC dI kc ws ad ga gc M n f T G K F R i z_56 z_57 H.size (hpS H) hQ ⟨h_i1, h_i2, h_i3, h_i4, h_i5, h_i6, h_i7, h_i8, h_i9⟩ (by show i < M; omega)) (cwV 3 hg (gw_V gm_methodLink_RX9_347_yX9_bind gm_instanceMethod_yX9_bind gm_selects_RX9_yX9_bind_yX9_bind gm_initialized_RX9 gm_code_yX9_bind_cX9_bind_4_some_int_) rfl rfl rfl (by decide +kernel) ⟨Nat.le_of_ble_eq_true rfl, Nat.le_of_ble_eq_true rfl⟩) ⟨fun a U g mk q => by obtain ⟨q0, q1, q2, qP, qK, qD, qN⟩ := q; exact ⟨q0, q1, q2, qP, va_K.moved (u := U) (U := U.calling g mk a) (Vm.Alike.refl U.vm) qK, qD, nx_same (u := U) (U := U.calling g mk a) rfl qN⟩, va_recv hK hP (ci := 9) (q0 := 0) rfl hQ.x0, fun U hU hW => ⟨rfl, by rw [hU], by rw [hU], by rw [hU]; exact hP, va_K.moved hW.alike hK, hD.weaken (fun _ _ _ _ => trivial), nx_warm hW hN⟩⟩ rfl rfl hl.1 rfl (lv_room (Nat.le_of_ble_eq_true rfl)) dX9_doStep_152 ⟨by show ce + 0 ≤ 40000; omega, by show se + 0 ≤ 1250000; omega⟩) hS (fun q _ h => hFc q h) hFc (fun r_133 u_134 t H1 locs ht hvm hw hB hz1 hk1 hS => ?_)
            obtain ⟨ad_135, ga_136, gc_137, M_138, n_139, f_140, T_141, G_142, K_143, F_144⟩ := u_134
            have hB : ∃ w : va_W, va_P (dC, dI) vwCl w t.heap ∧ va_D (va_A ws H.size) w ∧ Pic9 kc w ad ga gc M n f T G_142 K F_144 ∧ I9 M n T gc G_142 K R ∧ hpS t.heap + (260 * M + 2 * S9 M gc) ≤ hpS H + (260 * M + 2 * S9 M gc) ∧ 16 * t.heap.size + (256 * M + S9 M gc) ≤ 16 * H.size + (256 * M + S9 M gc) := hB
            rw [ht] at hB
            obtain ⟨ws_145, hP, hD, hQ, hI_146, hy1, hy2⟩ := hB
            have hD := hD.weaken (fun k q _ h => hFc _ h)
            obtain ⟨i1_147, i2_148, i3_149, i4_150, i5_151, i6_152, i7_153, i8_154, i9_155⟩ := id hI_146
            have q1_ := i1_147
            unfold i1 at q1_
            have hSl := S9_le i8_154 i9_155
            have hb0_ := i8_154.2.1 0 (by omega)
            have hb1_ := i8_154.2.1 1 (by omega)
            have hb2_ := i8_154.2.1 2 (by omega)
            refine W_msr2 (fun hn1 hn2 hn3 => ?_)
            obtain ⟨ce2, se2, hk3, hk4, hr1, hr2⟩ : ∃ c2 s2 : Nat, H1.size ≤ s.heap.size + c2 ∧ hpS H1 ≤ hpS s.heap + s2 ∧ s2 + (260 * M + 2 * S9 M gc) ≤ (260 * M + 2 * S9 M gc) ∧ 16 * c2 + (256 * M + S9 M gc) ≤ (256 * M + S9 M gc) := ⟨H1.size - s.heap.size, hpS H1 - hpS s.heap, by omega, by omega, by have := hS.1; omega, by have := hS.1; omega⟩
            refine W_tightP hk3 hk4 ?_
            clear hm1 hm2 hm3 hn1 hn2 hn3 hk3 hk4
            clear hk1 hz1
            generalize ce2 = ce, se2 = se at hr1 hr2 ⊢
            generalize H1 = H at hP hS ⊢
            refine W_msr2 (fun hm1 hm2 hm3 => ?_)
            have hSl := S9_le i8_154 i9_155
            have hb0_ := i8_154.2.1 0 (by omega)
            have hb1_ := i8_154.2.1 1 (by omega)
            have hb2_ := i8_154.2.1 2 (by omega)
            refine W.widen (k := 40000) (n := 1250000) (by omega) (by omega) ?_
            exact W.iret (v := r_133) hx hb hr (fun t ht hW => ⟨⟨r_133, (ad, ga, gc, M, n, f, T, G_142, K, F_144), rfl, trivial, ws_145, by rw [ht]; exact hP, hD, hQ, I9.mono (R := R) ⟨i1_147, i2_148, i3_149, i4_150, i5_151, i6_152, i7_153, i8_154, i9_155⟩ (by omega), by rw [ht]; show hpS H + (260 * M + 2 * S9 M gc) ≤ hpS s.heap + (260 * M + 2 * S9 M gc); omega, by rw [ht]; show 16 * H.size + (256 * M + S9 M gc) ≤ 16 * s.heap.size + (256 * M + S9 M gc); omega, by show (n 0).toInt ≤ (n 0).toInt; omega, (fun _ _ => rfl), by show M ≤ M; omega⟩, hS.F ht⟩) hS.2.2 dX9_doStep_155
          · refine lv_tableIn (tgt := 156) hx hb dX9_doStep_64 (by omega) (by omega) (by rw [sw_59]; rfl) (by decide) ?_
            refine lv_aload_n hx hb dX9_doStep_156 rfl (lv_at hl 5 rfl) ?_
            refine va_get (D := (dC, dI)) (ci := 7) (v := .ref (ad (50 + 16 * i + 6))) (C := RX7) (T := TX7) (N := 15) hx hb hg gb_7 hown hK hP (50 + 16 * i) (hQ.b0 hi) rfl 12 (by decide) (hg _ gm_fieldLink_RX9_177_ErrandGuild_Run_scopes_LErrandGuild_Scopes_) (fun _ h9 => h9) rfl dX9_doStep_157 ?_
            refine lv_iload hx hb dX9_doStep_160 (lv_at hl 1 rfl) ?_
            have hCc : ([(50 + 16 * i + 6), (50 + 16 * i + 7)] : List Nat).map (fun i => ws[i]?) = ([(ad (50 + 16 * i + 6), .inr (8, [.ref (ad (50 + 16 * i + 7)), .ref (ad (50 + 16 * i + 8)), .ref (ad (50 + 16 * i + 9)), .int (G i 14), .ref (ad (50 + 16 * i + 10)), .ref (ad (50 + 16 * i + 11)), .ref (ad (50 + 16 * i + 12)), .int (G i 15), .int (G i 16)])), (ad (50 + 16 * i + 7), .inl (kc 0, 24, .inl (F i 3)))] : va_W).map some := mp2 (hQ.b6 hi) (hQ.b7 hi)
            have hNd : ([(50 + 16 * i + 6), (50 + 16 * i + 7)] : List Nat).Nodup := (nd_off (50 + 16 * i) (l := [6, 7]) (by decide))
            have hPc := hP.pick [(50 + 16 * i + 6), (50 + 16 * i + 7)] hCc
            have hDc := hD.pick [(50 + 16 * i + 6), (50 + 16 * i + 7)] hNd hCc
            have hKc := hK.sub (tys' := [((kc 0), .int)]) [0] rfl
            have hFc := va_free (wc := [(ad (50 + 16 * i + 6), .inr (8, [.ref (ad (50 + 16 * i + 7)), .ref (ad (50 + 16 * i + 8)), .ref (ad (50 + 16 * i + 9)), .int (G i 14), .ref (ad (50 + 16 * i + 10)), .ref (ad (50 + 16 * i + 11)), .ref (ad (50 + 16 * i + 12)), .int (G i 15), .int (G i 16)])), (ad (50 + 16 * i + 7), .inl (kc 0, 24, .inl (F i 3)))]) hD hS hA [(50 + 16 * i + 6), (50 + 16 * i + 7)] hCc
            refine W_msr2 (fun hm1 hm2 hm3 => ?_)
            refine va_calli (va_runV (As := [.int z_56]) (rest := []) ⟨hx, hb, hml, hown, hg⟩ (c_X8_free l dC dI (ad (50 + 16 * i + 6)) (ad (50 + 16 * i + 7)) (ad (50 + 16 * i + 8)) (ad (50 + 16 * i + 9)) (ad (50 + 16 * i + 10)) (ad (50 + 16 * i + 11)) (ad (50 + 16 * i + 12)) (kc 0) (F i 3) (G i 14) (G i 15) (G i 16) z_56 H.size ) (cwV 1 hg (gw_V gm_methodLink_RX9_349_yX8_free gm_instanceMethod_yX8_free gm_selects_RX8_yX8_free_yX8_free gm_initialized_RX8 gm_code_yX8_free_cX8_free_3_some_boolean_) rfl rfl rfl (by decide +kernel) ⟨Nat.le_of_ble_eq_true rfl, Nat.le_of_ble_eq_true rfl⟩) ⟨fun a U g mk q => by obtain ⟨q0, q1, qP, qK, qD, qN⟩ := q; exact ⟨q0, q1, qP, va_K.moved (u := U) (U := U.calling g mk a) (Vm.Alike.refl U.vm) qK, qD, nx_same (u := U) (U := U.calling g mk a) rfl qN⟩, va_recv hK hP (ci := 8) (q0 := (50 + 16 * i + 6)) rfl (hQ.b6 hi), fun U hU hW => ⟨rfl, by rw [hU], by rw [hU]; exact hPc, va_K.moved hW.alike hKc, hDc.weaken (fun _ _ _ _ => trivial), nx_warm hW hN⟩⟩ rfl rfl hl.1 rfl (lv_room (Nat.le_of_ble_eq_true rfl)) dX9_doStep_162 ⟨by show ce + 0 ≤ 40000; omega, by show se + 0 ≤ 1250000; omega⟩) hS (fun q _ h => hFc q h) hFc (fun r_157 u_158 t H1 locs ht hvm hw hB hz1 hk1 hS => ?_)
            obtain ⟨ad_159, ac_160, af_161, ag_162⟩ := u_158
            obtain ⟨hP1, hD1, hK1⟩ := hB
            rw [ht] at hP1
            obtain ⟨hP, hD⟩ := va_repl (w1 := [((ad (50 + 16 * i + 6)), .inr (8, [.ref (ad (50 + 16 * i + 7)), .ref (ad (50 + 16 * i + 8)), .ref (ad (50 + 16 * i + 9)), .int (af_161 6 0), .ref (ad (50 + 16 * i + 10)), .ref (ad (50 + 16 * i + 11)), .ref (ad (50 + 16 * i + 12)), .int (af_161 7 0), .int (af_161 8 0)])), ((ad (50 + 16 * i + 7)), .inl ((kc 0), 24, .inl (F i 3)))]) hP hD [(50 + 16 * i + 6), (50 + 16 * i + 7)] hCc hNd rfl hk1 hFc hP1 hD1
            obtain ⟨ws_165, G_163, F_164, eG_163, eF_164, hP, hD, hQ⟩ : ∃ (ws_165 : va_W) (G_163 : Nat → Nat → Int32) (F_164 : Nat → Nat → Nat → Int32), G_163 = u2 (u2 (u2 G i 14 (af_161 6 0)) i 15 (af_161 7 0)) i 16 (af_161 8 0) ∧ F_164 = u2 F i 3 (F i 3) ∧ va_P (dC, dI) vwCl ws_165 H1 ∧ va_D A ws_165 ∧ Pic9 kc ws_165 ad ga gc M n f T G_163 K F_164 := ⟨_, _, _, rfl, rfl, hP, hD, (hQ.sco2 hi (af_161 6 0) (af_161 7 0) (af_161 8 0)).arr hi 7 3 (by decide) (F i 3) rfl⟩
            have i6_166 : i6 n T G_163 := by rw [eG_163]; exact (i6.pG (i6.pG (i6.pG h_i6 i _ (by decide)) i _ (by decide)) i _ (by decide))
            have i7_167 : i7 n G_163 := by rw [eG_163]; exact (i7.pG (i7.pG (i7.pG h_i7 i _ (by decide)) i _ (by decide)) i _ (by decide))
            have i8_168 : i8 M n gc G_163 := by rw [eG_163]; exact (i8.pG (i8.pG (i8.pG h_i8 i _ (by decide)) i _ (by decide)) i _ (by decide))
            have i9_169 : i9 M gc G_163 R := by rw [eG_163]; exact (i9.pG (i9.pG (i9.pG h_i9 i _ (by decide)) i _ (by decide)) i _ (by decide))
            refine W.widen (k := ce) (n := se) (Nat.le_refl _) (Nat.le_refl _) ?_
            generalize H1 = H at hP hS ⊢
            rcases hw with ⟨rfl, w_170⟩ | ⟨rfl, w_170⟩
            · refine lv_if_eq (tgt := 172) hx hb dX9_doStep_165 (by decide) (fun c_171 => absurd c_171 (by decide)) (fun _ => ?_)
              refine lv_iconst (v := -1) hx hb dX9_doStep_168 (by decide) ?_
              refine lv_goto (tgt := 173) hx hb dX9_doStep_169 (by decide) ?_
              refine W_msr2 (fun hm1 hm2 hm3 => ?_)
              have hSl := S9_le i8_168 i9_169
              have hb0_ := i8_168.2.1 0 (by omega)
              have hb1_ := i8_168.2.1 1 (by omega)
              have hb2_ := i8_168.2.1 2 (by omega)
              refine W.widen (k := 40000) (n := 1250000) (by omega) (by omega) ?_
              exact W.iret (v := -1) hx hb hr (fun t ht hW => ⟨⟨-1, (ad, ga, gc, M, n, f, T, G_163, K, F_164), rfl, trivial, ws_165, by rw [ht]; exact hP, hD, hQ, I9.mono (R := R) ⟨h_i1, h_i2, h_i3, h_i4, h_i5, i6_166, i7_167, i8_168, i9_169⟩ (by omega), by rw [ht]; show hpS H + (260 * M + 2 * S9 M gc) ≤ hpS s.heap + (260 * M + 2 * S9 M gc); omega, by rw [ht]; show 16 * H.size + (256 * M + S9 M gc) ≤ 16 * s.heap.size + (256 * M + S9 M gc); omega, by show (n 0).toInt ≤ (n 0).toInt; omega, (fun _ _ => rfl), by show M ≤ M; omega⟩, hS.F ht⟩) hS.2.2 dX9_doStep_173
            · refine lv_if_eq (tgt := 172) hx hb dX9_doStep_165 (by decide) (fun _ => ?_) (fun c_172 => absurd c_172 (by decide))
              refine lv_iconst (v := 5) hx hb dX9_doStep_172 (by decide) ?_
              refine W_msr2 (fun hm1 hm2 hm3 => ?_)
              have hSl := S9_le i8_168 i9_169
              have hb0_ := i8_168.2.1 0 (by omega)
              have hb1_ := i8_168.2.1 1 (by omega)
              have hb2_ := i8_168.2.1 2 (by omega)
              refine W.widen (k := 40000) (n := 1250000) (by omega) (by omega) ?_
              exact W.iret (v := 5) hx hb hr (fun t ht hW => ⟨⟨5, (ad, ga, gc, M, n, f, T, G_163, K, F_164), rfl, trivial, ws_165, by rw [ht]; exact hP, hD, hQ, I9.mono (R := R) ⟨h_i1, h_i2, h_i3, h_i4, h_i5, i6_166, i7_167, i8_168, i9_169⟩ (by omega), by rw [ht]; show hpS H + (260 * M + 2 * S9 M gc) ≤ hpS s.heap + (260 * M + 2 * S9 M gc); omega, by rw [ht]; show 16 * H.size + (256 * M + S9 M gc) ≤ 16 * s.heap.size + (256 * M + S9 M gc); omega, by show (n 0).toInt ≤ (n 0).toInt; omega, (fun _ _ => rfl), by show M ≤ M; omega⟩, hS.F ht⟩) hS.2.2 dX9_doStep_173
          · refine lv_tableIn (tgt := 174) hx hb dX9_doStep_64 (by omega) (by omega) (by rw [sw_59]; rfl) (by decide) ?_
            refine lv_aload_n hx hb dX9_doStep_174 rfl (lv_at hl 4 rfl) ?_
            refine lv_aload_n hx hb dX9_doStep_175 rfl (lv_at hl 5 rfl) ?_
            refine lv_iload hx hb dX9_doStep_176 (lv_at hl 1 rfl) ?_
            refine lv_iconst (v := 1) hx hb dX9_doStep_178 (by decide) ?_
            refine lv_iload hx hb dX9_doStep_179 (lv_at hl 0 rfl) ?_
            refine lv_iconst (v := 1) hx hb dX9_doStep_181 (by decide) ?_
            refine lv_icmp_ne (tgt := 189) hx hb dX9_doStep_182 (by decide) (fun c_173 => ?_) (fun c_173 => ?_)
            · simp only [i_lt, i_le, i_eq, ti_1] at c_173
              refine lv_iconst (v := 0) hx hb dX9_doStep_189 (by decide) ?_
              have hFc := free_all hD hS hA
              refine W_msr2 (fun hm1 hm2 hm3 => ?_)
              refine va_calli (va_runV (As := [.ref (ad (50 + 16 * i)), .int z_56, .int 1, .int 0]) (rest := []) ⟨hx, hb, hml, hown, hg⟩ (c_X9_hand l dC dI kc ws ad ga gc M n f T G K F R i z_56 1 0 H.size (hpS H) hQ ⟨h_i1, h_i2, h_i3, h_i4, h_i5, h_i6, h_i7, h_i8, h_i9⟩ (by have t_0 := ti_1; have t_1 := ti_0; show i < M; omega) (by have t_0 := ti_1; have t_1 := ti_0; show (i : Int) < (n 0).toInt; omega) (by have t_0 := ti_1; have t_1 := ti_0; show R ≤ 310000; omega)) (cwV 4 hg (gw_V gm_methodLink_RX9_352_yX9_hand gm_instanceMethod_yX9_hand gm_selects_RX9_yX9_hand_yX9_hand gm_initialized_RX9 gm_code_yX9_hand_cX9_hand_7_some_int_) rfl rfl rfl (by decide +kernel) ⟨Nat.le_of_ble_eq_true rfl, Nat.le_of_ble_eq_true rfl⟩) ⟨fun a U g mk q => by obtain ⟨q0, q1, q2, qP, qK, qD, qN⟩ := q; exact ⟨q0, q1, q2, qP, va_K.moved (u := U) (U := U.calling g mk a) (Vm.Alike.refl U.vm) qK, qD, nx_same (u := U) (U := U.calling g mk a) rfl qN⟩, va_recv hK hP (ci := 9) (q0 := 0) rfl hQ.x0, fun U hU hW => ⟨rfl, by rw [hU], by rw [hU], by rw [hU]; exact hP, va_K.moved hW.alike hK, hD.weaken (fun _ _ _ _ => trivial), nx_warm hW hN⟩⟩ rfl rfl hl.1 rfl (lv_room (Nat.le_of_ble_eq_true rfl)) dX9_doStep_190 ⟨by show ce + 3500 ≤ 40000; omega, by show se + 59000 ≤ 1250000; omega⟩) hS (fun q _ h => hFc q h) hFc (fun r_174 u_175 t H1 locs ht hvm hw hB hz1 hk1 hS => ?_)
              obtain ⟨ad_176, ga_177, gc_178, M_179, n_180, f_181, T_182, G_183, K_184, F_185⟩ := u_175
              have hB : ∃ w : va_W, va_P (dC, dI) vwCl w t.heap ∧ va_D (va_A ws H.size) w ∧ Pic9 kc w ad_176 ga_177 gc_178 M_179 n_180 f T G_183 K_184 F_185 ∧ I9 M_179 n_180 T gc_178 G_183 K_184 R ∧ hpS t.heap + (260 * M + 2 * S9 M gc) ≤ hpS H + (260 * M_179 + 2 * S9 M_179 gc_178) ∧ 16 * t.heap.size + (256 * M + S9 M gc) ≤ 16 * H.size + (256 * M_179 + S9 M_179 gc_178) ∧ (n 0).toInt ≤ (n_180 0).toInt ∧ (∀ q : Nat, q < 50 + 16 * M → ad_176 q = ad q) ∧ M ≤ M_179 := hB
              rw [ht] at hB
              obtain ⟨ws_186, hP, hD, hQ, hI_190, hy1, hy2, hn_187, hE_188, hM_189⟩ := hB
              have hD := hD.weaken (fun k q _ h => hFc _ h)
              obtain ⟨i1_191, i2_192, i3_193, i4_194, i5_195, i6_196, i7_197, i8_198, i9_199⟩ := id hI_190
              have hl_200 : i < M_179 := by omega
              have q1_ := i1_191
              unfold i1 at q1_
              have hSl := S9_le i8_198 i9_199
              have hb0_ := i8_198.2.1 0 (by omega)
              have hb1_ := i8_198.2.1 1 (by omega)
              have hb2_ := i8_198.2.1 2 (by omega)
              refine W_msr2 (fun hn1 hn2 hn3 => ?_)
              obtain ⟨ce2, se2, hk3, hk4, hr1, hr2⟩ : ∃ c2 s2 : Nat, H1.size ≤ s.heap.size + c2 ∧ hpS H1 ≤ hpS s.heap + s2 ∧ s2 + (260 * M + 2 * S9 M gc) ≤ (260 * M_179 + 2 * S9 M_179 gc_178) ∧ 16 * c2 + (256 * M + S9 M gc) ≤ (256 * M_179 + S9 M_179 gc_178) := ⟨H1.size - s.heap.size, hpS H1 - hpS s.heap, by omega, by omega, by have := hS.1; omega, by have := hS.1; omega⟩
              refine W_tightP hk3 hk4 ?_
              clear hm1 hm2 hm3 hn1 hn2 hn3 hk3 hk4
              clear hk1 hz1
              generalize ce2 = ce, se2 = se at hr1 hr2 ⊢
              generalize H1 = H at hP hS ⊢
              have hl : lv_has ls 6 [(5, .int z_57), (4, .int z_56), (3, .int (G i 6)), (2, .ref (ad_176 (4 + 4 * ((G i 1).toInt.toNat)))), (0, .ref (ad_176 0)), (1, .ref (ad_176 (50 + 16 * i)))] := by rw [hE_188 (4 + 4 * ((G i 1).toInt.toNat)) (by omega), hE_188 0 (by omega), hE_188 (50 + 16 * i) (by omega)]; exact hl
              have w_201 : S9 M_179 gc_178 + 16 * M ≤ S9 M gc + 16 * M_179 := hw
              refine W.eq (g2 := F0 m 193 ls [.int r_174]) (by first | rfl | (simp only [hE_188 (4 + 4 * ((G i 1).toInt.toNat)) (by omega), hE_188 0 (by omega), hE_188 (50 + 16 * i) (by omega)]))  ?_
              refine W_msr2 (fun hm1 hm2 hm3 => ?_)
              have hSl := S9_le i8_198 i9_199
              have hb0_ := i8_198.2.1 0 (by omega)
              have hb1_ := i8_198.2.1 1 (by omega)
              have hb2_ := i8_198.2.1 2 (by omega)
              refine W.widen (k := 40000) (n := 1250000) (by omega) (by omega) ?_
              exact W.iret (v := r_174) hx hb hr (fun t ht hW => ⟨⟨r_174, (ad_176, ga_177, gc_178, M_179, n_180, f, T, G_183, K_184, F_185), rfl, trivial, ws_186, by rw [ht]; exact hP, hD, hQ, I9.mono (R := R) ⟨i1_191, i2_192, i3_193, i4_194, i5_195, i6_196, i7_197, i8_198, i9_199⟩ (by omega), by rw [ht]; show hpS H + (260 * M + 2 * S9 M gc) ≤ hpS s.heap + (260 * M_179 + 2 * S9 M_179 gc_178); omega, by rw [ht]; show 16 * H.size + (256 * M + S9 M gc) ≤ 16 * s.heap.size + (256 * M_179 + S9 M_179 gc_178); omega, by show (n 0).toInt ≤ (n_180 0).toInt; omega, hE_188, by show M ≤ M_179; omega⟩, hS.F ht⟩) hS.2.2 dX9_doStep_193
            · simp only [i_lt, i_le, i_eq, ti_1] at c_173
              refine lv_iconst (v := 1) hx hb dX9_doStep_185 (by decide) ?_
              refine lv_goto (tgt := 190) hx hb dX9_doStep_186 (by decide) ?_
              have hFc := free_all hD hS hA
              refine W_msr2 (fun hm1 hm2 hm3 => ?_)
              refine va_calli (va_runV (As := [.ref (ad (50 + 16 * i)), .int z_56, .int 1, .int 1]) (rest := []) ⟨hx, hb, hml, hown, hg⟩ (c_X9_hand l dC dI kc ws ad ga gc M n f T G K F R i z_56 1 1 H.size (hpS H) hQ ⟨h_i1, h_i2, h_i3, h_i4, h_i5, h_i6, h_i7, h_i8, h_i9⟩ (by have t_0 := ti_1; have t_1 := ti_1; show i < M; omega) (by have t_0 := ti_1; have t_1 := ti_1; show (i : Int) < (n 0).toInt; omega) (by have t_0 := ti_1; have t_1 := ti_1; show R ≤ 310000; omega)) (cwV 4 hg (gw_V gm_methodLink_RX9_352_yX9_hand gm_instanceMethod_yX9_hand gm_selects_RX9_yX9_hand_yX9_hand gm_initialized_RX9 gm_code_yX9_hand_cX9_hand_7_some_int_) rfl rfl rfl (by decide +kernel) ⟨Nat.le_of_ble_eq_true rfl, Nat.le_of_ble_eq_true rfl⟩) ⟨fun a U g mk q => by obtain ⟨q0, q1, q2, qP, qK, qD, qN⟩ := q; exact ⟨q0, q1, q2, qP, va_K.moved (u := U) (U := U.calling g mk a) (Vm.Alike.refl U.vm) qK, qD, nx_same (u := U) (U := U.calling g mk a) rfl qN⟩, va_recv hK hP (ci := 9) (q0 := 0) rfl hQ.x0, fun U hU hW => ⟨rfl, by rw [hU], by rw [hU], by rw [hU]; exact hP, va_K.moved hW.alike hK, hD.weaken (fun _ _ _ _ => trivial), nx_warm hW hN⟩⟩ rfl rfl hl.1 rfl (lv_room (Nat.le_of_ble_eq_true rfl)) dX9_doStep_190 ⟨by show ce + 3500 ≤ 40000; omega, by show se + 59000 ≤ 1250000; omega⟩) hS (fun q _ h => hFc q h) hFc (fun r_202 u_203 t H1 locs ht hvm hw hB hz1 hk1 hS => ?_)
              obtain ⟨ad_204, ga_205, gc_206, M_207, n_208, f_209, T_210, G_211, K_212, F_213⟩ := u_203
              have hB : ∃ w : va_W, va_P (dC, dI) vwCl w t.heap ∧ va_D (va_A ws H.size) w ∧ Pic9 kc w ad_204 ga_205 gc_206 M_207 n_208 f T G_211 K_212 F_213 ∧ I9 M_207 n_208 T gc_206 G_211 K_212 R ∧ hpS t.heap + (260 * M + 2 * S9 M gc) ≤ hpS H + (260 * M_207 + 2 * S9 M_207 gc_206) ∧ 16 * t.heap.size + (256 * M + S9 M gc) ≤ 16 * H.size + (256 * M_207 + S9 M_207 gc_206) ∧ (n 0).toInt ≤ (n_208 0).toInt ∧ (∀ q : Nat, q < 50 + 16 * M → ad_204 q = ad q) ∧ M ≤ M_207 := hB
              rw [ht] at hB
              obtain ⟨ws_214, hP, hD, hQ, hI_218, hy1, hy2, hn_215, hE_216, hM_217⟩ := hB
              have hD := hD.weaken (fun k q _ h => hFc _ h)
              obtain ⟨i1_219, i2_220, i3_221, i4_222, i5_223, i6_224, i7_225, i8_226, i9_227⟩ := id hI_218
              have hl_228 : i < M_207 := by omega
              have q1_ := i1_219
              unfold i1 at q1_
              have hSl := S9_le i8_226 i9_227
              have hb0_ := i8_226.2.1 0 (by omega)
              have hb1_ := i8_226.2.1 1 (by omega)
              have hb2_ := i8_226.2.1 2 (by omega)
              refine W_msr2 (fun hn1 hn2 hn3 => ?_)
              obtain ⟨ce2, se2, hk3, hk4, hr1, hr2⟩ : ∃ c2 s2 : Nat, H1.size ≤ s.heap.size + c2 ∧ hpS H1 ≤ hpS s.heap + s2 ∧ s2 + (260 * M + 2 * S9 M gc) ≤ (260 * M_207 + 2 * S9 M_207 gc_206) ∧ 16 * c2 + (256 * M + S9 M gc) ≤ (256 * M_207 + S9 M_207 gc_206) := ⟨H1.size - s.heap.size, hpS H1 - hpS s.heap, by omega, by omega, by have := hS.1; omega, by have := hS.1; omega⟩
              refine W_tightP hk3 hk4 ?_
              clear hm1 hm2 hm3 hn1 hn2 hn3 hk3 hk4
              clear hk1 hz1
              generalize ce2 = ce, se2 = se at hr1 hr2 ⊢
              generalize H1 = H at hP hS ⊢
              have hl : lv_has ls 6 [(5, .int z_57), (4, .int z_56), (3, .int (G i 6)), (2, .ref (ad_204 (4 + 4 * ((G i 1).toInt.toNat)))), (0, .ref (ad_204 0)), (1, .ref (ad_204 (50 + 16 * i)))] := by rw [hE_216 (4 + 4 * ((G i 1).toInt.toNat)) (by omega), hE_216 0 (by omega), hE_216 (50 + 16 * i) (by omega)]; exact hl
              have w_229 : S9 M_207 gc_206 + 16 * M ≤ S9 M gc + 16 * M_207 := hw
              refine W.eq (g2 := F0 m 193 ls [.int r_202]) (by first | rfl | (simp only [hE_216 (4 + 4 * ((G i 1).toInt.toNat)) (by omega), hE_216 0 (by omega), hE_216 (50 + 16 * i) (by omega)]))  ?_
              refine W_msr2 (fun hm1 hm2 hm3 => ?_)
              have hSl := S9_le i8_226 i9_227
              have hb0_ := i8_226.2.1 0 (by omega)
              have hb1_ := i8_226.2.1 1 (by omega)
              have hb2_ := i8_226.2.1 2 (by omega)
              refine W.widen (k := 40000) (n := 1250000) (by omega) (by omega) ?_
              exact W.iret (v := r_202) hx hb hr (fun t ht hW => ⟨⟨r_202, (ad_204, ga_205, gc_206, M_207, n_208, f, T, G_211, K_212, F_213), rfl, trivial, ws_214, by rw [ht]; exact hP, hD, hQ, I9.mono (R := R) ⟨i1_219, i2_220, i3_221, i4_222, i5_223, i6_224, i7_225, i8_226, i9_227⟩ (by omega), by rw [ht]; show hpS H + (260 * M + 2 * S9 M gc) ≤ hpS s.heap + (260 * M_207 + 2 * S9 M_207 gc_206); omega, by rw [ht]; show 16 * H.size + (256 * M + S9 M gc) ≤ 16 * s.heap.size + (256 * M_207 + S9 M_207 gc_206); omega, by show (n 0).toInt ≤ (n_208 0).toInt; omega, hE_216, by show M ≤ M_207; omega⟩, hS.F ht⟩) hS.2.2 dX9_doStep_193
          · refine lv_tableIn (tgt := 194) hx hb dX9_doStep_64 (by omega) (by omega) (by rw [sw_59]; rfl) (by decide) ?_
            refine lv_aload_n hx hb dX9_doStep_194 rfl (lv_at hl 4 rfl) ?_
            refine lv_aload_n hx hb dX9_doStep_195 rfl (lv_at hl 5 rfl) ?_
            refine lv_iload hx hb dX9_doStep_196 (lv_at hl 1 rfl) ?_
            refine lv_iload hx hb dX9_doStep_198 (lv_at hl 0 rfl) ?_
            refine lv_iconst (v := 0) hx hb dX9_doStep_200 (by decide) ?_
            have hFc := free_all hD hS hA
            refine W_msr2 (fun hm1 hm2 hm3 => ?_)
            refine va_calli (va_runV (As := [.ref (ad (50 + 16 * i)), .int z_56, .int z_57, .int 0]) (rest := []) ⟨hx, hb, hml, hown, hg⟩ (c_X9_hand l dC dI kc ws ad ga gc M n f T G K F R i z_56 z_57 0 H.size (hpS H) hQ ⟨h_i1, h_i2, h_i3, h_i4, h_i5, h_i6, h_i7, h_i8, h_i9⟩ (by have t_0 := ti_0; show i < M; omega) (by have t_0 := ti_0; show (i : Int) < (n 0).toInt; omega) (by have t_0 := ti_0; show R ≤ 310000; omega)) (cwV 4 hg (gw_V gm_methodLink_RX9_352_yX9_hand gm_instanceMethod_yX9_hand gm_selects_RX9_yX9_hand_yX9_hand gm_initialized_RX9 gm_code_yX9_hand_cX9_hand_7_some_int_) rfl rfl rfl (by decide +kernel) ⟨Nat.le_of_ble_eq_true rfl, Nat.le_of_ble_eq_true rfl⟩) ⟨fun a U g mk q => by obtain ⟨q0, q1, q2, qP, qK, qD, qN⟩ := q; exact ⟨q0, q1, q2, qP, va_K.moved (u := U) (U := U.calling g mk a) (Vm.Alike.refl U.vm) qK, qD, nx_same (u := U) (U := U.calling g mk a) rfl qN⟩, va_recv hK hP (ci := 9) (q0 := 0) rfl hQ.x0, fun U hU hW => ⟨rfl, by rw [hU], by rw [hU], by rw [hU]; exact hP, va_K.moved hW.alike hK, hD.weaken (fun _ _ _ _ => trivial), nx_warm hW hN⟩⟩ rfl rfl hl.1 rfl (lv_room (Nat.le_of_ble_eq_true rfl)) dX9_doStep_201 ⟨by show ce + 3500 ≤ 40000; omega, by show se + 59000 ≤ 1250000; omega⟩) hS (fun q _ h => hFc q h) hFc (fun r_230 u_231 t H1 locs ht hvm hw hB hz1 hk1 hS => ?_)
            obtain ⟨ad_232, ga_233, gc_234, M_235, n_236, f_237, T_238, G_239, K_240, F_241⟩ := u_231
            have hB : ∃ w : va_W, va_P (dC, dI) vwCl w t.heap ∧ va_D (va_A ws H.size) w ∧ Pic9 kc w ad_232 ga_233 gc_234 M_235 n_236 f T G_239 K_240 F_241 ∧ I9 M_235 n_236 T gc_234 G_239 K_240 R ∧ hpS t.heap + (260 * M + 2 * S9 M gc) ≤ hpS H + (260 * M_235 + 2 * S9 M_235 gc_234) ∧ 16 * t.heap.size + (256 * M + S9 M gc) ≤ 16 * H.size + (256 * M_235 + S9 M_235 gc_234) ∧ (n 0).toInt ≤ (n_236 0).toInt ∧ (∀ q : Nat, q < 50 + 16 * M → ad_232 q = ad q) ∧ M ≤ M_235 := hB
            rw [ht] at hB
            obtain ⟨ws_242, hP, hD, hQ, hI_246, hy1, hy2, hn_243, hE_244, hM_245⟩ := hB
            have hD := hD.weaken (fun k q _ h => hFc _ h)
            obtain ⟨i1_247, i2_248, i3_249, i4_250, i5_251, i6_252, i7_253, i8_254, i9_255⟩ := id hI_246
            have hl_256 : i < M_235 := by omega
            have q1_ := i1_247
            unfold i1 at q1_
            have hSl := S9_le i8_254 i9_255
            have hb0_ := i8_254.2.1 0 (by omega)
            have hb1_ := i8_254.2.1 1 (by omega)
            have hb2_ := i8_254.2.1 2 (by omega)
            refine W_msr2 (fun hn1 hn2 hn3 => ?_)
            obtain ⟨ce2, se2, hk3, hk4, hr1, hr2⟩ : ∃ c2 s2 : Nat, H1.size ≤ s.heap.size + c2 ∧ hpS H1 ≤ hpS s.heap + s2 ∧ s2 + (260 * M + 2 * S9 M gc) ≤ (260 * M_235 + 2 * S9 M_235 gc_234) ∧ 16 * c2 + (256 * M + S9 M gc) ≤ (256 * M_235 + S9 M_235 gc_234) := ⟨H1.size - s.heap.size, hpS H1 - hpS s.heap, by omega, by omega, by have := hS.1; omega, by have := hS.1; omega⟩
            refine W_tightP hk3 hk4 ?_
            clear hm1 hm2 hm3 hn1 hn2 hn3 hk3 hk4
            clear hk1 hz1
            generalize ce2 = ce, se2 = se at hr1 hr2 ⊢
            generalize H1 = H at hP hS ⊢
            have hl : lv_has ls 6 [(5, .int z_57), (4, .int z_56), (3, .int (G i 6)), (2, .ref (ad_232 (4 + 4 * ((G i 1).toInt.toNat)))), (0, .ref (ad_232 0)), (1, .ref (ad_232 (50 + 16 * i)))] := by rw [hE_244 (4 + 4 * ((G i 1).toInt.toNat)) (by omega), hE_244 0 (by omega), hE_244 (50 + 16 * i) (by omega)]; exact hl
            have w_257 : S9 M_235 gc_234 + 16 * M ≤ S9 M gc + 16 * M_235 := hw
            refine W.eq (g2 := F0 m 204 ls [.int r_230]) (by first | rfl | (simp only [hE_244 (4 + 4 * ((G i 1).toInt.toNat)) (by omega), hE_244 0 (by omega), hE_244 (50 + 16 * i) (by omega)]))  ?_
            refine W_msr2 (fun hm1 hm2 hm3 => ?_)
            have hSl := S9_le i8_254 i9_255
            have hb0_ := i8_254.2.1 0 (by omega)
            have hb1_ := i8_254.2.1 1 (by omega)
            have hb2_ := i8_254.2.1 2 (by omega)
            refine W.widen (k := 40000) (n := 1250000) (by omega) (by omega) ?_
            exact W.iret (v := r_230) hx hb hr (fun t ht hW => ⟨⟨r_230, (ad_232, ga_233, gc_234, M_235, n_236, f, T, G_239, K_240, F_241), rfl, trivial, ws_242, by rw [ht]; exact hP, hD, hQ, I9.mono (R := R) ⟨i1_247, i2_248, i3_249, i4_250, i5_251, i6_252, i7_253, i8_254, i9_255⟩ (by omega), by rw [ht]; show hpS H + (260 * M + 2 * S9 M gc) ≤ hpS s.heap + (260 * M_235 + 2 * S9 M_235 gc_234); omega, by rw [ht]; show 16 * H.size + (256 * M + S9 M gc) ≤ 16 * s.heap.size + (256 * M_235 + S9 M_235 gc_234); omega, by show (n 0).toInt ≤ (n_236 0).toInt; omega, hE_244, by show M ≤ M_235; omega⟩, hS.F ht⟩) hS.2.2 dX9_doStep_204
          · refine lv_tableIn (tgt := 205) hx hb dX9_doStep_64 (by omega) (by omega) (by rw [sw_59]; rfl) (by decide) ?_
            refine lv_aload_n hx hb dX9_doStep_205 rfl (lv_at hl 4 rfl) ?_
            refine lv_aload_n hx hb dX9_doStep_206 rfl (lv_at hl 5 rfl) ?_
            have hFc := free_all hD hS hA
            refine W_msr2 (fun hm1 hm2 hm3 => ?_)
            refine va_calli (va_runV (As := [.ref (ad (50 + 16 * i))]) (rest := []) ⟨hx, hb, hml, hown, hg⟩ (c_X9_gather l dC dI kc ws ad ga gc M n f T G K F R i H.size (hpS H) hQ ⟨h_i1, h_i2, h_i3, h_i4, h_i5, h_i6, h_i7, h_i8, h_i9⟩ (by show i < M; omega)) (cwV 1 hg (gw_V gm_methodLink_RX9_356_yX9_gather gm_instanceMethod_yX9_gather gm_selects_RX9_yX9_gather_yX9_gather gm_initialized_RX9 gm_code_yX9_gather_cX9_gather_3_some_int_) rfl rfl rfl (by decide +kernel) ⟨Nat.le_of_ble_eq_true rfl, Nat.le_of_ble_eq_true rfl⟩) ⟨fun a U g mk q => by obtain ⟨q0, q1, q2, qP, qK, qD, qN⟩ := q; exact ⟨q0, q1, q2, qP, va_K.moved (u := U) (U := U.calling g mk a) (Vm.Alike.refl U.vm) qK, qD, nx_same (u := U) (U := U.calling g mk a) rfl qN⟩, va_recv hK hP (ci := 9) (q0 := 0) rfl hQ.x0, fun U hU hW => ⟨rfl, by rw [hU], by rw [hU], by rw [hU]; exact hP, va_K.moved hW.alike hK, hD.weaken (fun _ _ _ _ => trivial), nx_warm hW hN⟩⟩ rfl rfl hl.1 rfl (lv_room (Nat.le_of_ble_eq_true rfl)) dX9_doStep_207 ⟨by show ce + 0 ≤ 40000; omega, by show se + 0 ≤ 1250000; omega⟩) hS (fun q _ h => hFc q h) hFc (fun r_258 u_259 t H1 locs ht hvm hw hB hz1 hk1 hS => ?_)
            obtain ⟨ad_260, ga_261, gc_262, M_263, n_264, f_265, T_266, G_267, K_268, F_269⟩ := u_259
            have hB : ∃ w : va_W, va_P (dC, dI) vwCl w t.heap ∧ va_D (va_A ws H.size) w ∧ Pic9 kc w ad ga gc M n f T G_267 K F ∧ I9 M n T gc G_267 K R ∧ hpS t.heap + (260 * M + 2 * S9 M gc) ≤ hpS H + (260 * M + 2 * S9 M gc) ∧ 16 * t.heap.size + (256 * M + S9 M gc) ≤ 16 * H.size + (256 * M + S9 M gc) := hB
            rw [ht] at hB
            obtain ⟨ws_270, hP, hD, hQ, hI_271, hy1, hy2⟩ := hB
            have hD := hD.weaken (fun k q _ h => hFc _ h)
            obtain ⟨i1_272, i2_273, i3_274, i4_275, i5_276, i6_277, i7_278, i8_279, i9_280⟩ := id hI_271
            have q1_ := i1_272
            unfold i1 at q1_
            have hSl := S9_le i8_279 i9_280
            have hb0_ := i8_279.2.1 0 (by omega)
            have hb1_ := i8_279.2.1 1 (by omega)
            have hb2_ := i8_279.2.1 2 (by omega)
            refine W_msr2 (fun hn1 hn2 hn3 => ?_)
            obtain ⟨ce2, se2, hk3, hk4, hr1, hr2⟩ : ∃ c2 s2 : Nat, H1.size ≤ s.heap.size + c2 ∧ hpS H1 ≤ hpS s.heap + s2 ∧ s2 + (260 * M + 2 * S9 M gc) ≤ (260 * M + 2 * S9 M gc) ∧ 16 * c2 + (256 * M + S9 M gc) ≤ (256 * M + S9 M gc) := ⟨H1.size - s.heap.size, hpS H1 - hpS s.heap, by omega, by omega, by have := hS.1; omega, by have := hS.1; omega⟩
            refine W_tightP hk3 hk4 ?_
            clear hm1 hm2 hm3 hn1 hn2 hn3 hk3 hk4
            clear hk1 hz1
            generalize ce2 = ce, se2 = se at hr1 hr2 ⊢
            generalize H1 = H at hP hS ⊢
            refine W_msr2 (fun hm1 hm2 hm3 => ?_)
            have hSl := S9_le i8_279 i9_280
            have hb0_ := i8_279.2.1 0 (by omega)
            have hb1_ := i8_279.2.1 1 (by omega)
            have hb2_ := i8_279.2.1 2 (by omega)
            refine W.widen (k := 40000) (n := 1250000) (by omega) (by omega) ?_
            exact W.iret (v := r_258) hx hb hr (fun t ht hW => ⟨⟨r_258, (ad, ga, gc, M, n, f, T, G_267, K, F), rfl, trivial, ws_270, by rw [ht]; exact hP, hD, hQ, I9.mono (R := R) ⟨i1_272, i2_273, i3_274, i4_275, i5_276, i6_277, i7_278, i8_279, i9_280⟩ (by omega), by rw [ht]; show hpS H + (260 * M + 2 * S9 M gc) ≤ hpS s.heap + (260 * M + 2 * S9 M gc); omega, by rw [ht]; show 16 * H.size + (256 * M + S9 M gc) ≤ 16 * s.heap.size + (256 * M + S9 M gc); omega, by show (n 0).toInt ≤ (n 0).toInt; omega, (fun _ _ => rfl), by show M ≤ M; omega⟩, hS.F ht⟩) hS.2.2 dX9_doStep_210
          · refine lv_tableIn (tgt := 211) hx hb dX9_doStep_64 (by omega) (by omega) (by rw [sw_59]; rfl) (by decide) ?_
            refine lv_aload_n hx hb dX9_doStep_211 rfl (lv_at hl 5 rfl) ?_
            have hFc := free_all hD hS hA
            refine W_msr2 (fun hm1 hm2 hm3 => ?_)
            refine va_callq (va_runV (As := []) (rest := []) ⟨hx, hb, hml, hown, hg⟩ (c_X7_root l dC dI kc ws ad ga gc M n f T G K F R i H.size (hpS H) hQ ⟨h_i1, h_i2, h_i3, h_i4, h_i5, h_i6, h_i7, h_i8, h_i9⟩ (by show i < M; omega)) (cwV 0 hg (gw_V gm_methodLink_RX9_161_yX7_root gm_instanceMethod_yX7_root gm_selects_RX7_yX7_root_yX7_root gm_initialized_RX7 gm_code_yX7_root_cX7_root_1_some_object_ErrandGuild_Run_) rfl rfl rfl (by decide +kernel) ⟨Nat.le_of_ble_eq_true rfl, Nat.le_of_ble_eq_true rfl⟩) ⟨fun a U g mk q => by obtain ⟨q0, q1, q2, qP, qK, qD, qN⟩ := q; exact ⟨q0, q1, q2, qP, va_K.moved (u := U) (U := U.calling g mk a) (Vm.Alike.refl U.vm) qK, qD, nx_same (u := U) (U := U.calling g mk a) rfl qN⟩, va_recv hK hP (ci := 7) (q0 := (50 + 16 * i)) rfl (hQ.b0 hi), fun U hU hW => ⟨rfl, by rw [hU], by rw [hU], by rw [hU]; exact hP, va_K.moved hW.alike hK, hD.weaken (fun _ _ _ _ => trivial), nx_warm hW hN⟩⟩ rfl rfl hl.1 rfl (lv_room (Nat.le_of_ble_eq_true rfl)) dX9_doStep_212 ⟨by show ce + 0 ≤ 40000; omega, by show se + 0 ≤ 1250000; omega⟩) hS (fun q _ h => hFc q h) hFc (fun r_282 u_283 t H1 locs ht hvm hw hB hz1 hk1 hS => ?_)
            obtain ⟨hP, hD, hy1, hy2⟩ := hB
            rw [ht] at hP hy1 hy2
            have hD := hD.weaken (fun k q _ h => hFc _ h)
            refine W.widen (k := ce) (n := se) (Nat.le_refl _) (Nat.le_refl _) ?_
            have q1_ := h_i1
            unfold i1 at q1_
            generalize H1 = H at hP hS ⊢
            obtain rfl : r_282 = some (ad (50 + 16 * (rt9 K i))) := hw
            have hl_285 : (rt9 K i) < M := rt9_lt h_i3 hi
            refine W.eq (g2 := F0 m 215 ls [.ref (ad (50 + 16 * (rt9 K i)))]) rfl ?_
            refine va_get (D := (dC, dI)) (ci := 7) (v := .ref (ad (50 + 16 * (rt9 K i) + 14))) (C := RX7) (T := TX7) (N := 15) hx hb hg gb_7 hown hK hP (50 + 16 * (rt9 K i)) (hQ.b0 hl_285) rfl 14 (by decide) (hg _ gm_fieldLink_RX9_238_ErrandGuild_Run_remarks_LErrandGuild_Cells_) (fun _ h9 => h9) rfl dX9_doStep_215 ?_
            refine lv_iload hx hb dX9_doStep_218 (lv_at hl 0 rfl) ?_
            have hgl_ := gc_le h_i9 hl_285
            have hgm_ := h_i8.1 (3 + (rt9 K i)) (by omega)
            have hgn_ := h_i8.2.2.1 (rt9 K i) hl_285
            have hCc : ([(50 + 16 * (rt9 K i) + 14), (50 + 16 * (rt9 K i) + 15)] : List Nat).map (fun i => ws[i]?) = ([(ad (50 + 16 * (rt9 K i) + 14), .inr (0, [.int (G (rt9 K i) 22), .ref (ga (3 + (rt9 K i))), .int (G (rt9 K i) 23)])), (ga (3 + (rt9 K i)), .inl (kc 0, gc (3 + (rt9 K i)), .inl (F (rt9 K i) 9)))] : va_W).map some := mp2 (hQ.b14 hl_285) (hQ.b15 hl_285)
            have hNd : ([(50 + 16 * (rt9 K i) + 14), (50 + 16 * (rt9 K i) + 15)] : List Nat).Nodup := (nd_off (50 + 16 * (rt9 K i)) (l := [14, 15]) (by decide))
            have hPc := hP.pick [(50 + 16 * (rt9 K i) + 14), (50 + 16 * (rt9 K i) + 15)] hCc
            have hDc := hD.pick [(50 + 16 * (rt9 K i) + 14), (50 + 16 * (rt9 K i) + 15)] hNd hCc
            have hKc := hK.sub (tys' := [((kc 0), .int)]) [0] rfl
            have hFc := va_free (wc := [(ad (50 + 16 * (rt9 K i) + 14), .inr (0, [.int (G (rt9 K i) 22), .ref (ga (3 + (rt9 K i))), .int (G (rt9 K i) 23)])), (ga (3 + (rt9 K i)), .inl (kc 0, gc (3 + (rt9 K i)), .inl (F (rt9 K i) 9)))]) hD hS hA [(50 + 16 * (rt9 K i) + 14), (50 + 16 * (rt9 K i) + 15)] hCc
            refine W_msr2 (fun hm1 hm2 hm3 => ?_)
            refine va_callv (va_runV (As := [.int z_57]) (rest := []) ⟨hx, hb, hml, hown, hg⟩ (c_X0_add l dC dI (ad (50 + 16 * (rt9 K i) + 14)) (ga (3 + (rt9 K i))) (gc (3 + (rt9 K i))) (kc 0) (F (rt9 K i) 9) (G (rt9 K i) 22) (G (rt9 K i) 23) z_57 (hpS H) H.size (by show 16 ≤ (gc (3 + (rt9 K i))) ∧ (gc (3 + (rt9 K i))) ≤ 1000000; omega) (by show (G (rt9 K i) 22).toInt ≤ 1048576; omega)) (cwV 1 hg (gw_V gm_methodLink_RX9_310_yX0_add gm_instanceMethod_yX0_add gm_selects_RX0_yX0_add_yX0_add gm_initialized_RX0 gm_code_yX0_add_cX0_add_3_none) rfl rfl rfl (by decide +kernel) ⟨Nat.le_of_ble_eq_true rfl, Nat.le_of_ble_eq_true rfl⟩) ⟨fun a U g mk q => by obtain ⟨q0, q1, q2, qP, qK, qD, qN⟩ := q; exact ⟨q0, q1, q2, qP, va_K.moved (u := U) (U := U.calling g mk a) (Vm.Alike.refl U.vm) qK, qD, nx_same (u := U) (U := U.calling g mk a) rfl qN⟩, va_recv hK hP (ci := 0) (q0 := (50 + 16 * (rt9 K i) + 14)) rfl (hQ.b14 hl_285), fun U hU hW => ⟨rfl, by rw [hU], by rw [hU], by rw [hU]; exact hPc, va_K.moved hW.alike hKc, hDc.weaken (fun _ _ _ _ => trivial), nx_warm hW hN⟩⟩ rfl rfl hl.1 rfl (lv_room (Nat.le_of_ble_eq_true rfl)) dX9_doStep_220 ⟨by show ce + 1 ≤ 40000; omega, by show se + (2 * (gc (3 + (rt9 K i)))) ≤ 1250000; omega⟩) hS (fun q _ h => hFc q h) hFc (fun u_287 t H1 locs ht hvm hw hB hz1 hk1 hS => ?_)
            obtain ⟨ad_288, ac_289, af_290, ag_291⟩ := u_287
            obtain ⟨hP1, hD1, hK1, hy1, hy2⟩ := hB
            rw [ht] at hP1 hy1 hy2
            have hy1 : hpS H1 ≤ hpS H + (2 * ad_288 1 - 2 * (gc (3 + (rt9 K i)))) := hy1
            have hy2 : 16 * H1.size ≤ 16 * H.size + (ad_288 1 - (gc (3 + (rt9 K i)))) := hy2
            have hK1 := va_K.moved hvm.symm hK1
            have hK1 : va_K (dC, dI) vwCl [((ac_289 0), .int)] s := hK1
            have kA_292 : (ac_289 0) = kc 0 := va_K.one hK1 (hK.sub (tys' := [(kc 0, .int)]) [0] rfl)
            have hP1 : va_P (dC, dI) vwCl [((ad (50 + 16 * (rt9 K i) + 14)), .inr (0, [.int (G (rt9 K i) 22), .ref (ad_288 0), .int (af_290 1 0)])), ((ad_288 0), .inl ((ac_289 0), (ad_288 1), .inl (af_290 0)))] H1 := hP1
            have hD1 : va_D _ [((ad (50 + 16 * (rt9 K i) + 14)), .inr (0, [.int (G (rt9 K i) 22), .ref (ad_288 0), .int (af_290 1 0)])), ((ad_288 0), .inl ((ac_289 0), (ad_288 1), .inl (af_290 0)))] := hD1
            rw [kA_292] at hP1 hD1
            obtain ⟨hP, hD⟩ := va_repl (w1 := [((ad (50 + 16 * (rt9 K i) + 14)), .inr (0, [.int (G (rt9 K i) 22), .ref (ad_288 0), .int (af_290 1 0)])), ((ad_288 0), .inl (kc 0, (ad_288 1), .inl (af_290 0)))]) hP hD [(50 + 16 * (rt9 K i) + 14), (50 + 16 * (rt9 K i) + 15)] hCc hNd rfl hk1 hFc hP1 hD1
            have hw_293 : (ad_288 1 = (gc (3 + (rt9 K i))) ∨ (ad_288 1 = 2 * (gc (3 + (rt9 K i))) ∧ ((gc (3 + (rt9 K i))) : Int) ≤ (G (rt9 K i) 23).toInt ∧ (G (rt9 K i) 23).toInt < (G (rt9 K i) 22).toInt)) ∧ ((af_290 1 0) = (G (rt9 K i) 23) ∨ (af_290 1 0).toInt = (G (rt9 K i) 23).toInt + 1) := hw
            obtain ⟨ws_298, ga_294, gc_295, G_296, F_297, ega_294, egc_295, eG_296, eF_297, hP, hD, hQ⟩ : ∃ (ws_298 : va_W) (ga_294 : Nat → Nat) (gc_295 : Nat → Nat) (G_296 : Nat → Nat → Int32) (F_297 : Nat → Nat → Nat → Int32), ga_294 = u1 ga (3 + (rt9 K i)) (ad_288 0) ∧ gc_295 = u1 gc (3 + (rt9 K i)) (ad_288 1) ∧ G_296 = u2 G (rt9 K i) 23 (af_290 1 0) ∧ F_297 = u2 F (rt9 K i) 9 (af_290 0) ∧ va_P (dC, dI) vwCl ws_298 H1 ∧ va_D A ws_298 ∧ Pic9 kc ws_298 ad ga_294 gc_295 M n f T G_296 K F_297 := ⟨_, _, _, _, _, rfl, rfl, rfl, rfl, hP, hD, hQ.rem hl_285 (ad_288 0) (ad_288 1) (af_290 1 0) (af_290 0)⟩
            have hgu := S9_up M gc (ad_288 1) (q := (3 + (rt9 K i))) (by omega)
            rw [← egc_295] at hgu
            have hg16 := h_i8.1 (3 + (rt9 K i)) (by omega)
            have i6_299 : i6 n T G_296 := by rw [eG_296]; exact i6.pG h_i6 (rt9 K i) _ (by decide)
            have i7_300 : i7 n G_296 := by rw [eG_296]; exact i7.pG h_i7 (rt9 K i) _ (by decide)
            have i8_301 : i8 M n gc_295 G_296 := by rw [eG_296, egc_295]; exact i8.gr (i8.pG h_i8 (rt9 K i) _ (by decide)) (by omega) (by omega) (fun h => by omega)
            have i9_302 : i9 M gc_295 G_296 (R + 1) := by rw [eG_296, egc_295]; exact i9.rem h_i9 hl_285 (hw_293.1.imp id (fun h => ⟨h.1, h.2.1⟩)) hw_293.2
            have hSl := S9_le i8_301 i9_302
            have hb0_ := i8_301.2.1 0 (by omega)
            have hb1_ := i8_301.2.1 1 (by omega)
            have hb2_ := i8_301.2.1 2 (by omega)
            refine W_msr2 (fun hn1 hn2 hn3 => ?_)
            obtain ⟨ce2, se2, hk3, hk4, hr1, hr2⟩ : ∃ c2 s2 : Nat, H1.size ≤ s.heap.size + c2 ∧ hpS H1 ≤ hpS s.heap + s2 ∧ s2 + (260 * M + 2 * S9 M gc) ≤ (260 * M + 2 * S9 M gc_295) ∧ 16 * c2 + (256 * M + S9 M gc) ≤ (256 * M + S9 M gc_295) := ⟨H1.size - s.heap.size, hpS H1 - hpS s.heap, by omega, by omega, by have := hS.1; omega, by have := hS.1; omega⟩
            refine W_tightP hk3 hk4 ?_
            clear hm1 hm2 hm3 hn1 hn2 hn3 hk3 hk4 hk1 hz1 hy1 hy2
            generalize ce2 = ce, se2 = se at hr1 hr2 ⊢
            generalize H1 = H at hP hS ⊢
            refine lv_iconst (v := -1) hx hb dX9_doStep_223 (by decide) ?_
            refine W_msr2 (fun hm1 hm2 hm3 => ?_)
            have hSl := S9_le i8_301 i9_302
            have hb0_ := i8_301.2.1 0 (by omega)
            have hb1_ := i8_301.2.1 1 (by omega)
            have hb2_ := i8_301.2.1 2 (by omega)
            refine W.widen (k := 40000) (n := 1250000) (by omega) (by omega) ?_
            exact W.iret (v := -1) hx hb hr (fun t ht hW => ⟨⟨-1, (ad, ga_294, gc_295, M, n, f, T, G_296, K, F_297), rfl, trivial, ws_298, by rw [ht]; exact hP, hD, hQ, ⟨h_i1, h_i2, h_i3, h_i4, h_i5, i6_299, i7_300, i8_301, i9_302⟩, by rw [ht]; show hpS H + (260 * M + 2 * S9 M gc) ≤ hpS s.heap + (260 * M + 2 * S9 M gc_295); omega, by rw [ht]; show 16 * H.size + (256 * M + S9 M gc) ≤ 16 * s.heap.size + (256 * M + S9 M gc_295); omega, by show (n 0).toInt ≤ (n 0).toInt; omega, (fun _ _ => rfl), by show M ≤ M; omega⟩, hS.F ht⟩) hS.2.2 dX9_doStep_224
          · refine lv_tableIn (tgt := 225) hx hb dX9_doStep_64 (by omega) (by omega) (by rw [sw_59]; rfl) (by decide) ?_
            refine lv_iload hx hb dX9_doStep_225 (lv_at hl 1 rfl) ?_
            refine W_msr2 (fun hm1 hm2 hm3 => ?_)
            have hSl := S9_le h_i8 h_i9
            have hb0_ := h_i8.2.1 0 (by omega)
            have hb1_ := h_i8.2.1 1 (by omega)
            have hb2_ := h_i8.2.1 2 (by omega)
            refine W.widen (k := 40000) (n := 1250000) (by omega) (by omega) ?_
            exact W.iret (v := z_56) hx hb hr (fun t ht hW => ⟨⟨z_56, (ad, ga, gc, M, n, f, T, G, K, F), rfl, trivial, ws, by rw [ht]; exact hP, hD, hQ, I9.mono (R := R) ⟨h_i1, h_i2, h_i3, h_i4, h_i5, h_i6, h_i7, h_i8, h_i9⟩ (by omega), by rw [ht]; show hpS H + (260 * M + 2 * S9 M gc) ≤ hpS s.heap + (260 * M + 2 * S9 M gc); omega, by rw [ht]; show 16 * H.size + (256 * M + S9 M gc) ≤ 16 * s.heap.size + (256 * M + S9 M gc); omega, by show (n 0).toInt ≤ (n 0).toInt; omega, (fun _ _ => rfl), by show M ≤ M; omega⟩, hS.F ht⟩) hS.2.2 dX9_doStep_227
          · refine lv_tableIn (tgt := 228) hx hb dX9_doStep_64 (by omega) (by omega) (by rw [sw_59]; rfl) (by decide) ?_
            refine lv_aload_n hx hb dX9_doStep_228 rfl (lv_at hl 5 rfl) ?_
            refine va_get (D := (dC, dI)) (ci := 7) (v := .ref (ad (50 + 16 * i + 6))) (C := RX7) (T := TX7) (N := 15) hx hb hg gb_7 hown hK hP (50 + 16 * i) (hQ.b0 hi) rfl 12 (by decide) (hg _ gm_fieldLink_RX9_177_ErrandGuild_Run_scopes_LErrandGuild_Scopes_) (fun _ h9 => h9) rfl dX9_doStep_229 ?_
            refine lv_iload hx hb dX9_doStep_232 (lv_at hl 1 rfl) ?_
            refine lv_iload hx hb dX9_doStep_234 (lv_at hl 0 rfl) ?_
            have hCc : ([(50 + 16 * i + 6), (50 + 16 * i + 10), (50 + 16 * i + 11), (50 + 16 * i + 12)] : List Nat).map (fun i => ws[i]?) = ([(ad (50 + 16 * i + 6), .inr (8, [.ref (ad (50 + 16 * i + 7)), .ref (ad (50 + 16 * i + 8)), .ref (ad (50 + 16 * i + 9)), .int (G i 14), .ref (ad (50 + 16 * i + 10)), .ref (ad (50 + 16 * i + 11)), .ref (ad (50 + 16 * i + 12)), .int (G i 15), .int (G i 16)])), (ad (50 + 16 * i + 10), .inl (kc 0, 24, .inl (F i 6))), (ad (50 + 16 * i + 11), .inl (kc 0, 24, .inl (F i 7))), (ad (50 + 16 * i + 12), .inl (kc 0, 24, .inl (F i 8)))] : va_W).map some := mp4 (hQ.b6 hi) (hQ.b10 hi) (hQ.b11 hi) (hQ.b12 hi)
            have hNd : ([(50 + 16 * i + 6), (50 + 16 * i + 10), (50 + 16 * i + 11), (50 + 16 * i + 12)] : List Nat).Nodup := (nd_off (50 + 16 * i) (l := [6, 10, 11, 12]) (by decide))
            have hPc := hP.pick [(50 + 16 * i + 6), (50 + 16 * i + 10), (50 + 16 * i + 11), (50 + 16 * i + 12)] hCc
            have hDc := hD.pick [(50 + 16 * i + 6), (50 + 16 * i + 10), (50 + 16 * i + 11), (50 + 16 * i + 12)] hNd hCc
            have hKc := hK.sub (tys' := [((kc 0), .int), ((kc 0), .int), ((kc 0), .int)]) [0, 0, 0] rfl
            have hFc := va_free (wc := [(ad (50 + 16 * i + 6), .inr (8, [.ref (ad (50 + 16 * i + 7)), .ref (ad (50 + 16 * i + 8)), .ref (ad (50 + 16 * i + 9)), .int (G i 14), .ref (ad (50 + 16 * i + 10)), .ref (ad (50 + 16 * i + 11)), .ref (ad (50 + 16 * i + 12)), .int (G i 15), .int (G i 16)])), (ad (50 + 16 * i + 10), .inl (kc 0, 24, .inl (F i 6))), (ad (50 + 16 * i + 11), .inl (kc 0, 24, .inl (F i 7))), (ad (50 + 16 * i + 12), .inl (kc 0, 24, .inl (F i 8)))]) hD hS hA [(50 + 16 * i + 6), (50 + 16 * i + 10), (50 + 16 * i + 11), (50 + 16 * i + 12)] hCc
            refine W_msr2 (fun hm1 hm2 hm3 => ?_)
            refine va_callv (va_runV (As := [.int z_56, .int z_57]) (rest := []) ⟨hx, hb, hml, hown, hg⟩ (c_X8_openTry l dC dI (ad (50 + 16 * i + 6)) (ad (50 + 16 * i + 7)) (ad (50 + 16 * i + 8)) (ad (50 + 16 * i + 9)) (ad (50 + 16 * i + 10)) (ad (50 + 16 * i + 11)) (ad (50 + 16 * i + 12)) (kc 0) (kc 0) (kc 0) (F i 6) (F i 7) (F i 8) (G i 14) (G i 15) (G i 16) z_56 z_57 H.size ) (cwV 2 hg (gw_V gm_methodLink_RX9_359_yX8_openTry gm_instanceMethod_yX8_openTry gm_selects_RX8_yX8_openTry_yX8_openTry gm_initialized_RX8 gm_code_yX8_openTry_cX8_openTry_3_none) rfl rfl rfl (by decide +kernel) ⟨Nat.le_of_ble_eq_true rfl, Nat.le_of_ble_eq_true rfl⟩) ⟨fun a U g mk q => by obtain ⟨q0, q1, qP, qK, qD, qN⟩ := q; exact ⟨q0, q1, qP, va_K.moved (u := U) (U := U.calling g mk a) (Vm.Alike.refl U.vm) qK, qD, nx_same (u := U) (U := U.calling g mk a) rfl qN⟩, va_recv hK hP (ci := 8) (q0 := (50 + 16 * i + 6)) rfl (hQ.b6 hi), fun U hU hW => ⟨rfl, by rw [hU], by rw [hU]; exact hPc, va_K.moved hW.alike hKc, hDc.weaken (fun _ _ _ _ => trivial), nx_warm hW hN⟩⟩ rfl rfl hl.1 rfl (lv_room (Nat.le_of_ble_eq_true rfl)) dX9_doStep_236 ⟨by show ce + 0 ≤ 40000; omega, by show se + 0 ≤ 1250000; omega⟩) hS (fun q _ h => hFc q h) hFc (fun u_304 t H1 locs ht hvm hw hB hz1 hk1 hS => ?_)
            obtain ⟨ad_305, ac_306, af_307, ag_308⟩ := u_304
            obtain ⟨hP1, hD1, hK1⟩ := hB
            rw [ht] at hP1
            obtain ⟨hP, hD⟩ := va_repl (w1 := [((ad (50 + 16 * i + 6)), .inr (8, [.ref (ad (50 + 16 * i + 7)), .ref (ad (50 + 16 * i + 8)), .ref (ad (50 + 16 * i + 9)), .int (af_307 6 0), .ref (ad (50 + 16 * i + 10)), .ref (ad (50 + 16 * i + 11)), .ref (ad (50 + 16 * i + 12)), .int (af_307 7 0), .int (af_307 8 0)])), ((ad (50 + 16 * i + 10)), .inl ((kc 0), 24, .inl (af_307 3))), ((ad (50 + 16 * i + 11)), .inl ((kc 0), 24, .inl (af_307 4))), ((ad (50 + 16 * i + 12)), .inl ((kc 0), 24, .inl (af_307 5)))]) hP hD [(50 + 16 * i + 6), (50 + 16 * i + 10), (50 + 16 * i + 11), (50 + 16 * i + 12)] hCc hNd rfl hk1 hFc hP1 hD1
            obtain ⟨ws_311, G_309, F_310, eG_309, eF_310, hP, hD, hQ⟩ : ∃ (ws_311 : va_W) (G_309 : Nat → Nat → Int32) (F_310 : Nat → Nat → Nat → Int32), G_309 = u2 (u2 (u2 G i 14 (af_307 6 0)) i 15 (af_307 7 0)) i 16 (af_307 8 0) ∧ F_310 = u2 (u2 (u2 F i 6 (af_307 3)) i 7 (af_307 4)) i 8 (af_307 5) ∧ va_P (dC, dI) vwCl ws_311 H1 ∧ va_D A ws_311 ∧ Pic9 kc ws_311 ad ga gc M n f T G_309 K F_310 := ⟨_, _, _, rfl, rfl, hP, hD, (((hQ.sco2 hi (af_307 6 0) (af_307 7 0) (af_307 8 0)).arr hi 10 6 (by decide) (af_307 3) rfl).arr hi 11 7 (by decide) (af_307 4) rfl).arr hi 12 8 (by decide) (af_307 5) rfl⟩
            have i6_312 : i6 n T G_309 := by rw [eG_309]; exact (i6.pG (i6.pG (i6.pG h_i6 i _ (by decide)) i _ (by decide)) i _ (by decide))
            have i7_313 : i7 n G_309 := by rw [eG_309]; exact (i7.pG (i7.pG (i7.pG h_i7 i _ (by decide)) i _ (by decide)) i _ (by decide))
            have i8_314 : i8 M n gc G_309 := by rw [eG_309]; exact (i8.pG (i8.pG (i8.pG h_i8 i _ (by decide)) i _ (by decide)) i _ (by decide))
            have i9_315 : i9 M gc G_309 R := by rw [eG_309]; exact (i9.pG (i9.pG (i9.pG h_i9 i _ (by decide)) i _ (by decide)) i _ (by decide))
            refine W.widen (k := ce) (n := se) (Nat.le_refl _) (Nat.le_refl _) ?_
            generalize H1 = H at hP hS ⊢
            refine lv_iconst (v := -1) hx hb dX9_doStep_239 (by decide) ?_
            refine W_msr2 (fun hm1 hm2 hm3 => ?_)
            have hSl := S9_le i8_314 i9_315
            have hb0_ := i8_314.2.1 0 (by omega)
            have hb1_ := i8_314.2.1 1 (by omega)
            have hb2_ := i8_314.2.1 2 (by omega)
            refine W.widen (k := 40000) (n := 1250000) (by omega) (by omega) ?_
            exact W.iret (v := -1) hx hb hr (fun t ht hW => ⟨⟨-1, (ad, ga, gc, M, n, f, T, G_309, K, F_310), rfl, trivial, ws_311, by rw [ht]; exact hP, hD, hQ, I9.mono (R := R) ⟨h_i1, h_i2, h_i3, h_i4, h_i5, i6_312, i7_313, i8_314, i9_315⟩ (by omega), by rw [ht]; show hpS H + (260 * M + 2 * S9 M gc) ≤ hpS s.heap + (260 * M + 2 * S9 M gc); omega, by rw [ht]; show 16 * H.size + (256 * M + S9 M gc) ≤ 16 * s.heap.size + (256 * M + S9 M gc); omega, by show (n 0).toInt ≤ (n 0).toInt; omega, (fun _ _ => rfl), by show M ≤ M; omega⟩, hS.F ht⟩) hS.2.2 dX9_doStep_240
          · refine lv_tableIn (tgt := 241) hx hb dX9_doStep_64 (by omega) (by omega) (by rw [sw_59]; rfl) (by decide) ?_
            refine lv_aload_n hx hb dX9_doStep_241 rfl (lv_at hl 5 rfl) ?_
            refine va_get (D := (dC, dI)) (ci := 7) (v := .ref (ad (50 + 16 * i + 6))) (C := RX7) (T := TX7) (N := 15) hx hb hg gb_7 hown hK hP (50 + 16 * i) (hQ.b0 hi) rfl 12 (by decide) (hg _ gm_fieldLink_RX9_177_ErrandGuild_Run_scopes_LErrandGuild_Scopes_) (fun _ h9 => h9) rfl dX9_doStep_242 ?_
            have hCc : ([(50 + 16 * i + 6)] : List Nat).map (fun i => ws[i]?) = ([(ad (50 + 16 * i + 6), .inr (8, [.ref (ad (50 + 16 * i + 7)), .ref (ad (50 + 16 * i + 8)), .ref (ad (50 + 16 * i + 9)), .int (G i 14), .ref (ad (50 + 16 * i + 10)), .ref (ad (50 + 16 * i + 11)), .ref (ad (50 + 16 * i + 12)), .int (G i 15), .int (G i 16)]))] : va_W).map some := mp1 (hQ.b6 hi)
            have hNd : ([(50 + 16 * i + 6)] : List Nat).Nodup := (nd_off (50 + 16 * i) (l := [6]) (by decide))
            have hPc := hP.pick [(50 + 16 * i + 6)] hCc
            have hDc := hD.pick [(50 + 16 * i + 6)] hNd hCc
            have hKc := hK.sub (tys' := []) [] rfl
            have hFc := va_free (wc := [(ad (50 + 16 * i + 6), .inr (8, [.ref (ad (50 + 16 * i + 7)), .ref (ad (50 + 16 * i + 8)), .ref (ad (50 + 16 * i + 9)), .int (G i 14), .ref (ad (50 + 16 * i + 10)), .ref (ad (50 + 16 * i + 11)), .ref (ad (50 + 16 * i + 12)), .int (G i 15), .int (G i 16)]))]) hD hS hA [(50 + 16 * i + 6)] hCc
            refine W_msr2 (fun hm1 hm2 hm3 => ?_)
            refine va_calli (va_runV (As := []) (rest := []) ⟨hx, hb, hml, hown, hg⟩ (c_X8_closeTry l dC dI (ad (50 + 16 * i + 6)) (ad (50 + 16 * i + 7)) (ad (50 + 16 * i + 8)) (ad (50 + 16 * i + 9)) (ad (50 + 16 * i + 10)) (ad (50 + 16 * i + 11)) (ad (50 + 16 * i + 12)) (G i 14) (G i 15) (G i 16) H.size ) (cwV 0 hg (gw_V gm_methodLink_RX9_362_yX8_closeTry gm_instanceMethod_yX8_closeTry gm_selects_RX8_yX8_closeTry_yX8_closeTry gm_initialized_RX8 gm_code_yX8_closeTry_cX8_closeTry_1_some_boolean_) rfl rfl rfl (by decide +kernel) ⟨Nat.le_of_ble_eq_true rfl, Nat.le_of_ble_eq_true rfl⟩) ⟨fun a U g mk q => by obtain ⟨q0, q1, qP, qK, qD, qN⟩ := q; exact ⟨q0, q1, qP, va_K.moved (u := U) (U := U.calling g mk a) (Vm.Alike.refl U.vm) qK, qD, nx_same (u := U) (U := U.calling g mk a) rfl qN⟩, va_recv hK hP (ci := 8) (q0 := (50 + 16 * i + 6)) rfl (hQ.b6 hi), fun U hU hW => ⟨rfl, by rw [hU], by rw [hU]; exact hPc, va_K.moved hW.alike hKc, hDc.weaken (fun _ _ _ _ => trivial), nx_warm hW hN⟩⟩ rfl rfl hl.1 rfl (lv_room (Nat.le_of_ble_eq_true rfl)) dX9_doStep_245 ⟨by show ce + 0 ≤ 40000; omega, by show se + 0 ≤ 1250000; omega⟩) hS (fun q _ h => hFc q h) hFc (fun r_316 u_317 t H1 locs ht hvm hw hB hz1 hk1 hS => ?_)
            obtain ⟨ad_318, ac_319, af_320, ag_321⟩ := u_317
            obtain ⟨hP1, hD1, hK1⟩ := hB
            rw [ht] at hP1
            obtain ⟨hP, hD⟩ := va_repl (w1 := [((ad (50 + 16 * i + 6)), .inr (8, [.ref (ad (50 + 16 * i + 7)), .ref (ad (50 + 16 * i + 8)), .ref (ad (50 + 16 * i + 9)), .int (af_320 6 0), .ref (ad (50 + 16 * i + 10)), .ref (ad (50 + 16 * i + 11)), .ref (ad (50 + 16 * i + 12)), .int (af_320 7 0), .int (af_320 8 0)]))]) hP hD [(50 + 16 * i + 6)] hCc hNd rfl hk1 hFc hP1 hD1
            obtain ⟨ws_323, G_322, eG_322, hP, hD, hQ⟩ : ∃ (ws_323 : va_W) (G_322 : Nat → Nat → Int32), G_322 = u2 (u2 (u2 G i 14 (af_320 6 0)) i 15 (af_320 7 0)) i 16 (af_320 8 0) ∧ va_P (dC, dI) vwCl ws_323 H1 ∧ va_D A ws_323 ∧ Pic9 kc ws_323 ad ga gc M n f T G_322 K F := ⟨_, _, rfl, hP, hD, hQ.sco2 hi (af_320 6 0) (af_320 7 0) (af_320 8 0)⟩
            have i6_324 : i6 n T G_322 := by rw [eG_322]; exact (i6.pG (i6.pG (i6.pG h_i6 i _ (by decide)) i _ (by decide)) i _ (by decide))
            have i7_325 : i7 n G_322 := by rw [eG_322]; exact (i7.pG (i7.pG (i7.pG h_i7 i _ (by decide)) i _ (by decide)) i _ (by decide))
            have i8_326 : i8 M n gc G_322 := by rw [eG_322]; exact (i8.pG (i8.pG (i8.pG h_i8 i _ (by decide)) i _ (by decide)) i _ (by decide))
            have i9_327 : i9 M gc G_322 R := by rw [eG_322]; exact (i9.pG (i9.pG (i9.pG h_i9 i _ (by decide)) i _ (by decide)) i _ (by decide))
            refine W.widen (k := ce) (n := se) (Nat.le_refl _) (Nat.le_refl _) ?_
            generalize H1 = H at hP hS ⊢
            rcases hw with ⟨rfl, w_328⟩ | ⟨rfl, w_328⟩
            · refine lv_if_eq (tgt := 255) hx hb dX9_doStep_248 (by decide) (fun c_329 => absurd c_329 (by decide)) (fun _ => ?_)
              refine lv_iconst (v := -1) hx hb dX9_doStep_251 (by decide) ?_
              refine lv_goto (tgt := 256) hx hb dX9_doStep_252 (by decide) ?_
              refine W_msr2 (fun hm1 hm2 hm3 => ?_)
              have hSl := S9_le i8_326 i9_327
              have hb0_ := i8_326.2.1 0 (by omega)
              have hb1_ := i8_326.2.1 1 (by omega)
              have hb2_ := i8_326.2.1 2 (by omega)
              refine W.widen (k := 40000) (n := 1250000) (by omega) (by omega) ?_
              exact W.iret (v := -1) hx hb hr (fun t ht hW => ⟨⟨-1, (ad, ga, gc, M, n, f, T, G_322, K, F), rfl, trivial, ws_323, by rw [ht]; exact hP, hD, hQ, I9.mono (R := R) ⟨h_i1, h_i2, h_i3, h_i4, h_i5, i6_324, i7_325, i8_326, i9_327⟩ (by omega), by rw [ht]; show hpS H + (260 * M + 2 * S9 M gc) ≤ hpS s.heap + (260 * M + 2 * S9 M gc); omega, by rw [ht]; show 16 * H.size + (256 * M + S9 M gc) ≤ 16 * s.heap.size + (256 * M + S9 M gc); omega, by show (n 0).toInt ≤ (n 0).toInt; omega, (fun _ _ => rfl), by show M ≤ M; omega⟩, hS.F ht⟩) hS.2.2 dX9_doStep_256
            · refine lv_if_eq (tgt := 255) hx hb dX9_doStep_248 (by decide) (fun _ => ?_) (fun c_330 => absurd c_330 (by decide))
              refine lv_iconst (v := 5) hx hb dX9_doStep_255 (by decide) ?_
              refine W_msr2 (fun hm1 hm2 hm3 => ?_)
              have hSl := S9_le i8_326 i9_327
              have hb0_ := i8_326.2.1 0 (by omega)
              have hb1_ := i8_326.2.1 1 (by omega)
              have hb2_ := i8_326.2.1 2 (by omega)
              refine W.widen (k := 40000) (n := 1250000) (by omega) (by omega) ?_
              exact W.iret (v := 5) hx hb hr (fun t ht hW => ⟨⟨5, (ad, ga, gc, M, n, f, T, G_322, K, F), rfl, trivial, ws_323, by rw [ht]; exact hP, hD, hQ, I9.mono (R := R) ⟨h_i1, h_i2, h_i3, h_i4, h_i5, i6_324, i7_325, i8_326, i9_327⟩ (by omega), by rw [ht]; show hpS H + (260 * M + 2 * S9 M gc) ≤ hpS s.heap + (260 * M + 2 * S9 M gc); omega, by rw [ht]; show 16 * H.size + (256 * M + S9 M gc) ≤ 16 * s.heap.size + (256 * M + S9 M gc); omega, by show (n 0).toInt ≤ (n 0).toInt; omega, (fun _ _ => rfl), by show M ≤ M; omega⟩, hS.F ht⟩) hS.2.2 dX9_doStep_256
          · refine lv_tableIn (tgt := 257) hx hb dX9_doStep_64 (by omega) (by omega) (by rw [sw_59]; rfl) (by decide) ?_
            refine lv_aload_n hx hb dX9_doStep_257 rfl (lv_at hl 5 rfl) ?_
            refine lv_dup hx hb dX9_doStep_258 rfl ?_
            refine va_get (D := (dC, dI)) (ci := 7) (v := .int (G i 5)) (C := RX7) (T := TX7) (N := 15) hx hb hg gb_7 hown hK hP (50 + 16 * i) (hQ.b0 hi) rfl 5 (by decide) (hg _ gm_fieldLink_RX9_171_ErrandGuild_Run_sum_I_) (fun _ h9 => h9) rfl dX9_doStep_259 ?_
            refine lv_iload hx hb dX9_doStep_262 (lv_at hl 0 rfl) ?_
            refine lv_iadd hx hb dX9_doStep_264 ?_
            refine lv_topi (fun z_331 ez_331 => ?_)
            refine va_put (D := (dC, dI)) (ci := 7) (v := .int (z_331)) (ty := .int) (C := RX7) (T := TX7) (N := 15) hx hb hg gb_7 tyX7 tyX7_ok nmX7 hown hK hP hD hS (50 + 16 * i) (hQ.b0 hi) rfl 5 (by decide) (hg _ gm_fieldLink_RX9_171_ErrandGuild_Run_sum_I_) (fun _ h9 => h9) rfl (by decide +kernel) rfl rfl (Nat.le_of_ble_eq_true rfl) dX9_doStep_265 (fun H locs hP hD hS => ?_)
            obtain ⟨ws_333, G_332, eG_332, hP, hD, hQ⟩ : ∃ (ws_333 : va_W) (G_332 : Nat → Nat → Int32), G_332 = u2 G i 5 z_331 ∧ va_P (dC, dI) vwCl ws_333 H ∧ va_D A ws_333 ∧ Pic9 kc ws_333 ad ga gc M n f T G_332 K F := ⟨_, _, rfl, hP, hD, hQ.run hi 5 (by decide) z_331⟩
            have i6_334 : i6 n T G_332 := by rw [eG_332]; exact (i6.pG h_i6 i _ (by decide))
            have i7_335 : i7 n G_332 := by rw [eG_332]; exact (i7.pG h_i7 i _ (by decide))
            have i8_336 : i8 M n gc G_332 := by rw [eG_332]; exact (i8.pG h_i8 i _ (by decide))
            have i9_337 : i9 M gc G_332 R := by rw [eG_332]; exact (i9.pG h_i9 i _ (by decide))
            have eg_338 : G_332 i 5 = z_331 := by rw [eG_332, u2_eq]
            refine lv_iconst (v := -1) hx hb dX9_doStep_268 (by decide) ?_
            refine W_msr2 (fun hm1 hm2 hm3 => ?_)
            have hSl := S9_le i8_336 i9_337
            have hb0_ := i8_336.2.1 0 (by omega)
            have hb1_ := i8_336.2.1 1 (by omega)
            have hb2_ := i8_336.2.1 2 (by omega)
            refine W.widen (k := 40000) (n := 1250000) (by omega) (by omega) ?_
            exact W.iret (v := -1) hx hb hr (fun t ht hW => ⟨⟨-1, (ad, ga, gc, M, n, f, T, G_332, K, F), rfl, trivial, ws_333, by rw [ht]; exact hP, hD, hQ, I9.mono (R := R) ⟨h_i1, h_i2, h_i3, h_i4, h_i5, i6_334, i7_335, i8_336, i9_337⟩ (by omega), by rw [ht]; show hpS H + (260 * M + 2 * S9 M gc) ≤ hpS s.heap + (260 * M + 2 * S9 M gc); omega, by rw [ht]; show 16 * H.size + (256 * M + S9 M gc) ≤ 16 * s.heap.size + (256 * M + S9 M gc); omega, by show (n 0).toInt ≤ (n 0).toInt; omega, (fun _ _ => rfl), by show M ≤ M; omega⟩, hS.F ht⟩) hS.2.2 dX9_doStep_269
        · simp only [i_lt, i_le, i_eq, ti_24] at c_55
          refine lv_aload_n hx hb dX9_doStep_36 rfl (lv_at hl 2 rfl) ?_
          refine lv_aload_n hx hb dX9_doStep_37 rfl (lv_at hl 3 rfl) ?_
          have hFc := free_all hD hS hA
          refine W_msr2 (fun hm1 hm2 hm3 => ?_)
          refine va_calli (va_runV (As := [.ref (ad (50 + 16 * i))]) (rest := []) ⟨hx, hb, hml, hown, hg⟩ (c_X9_end l dC dI kc ws ad ga gc M n f T G K F R i H.size (hpS H) hQ ⟨h_i1, h_i2, h_i3, h_i4, h_i5, h_i6, h_i7, h_i8, h_i9⟩ (by show i < M; omega)) (cwV 1 hg (gw_V gm_methodLink_RX9_328_yX9_end gm_instanceMethod_yX9_end gm_selects_RX9_yX9_end_yX9_end gm_initialized_RX9 gm_code_yX9_end_cX9_end_2_some_int_) rfl rfl rfl (by decide +kernel) ⟨Nat.le_of_ble_eq_true rfl, Nat.le_of_ble_eq_true rfl⟩) ⟨fun a U g mk q => by obtain ⟨q0, q1, q2, qP, qK, qD, qN⟩ := q; exact ⟨q0, q1, q2, qP, va_K.moved (u := U) (U := U.calling g mk a) (Vm.Alike.refl U.vm) qK, qD, nx_same (u := U) (U := U.calling g mk a) rfl qN⟩, va_recv hK hP (ci := 9) (q0 := 0) rfl hQ.x0, fun U hU hW => ⟨rfl, by rw [hU], by rw [hU], by rw [hU]; exact hP, va_K.moved hW.alike hK, hD.weaken (fun _ _ _ _ => trivial), nx_warm hW hN⟩⟩ rfl rfl hl.1 rfl (lv_room (Nat.le_of_ble_eq_true rfl)) dX9_doStep_38 ⟨by show ce + 0 ≤ 40000; omega, by show se + 0 ≤ 1250000; omega⟩) hS (fun q _ h => hFc q h) hFc (fun r_339 u_340 t H1 locs ht hvm hw hB hz1 hk1 hS => ?_)
          obtain ⟨ad_341, ga_342, gc_343, M_344, n_345, f_346, T_347, G_348, K_349, F_350⟩ := u_340
          have hB : ∃ w : va_W, va_P (dC, dI) vwCl w t.heap ∧ va_D (va_A ws H.size) w ∧ Pic9 kc w ad ga gc M n f T G_348 K F ∧ I9 M n T gc G_348 K R ∧ hpS t.heap + (260 * M + 2 * S9 M gc) ≤ hpS H + (260 * M + 2 * S9 M gc) ∧ 16 * t.heap.size + (256 * M + S9 M gc) ≤ 16 * H.size + (256 * M + S9 M gc) := hB
          rw [ht] at hB
          obtain ⟨ws_351, hP, hD, hQ, hI_352, hy1, hy2⟩ := hB
          have hD := hD.weaken (fun k q _ h => hFc _ h)
          obtain ⟨i1_353, i2_354, i3_355, i4_356, i5_357, i6_358, i7_359, i8_360, i9_361⟩ := id hI_352
          have q1_ := i1_353
          unfold i1 at q1_
          have hSl := S9_le i8_360 i9_361
          have hb0_ := i8_360.2.1 0 (by omega)
          have hb1_ := i8_360.2.1 1 (by omega)
          have hb2_ := i8_360.2.1 2 (by omega)
          refine W_msr2 (fun hn1 hn2 hn3 => ?_)
          obtain ⟨ce2, se2, hk3, hk4, hr1, hr2⟩ : ∃ c2 s2 : Nat, H1.size ≤ s.heap.size + c2 ∧ hpS H1 ≤ hpS s.heap + s2 ∧ s2 + (260 * M + 2 * S9 M gc) ≤ (260 * M + 2 * S9 M gc) ∧ 16 * c2 + (256 * M + S9 M gc) ≤ (256 * M + S9 M gc) := ⟨H1.size - s.heap.size, hpS H1 - hpS s.heap, by omega, by omega, by have := hS.1; omega, by have := hS.1; omega⟩
          refine W_tightP hk3 hk4 ?_
          clear hm1 hm2 hm3 hn1 hn2 hn3 hk3 hk4
          clear hk1 hz1
          generalize ce2 = ce, se2 = se at hr1 hr2 ⊢
          generalize H1 = H at hP hS ⊢
          refine W_msr2 (fun hm1 hm2 hm3 => ?_)
          have hSl := S9_le i8_360 i9_361
          have hb0_ := i8_360.2.1 0 (by omega)
          have hb1_ := i8_360.2.1 1 (by omega)
          have hb2_ := i8_360.2.1 2 (by omega)
          refine W.widen (k := 40000) (n := 1250000) (by omega) (by omega) ?_
          exact W.iret (v := r_339) hx hb hr (fun t ht hW => ⟨⟨r_339, (ad, ga, gc, M, n, f, T, G_348, K, F), rfl, trivial, ws_351, by rw [ht]; exact hP, hD, hQ, I9.mono (R := R) ⟨i1_353, i2_354, i3_355, i4_356, i5_357, i6_358, i7_359, i8_360, i9_361⟩ (by omega), by rw [ht]; show hpS H + (260 * M + 2 * S9 M gc) ≤ hpS s.heap + (260 * M + 2 * S9 M gc); omega, by rw [ht]; show 16 * H.size + (256 * M + S9 M gc) ≤ 16 * s.heap.size + (256 * M + S9 M gc); omega, by show (n 0).toInt ≤ (n 0).toInt; omega, (fun _ _ => rfl), by show M ≤ M; omega⟩, hS.F ht⟩) hS.2.2 dX9_doStep_41
  · have w_3 : ¬ (0 ≤ (G i 1).toInt ∧ (G i 1).toInt < 8) := w_3
    refine W.eq (g2 := F0 m 8 ls [.null]) rfl ?_
    refine lv_astore_nN (lv' := [(2, .null), (0, .ref (ad 0)), (1, .ref (ad (50 + 16 * i)))]) hx hb dX9_doStep_8 rfl hl (by decide) rfl (fun ls hl => ?_)
    refine lv_aload_n hx hb dX9_doStep_9 rfl (lv_at hl 2 rfl) ?_
    refine va_get (D := (dC, dI)) (ci := 7) (v := .int (G i 6)) (C := RX7) (T := TX7) (N := 15) hx hb hg gb_7 hown hK hP (50 + 16 * i) (hQ.b0 hi) rfl 6 (by decide) (hg _ gm_fieldLink_RX9_174_ErrandGuild_Run_place_I_) (fun _ h9 => h9) rfl dX9_doStep_10 ?_
    refine lv_istore_n (lv' := [(3, .int (G i 6)), (2, .null), (0, .ref (ad 0)), (1, .ref (ad (50 + 16 * i)))]) hx hb dX9_doStep_13 rfl hl (by decide) rfl (fun ls hl => ?_)
    refine lv_aload_nN hx hb dX9_doStep_14 rfl (lv_at hl 1 rfl) ?_
    refine lv_ifnullN (tgt := 36) hx hb dX9_doStep_15 (by decide) ?_
    refine lv_aload_n hx hb dX9_doStep_36 rfl (lv_at hl 2 rfl) ?_
    refine lv_aload_n hx hb dX9_doStep_37 rfl (lv_at hl 3 rfl) ?_
    have hFc := free_all hD hS hA
    refine W_msr2 (fun hm1 hm2 hm3 => ?_)
    refine va_calli (va_runV (As := [.ref (ad (50 + 16 * i))]) (rest := []) ⟨hx, hb, hml, hown, hg⟩ (c_X9_end l dC dI kc ws ad ga gc M n f T G K F R i H.size (hpS H) hQ ⟨h_i1, h_i2, h_i3, h_i4, h_i5, h_i6, h_i7, h_i8, h_i9⟩ (by show i < M; omega)) (cwV 1 hg (gw_V gm_methodLink_RX9_328_yX9_end gm_instanceMethod_yX9_end gm_selects_RX9_yX9_end_yX9_end gm_initialized_RX9 gm_code_yX9_end_cX9_end_2_some_int_) rfl rfl rfl (by decide +kernel) ⟨Nat.le_of_ble_eq_true rfl, Nat.le_of_ble_eq_true rfl⟩) ⟨fun a U g mk q => by obtain ⟨q0, q1, q2, qP, qK, qD, qN⟩ := q; exact ⟨q0, q1, q2, qP, va_K.moved (u := U) (U := U.calling g mk a) (Vm.Alike.refl U.vm) qK, qD, nx_same (u := U) (U := U.calling g mk a) rfl qN⟩, va_recv hK hP (ci := 9) (q0 := 0) rfl hQ.x0, fun U hU hW => ⟨rfl, by rw [hU], by rw [hU], by rw [hU]; exact hP, va_K.moved hW.alike hK, hD.weaken (fun _ _ _ _ => trivial), nx_warm hW hN⟩⟩ rfl rfl hl.1 rfl (lv_room (Nat.le_of_ble_eq_true rfl)) dX9_doStep_38 ⟨by show ce + 0 ≤ 40000; omega, by show se + 0 ≤ 1250000; omega⟩) hS (fun q _ h => hFc q h) hFc (fun r_363 u_364 t H1 locs ht hvm hw hB hz1 hk1 hS => ?_)
    obtain ⟨ad_365, ga_366, gc_367, M_368, n_369, f_370, T_371, G_372, K_373, F_374⟩ := u_364
    have hB : ∃ w : va_W, va_P (dC, dI) vwCl w t.heap ∧ va_D (va_A ws H.size) w ∧ Pic9 kc w ad ga gc M n f T G_372 K F ∧ I9 M n T gc G_372 K R ∧ hpS t.heap + (260 * M + 2 * S9 M gc) ≤ hpS H + (260 * M + 2 * S9 M gc) ∧ 16 * t.heap.size + (256 * M + S9 M gc) ≤ 16 * H.size + (256 * M + S9 M gc) := hB
    rw [ht] at hB
    obtain ⟨ws_375, hP, hD, hQ, hI_376, hy1, hy2⟩ := hB
    have hD := hD.weaken (fun k q _ h => hFc _ h)
    obtain ⟨i1_377, i2_378, i3_379, i4_380, i5_381, i6_382, i7_383, i8_384, i9_385⟩ := id hI_376
    have q1_ := i1_377
    unfold i1 at q1_
    have hSl := S9_le i8_384 i9_385
    have hb0_ := i8_384.2.1 0 (by omega)
    have hb1_ := i8_384.2.1 1 (by omega)
    have hb2_ := i8_384.2.1 2 (by omega)
    refine W_msr2 (fun hn1 hn2 hn3 => ?_)
    obtain ⟨ce2, se2, hk3, hk4, hr1, hr2⟩ : ∃ c2 s2 : Nat, H1.size ≤ s.heap.size + c2 ∧ hpS H1 ≤ hpS s.heap + s2 ∧ s2 + (260 * M + 2 * S9 M gc) ≤ (260 * M + 2 * S9 M gc) ∧ 16 * c2 + (256 * M + S9 M gc) ≤ (256 * M + S9 M gc) := ⟨H1.size - s.heap.size, hpS H1 - hpS s.heap, by omega, by omega, by have := hS.1; omega, by have := hS.1; omega⟩
    refine W_tightP hk3 hk4 ?_
    clear hm1 hm2 hm3 hn1 hn2 hn3 hk3 hk4
    clear hk1 hz1
    generalize ce2 = ce, se2 = se at hr1 hr2 ⊢
    generalize H1 = H at hP hS ⊢
    refine W_msr2 (fun hm1 hm2 hm3 => ?_)
    have hSl := S9_le i8_384 i9_385
    have hb0_ := i8_384.2.1 0 (by omega)
    have hb1_ := i8_384.2.1 1 (by omega)
    have hb2_ := i8_384.2.1 2 (by omega)
    refine W.widen (k := 40000) (n := 1250000) (by omega) (by omega) ?_
    exact W.iret (v := r_363) hx hb hr (fun t ht hW => ⟨⟨r_363, (ad, ga, gc, M, n, f, T, G_372, K, F), rfl, trivial, ws_375, by rw [ht]; exact hP, hD, hQ, I9.mono (R := R) ⟨i1_377, i2_378, i3_379, i4_380, i5_381, i6_382, i7_383, i8_384, i9_385⟩ (by omega), by rw [ht]; show hpS H + (260 * M + 2 * S9 M gc) ≤ hpS s.heap + (260 * M + 2 * S9 M gc); omega, by rw [ht]; show 16 * H.size + (256 * M + S9 M gc) ≤ 16 * s.heap.size + (256 * M + S9 M gc); omega, by show (n 0).toInt ≤ (n 0).toInt; omega, (fun _ _ => rfl), by show M ≤ M; omega⟩, hS.F ht⟩) hS.2.2 dX9_doStep_41
