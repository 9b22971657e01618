set_option maxHeartbeats 8000000 in
set_option maxRecDepth 100000 in
theorem c_X9_noteTurn (l : Launch) (dC : Nat → ClassId) (dI : Nat → Nat → Nat) (kc : Nat → ClassId) (ws : va_W) (ad : Nat → Nat) (ga : Nat → Nat) (gc : Nat → Nat) (M : Nat) (n : Nat → Int32) (f : Nat → Nat → Int32) (T : Nat → Option Nat) (G : Nat → Nat → Int32) (K : Nat → Nat → Option Nat) (F : Nat → Nat → Nat → Int32) (R : Nat) (i : Nat) (sz hz : Nat) (hQ : Pic9 kc ws ad ga gc M n f T G K F) (hI : I9 M n T gc G K R) (hi : i < M) (hR : R ≤ 310000) : Met l yX9_noteTurn (.code yX9_noteTurn cX9_noteTurn 2 none :: gw) ({ frames := 2, cells := 600, slots := 33000, locals := 102 }) (va_Pc [.ref (ad 0), .ref (ad (50 + 16 * i))] (fun U => U.heap.size = sz ∧ hpS U.heap = hz ∧ va_P (dC, dI) vwCl ws U.heap ∧ va_K (dC, dI) vwCl (t9 kc) U ∧ va_D (fun _ => True) ws ∧ nx U)) (va_Qv (fun (u : (Nat → Nat) × (Nat → Nat) × (Nat → Nat) × Nat × (Nat → Int32) × (Nat → Nat → Int32) × (Nat → Option Nat) × (Nat → Nat → Int32) × (Nat → Nat → Option Nat) × (Nat → Nat → Nat → Int32)) => S9 M u.2.2.1 + gc 2 ≤ S9 M gc + u.2.2.1 2 ∧ (u.2.2.2.2.1 0).toInt = (n 0).toInt) (fun u t => ∃ w : va_W, va_P (dC, dI) vwCl w t.heap ∧ va_D (va_A ws sz) w ∧ Pic9 kc w ad u.2.1 u.2.2.1 M u.2.2.2.2.1 u.2.2.2.2.2.1 T u.2.2.2.2.2.2.2.1 K F ∧ I9 M u.2.2.2.2.1 T u.2.2.1 u.2.2.2.2.2.2.2.1 K R ∧ hpS t.heap + (260 * M + 2 * S9 M gc) ≤ hz + (260 * M + 2 * S9 M u.2.2.1) ∧ 16 * t.heap.size + (256 * M + S9 M gc) ≤ 16 * sz + (256 * M + S9 M u.2.2.1) ∧ (n 0).toInt ≤ (u.2.2.2.2.1 0).toInt) (va_A ws sz)) 600 33000 (va_A ws sz) := by
  refine Met.ofW (cc := cX9_noteTurn) (maxL := 2) (ret := none) (by decide) rfl ?_
  intro p e s m args below meth c s₁ B hml hv
  obtain ⟨rfl, hsz, rfl, hP, hK, hD0, hN⟩ := hv
  have hx := B.exec
  have hb := B.bytes
  have hr := B.returns
  have hts := atoms_spec (ws := .code yX9_noteTurn cX9_noteTurn 2 none :: gw) B.pre
  have hg : ∀ w ∈ gw, w.before _ s = true := fun w h => hts w (List.mem_cons_of_mem _ h)
  have hown : s.vm.findClass RX9 = some m.cls := findClass_of_methodNamed B.named
  have hlocks := B.notSynchronized
  subst hsz
  have hD := hD0.self (sz := s.heap.size)
  generalize hAe : va_A ws s.heap.size = A at hD ⊢
  have hA : ∀ q : Nat, s.heap.size ≤ q → A q := fun q h => by rw [← hAe]; exact Or.inr h
  clear hAe
  have hS : va_S A s.heap s.heap [] := va_S.rf
  have hl := lv_entry ([.ref (ad 0), .ref (ad (50 + 16 * i))]) (n := 2) (Nat.le_of_ble_eq_true rfl)
  rw [lg_entry_eq]
  generalize (lg_sl ([.ref (ad 0), .ref (ad (50 + 16 * i))]) ++ List.replicate (2 - (lg_sl ([.ref (ad 0), .ref (ad (50 + 16 * i))])).length) Slot.unset).toArray = ls at hl ⊢
  have hl : lv_has ls 2 [(0, .ref (ad 0)), (1, .ref (ad (50 + 16 * i)))] := hl
  obtain ⟨h_i1, h_i2, h_i3, h_i4, h_i5, h_i6, h_i7, h_i8, h_i9⟩ := id hI
  have q1_ := h_i1
  unfold i1 at q1_
  have hSl0 := S9_le h_i8 h_i9
  have hb0_ := h_i8.2.1 0 (by omega)
  have hb1_ := h_i8.2.1 1 (by omega)
  have hb2_ := h_i8.2.1 2 (by omega)
  have hr1 : 0 + (260 * M + 2 * S9 M gc) ≤ (260 * M + 2 * S9 M gc) := by omega
  have hr2 : 16 * 0 + (256 * M + S9 M gc) ≤ (256 * M + S9 M gc) := by omega
  obtain ⟨ce, hce⟩ : ∃ q : Nat, q = 0 := ⟨_, rfl⟩
  obtain ⟨se, hse⟩ : ∃ q : Nat, q = 0 := ⟨_, rfl⟩
  rw [← hse] at hr1
  have hr2 : 16 * ce + (256 * M + S9 M gc) ≤ (256 * M + S9 M gc) := by omega
  refine W.widen (k := ce) (n := se) (Nat.zero_le _) (Nat.zero_le _) ?_
  refine lv_aload_n hx hb dX9_noteTurn_0 rfl (lv_at hl 0 rfl) ?_
  refine va_get (D := (dC, dI)) (ci := 9) (v := .ref (ad 48)) (C := RX9) (T := TX9) (N := 15) hx hb hg gb_9 hown hK hP 0 hQ.x0 rfl 13 (by decide) (hg _ gm_fieldLink_RX9_57_ErrandGuild_turns_LErrandGuild_Cells_) (fun _ h9 => h9) rfl dX9_noteTurn_1 ?_
  refine lv_sipush (v := 256) hx hb dX9_noteTurn_4 (by decide) ?_
  refine lv_aload_n hx hb dX9_noteTurn_7 rfl (lv_at hl 1 rfl) ?_
  refine va_get (D := (dC, dI)) (ci := 7) (v := .int (G i 0)) (C := RX7) (T := TX7) (N := 15) hx hb hg gb_7 hown hK hP (50 + 16 * i) (hQ.b0 hi) rfl 0 (by decide) (hg _ gm_fieldLink_RX9_118_ErrandGuild_Run_number_I_) (fun _ h9 => h9) rfl dX9_noteTurn_8 ?_
  refine lv_imul hx hb dX9_noteTurn_11 ?_
  refine lv_topi (fun z_1 ez_1 => ?_)
  refine lv_aload_n hx hb dX9_noteTurn_12 rfl (lv_at hl 1 rfl) ?_
  refine va_get (D := (dC, dI)) (ci := 7) (v := .int (G i 3)) (C := RX7) (T := TX7) (N := 15) hx hb hg gb_7 hown hK hP (50 + 16 * i) (hQ.b0 hi) rfl 3 (by decide) (hg _ gm_fieldLink_RX9_168_ErrandGuild_Run_thread_I_) (fun _ h9 => h9) rfl dX9_noteTurn_13 ?_
  refine lv_iadd hx hb dX9_noteTurn_16 ?_
  refine lv_topi (fun z_2 ez_2 => ?_)
  have hgm_ := h_i8.1 2 (by omega)
  have hgn_ := h_i8.2.2.2
  have hCc : ([48, 49] : List Nat).map (fun i => ws[i]?) = ([(ad 48, .inr (0, [.int (n 20), .ref (ga 2), .int (n 21)])), (ga 2, .inl (kc 0, gc 2, .inl (f 31)))] : va_W).map some := mp2 hQ.x48 hQ.x49
  have hNd : ([48, 49] : List Nat).Nodup := (by decide)
  have hPc := hP.pick [48, 49] hCc
  have hDc := hD.pick [48, 49] hNd hCc
  have hKc := hK.sub (tys' := [((kc 0), .int)]) [0] rfl
  have hFc := va_free (wc := [(ad 48, .inr (0, [.int (n 20), .ref (ga 2), .int (n 21)])), (ga 2, .inl (kc 0, gc 2, .inl (f 31)))]) hD hS hA [48, 49] hCc
  refine W_msr2 (fun hm1 hm2 hm3 => ?_)
  refine va_callv (va_runV (As := [.int z_2]) (rest := []) ⟨hx, hb, hml, hown, hg⟩ (c_X0_add l dC dI (ad 48) (ga 2) (gc 2) (kc 0) (f 31) (n 20) (n 21) z_2 (hpS s.heap) s.heap.size (by show 16 ≤ (gc 2) ∧ (gc 2) ≤ 1000000; omega) (by show (n 20).toInt ≤ 1048576; omega)) (cwV 1 hg (gw_V gm_methodLink_RX9_310_yX0_add gm_instanceMethod_yX0_add gm_selects_RX0_yX0_add_yX0_add gm_initialized_RX0 gm_code_yX0_add_cX0_add_3_none) rfl rfl rfl (by decide +kernel) ⟨Nat.le_of_ble_eq_true rfl, Nat.le_of_ble_eq_true rfl⟩) ⟨fun a U g mk q => by obtain ⟨q0, q1, q2, qP, qK, qD, qN⟩ := q; exact ⟨q0, q1, q2, qP, va_K.moved (u := U) (U := U.calling g mk a) (Vm.Alike.refl U.vm) qK, qD, nx_same (u := U) (U := U.calling g mk a) rfl qN⟩, va_recv hK hP (ci := 0) (q0 := 48) rfl hQ.x48, fun U hU hW => ⟨rfl, by rw [hU], by rw [hU], by rw [hU]; exact hPc, va_K.moved hW.alike hKc, hDc.weaken (fun _ _ _ _ => trivial), nx_warm hW hN⟩⟩ rfl rfl hl.1 rfl (lv_room (Nat.le_of_ble_eq_true rfl)) dX9_noteTurn_17 ⟨by show ce + 1 ≤ 600; omega, by show se + (2 * (gc 2)) ≤ 33000; omega⟩) hS (fun q _ h => hFc q h) hFc (fun u_4 t H1 locs ht hvm hw hB hz1 hk1 hS => ?_)
  obtain ⟨ad_5, ac_6, af_7, ag_8⟩ := u_4
  obtain ⟨hP1, hD1, hK1, hy1, hy2⟩ := hB
  rw [ht] at hP1 hy1 hy2
  have hy1 : hpS H1 ≤ hpS s.heap + (2 * ad_5 1 - 2 * (gc 2)) := hy1
  have hy2 : 16 * H1.size ≤ 16 * s.heap.size + (ad_5 1 - (gc 2)) := hy2
  have hK1 := va_K.moved hvm.symm hK1
  have hK1 : va_K (dC, dI) vwCl [((ac_6 0), .int)] s := hK1
  have kA_9 : (ac_6 0) = kc 0 := va_K.one hK1 (hK.sub (tys' := [(kc 0, .int)]) [0] rfl)
  have hP1 : va_P (dC, dI) vwCl [((ad 48), .inr (0, [.int (n 20), .ref (ad_5 0), .int (af_7 1 0)])), ((ad_5 0), .inl ((ac_6 0), (ad_5 1), .inl (af_7 0)))] H1 := hP1
  have hD1 : va_D _ [((ad 48), .inr (0, [.int (n 20), .ref (ad_5 0), .int (af_7 1 0)])), ((ad_5 0), .inl ((ac_6 0), (ad_5 1), .inl (af_7 0)))] := hD1
  rw [kA_9] at hP1 hD1
  obtain ⟨hP, hD⟩ := va_repl (w1 := [((ad 48), .inr (0, [.int (n 20), .ref (ad_5 0), .int (af_7 1 0)])), ((ad_5 0), .inl (kc 0, (ad_5 1), .inl (af_7 0)))]) hP hD [48, 49] hCc hNd rfl hk1 hFc hP1 hD1
  have hw_10 : (ad_5 1 = (gc 2) ∨ (ad_5 1 = 2 * (gc 2) ∧ ((gc 2) : Int) ≤ (n 21).toInt ∧ (n 21).toInt < (n 20).toInt)) ∧ ((af_7 1 0) = (n 21) ∨ (af_7 1 0).toInt = (n 21).toInt + 1) := hw
  obtain ⟨ws_15, ga_11, gc_12, n_13, f_14, ega_11, egc_12, en_13, ef_14, hP, hD, hQ⟩ : ∃ (ws_15 : va_W) (ga_11 : Nat → Nat) (gc_12 : Nat → Nat) (n_13 : Nat → Int32) (f_14 : Nat → Nat → Int32), ga_11 = u1 ga 2 (ad_5 0) ∧ gc_12 = u1 gc 2 (ad_5 1) ∧ n_13 = u1 n 21 (af_7 1 0) ∧ f_14 = u1 f 31 (af_7 0) ∧ va_P (dC, dI) vwCl ws_15 H1 ∧ va_D A ws_15 ∧ Pic9 kc ws_15 ad ga_11 gc_12 M n_13 f_14 T G K F := ⟨_, _, _, _, _, rfl, rfl, rfl, rfl, hP, hD, hQ.gr2 (ad_5 0) (ad_5 1) (af_7 1 0) (af_7 0)⟩
  have hgu := S9_up M gc (ad_5 1) (q := 2) (by omega)
  rw [← egc_12] at hgu
  have hg16 := h_i8.1 2 (by omega)
  have hg17 := h_i8.2.1 2 (by omega)
  have hg18 := h_i8.2.2.2
  have hgq : gc_12 2 = (ad_5 1) := by rw [egc_12, u1_eq]
  have i1_16 : i1 M n_13 := by rw [en_13]; exact i1.pn h_i1 _ (by decide)
  have i5_17 : i5 n_13 K := by rw [en_13]; exact i5.pn h_i5 _ (by decide)
  have i6_18 : i6 n_13 T G := by rw [en_13]; exact i6.pn h_i6 _ (by decide)
  have i7_19 : i7 n_13 G := by rw [en_13]; exact i7.pn h_i7 _ (by decide)
  have i8_20 : i8 M n_13 gc_12 G := by rw [en_13, egc_12]; exact i8.gr (i8.pn h_i8 _ (by decide)) (by omega) (by omega) (fun _ => by omega)
  have i9_21 : i9 M gc_12 G R := by rw [egc_12]; exact i9.gr h_i9 _ (by decide)
  have hn_22 : n_13 0 = n 0 := by rw [en_13, u1_ne _ _ (by decide)]
  have thn_22 := congrArg Int32.toInt hn_22
  have hSl := S9_le i8_20 i9_21
  have hb0_ := i8_20.2.1 0 (by omega)
  have hb1_ := i8_20.2.1 1 (by omega)
  have hb2_ := i8_20.2.1 2 (by omega)
  refine W_msr2 (fun hn1 hn2 hn3 => ?_)
  obtain ⟨ce2, se2, hk3, hk4, hr1, hr2⟩ : ∃ c2 s2 : Nat, H1.size ≤ s.heap.size + c2 ∧ hpS H1 ≤ hpS s.heap + s2 ∧ s2 + (260 * M + 2 * S9 M gc) ≤ (260 * M + 2 * S9 M gc_12) ∧ 16 * c2 + (256 * M + S9 M gc) ≤ (256 * M + S9 M gc_12) := ⟨H1.size - s.heap.size, hpS H1 - hpS s.heap, by omega, by omega, by have := hS.1; omega, by have := hS.1; omega⟩
  refine W_tightP hk3 hk4 ?_
  clear hm1 hm2 hm3 hn1 hn2 hn3 hk3 hk4 hk1 hz1 hy1 hy2
  generalize ce2 = ce, se2 = se at hr1 hr2 ⊢
  generalize H1 = H at hP hS ⊢
  refine lv_aload_n hx hb dX9_noteTurn_20 rfl (lv_at hl 0 rfl) ?_
  refine lv_dup hx hb dX9_noteTurn_21 rfl ?_
  refine va_get (D := (dC, dI)) (ci := 9) (v := .int (n_13 5)) (C := RX9) (T := TX9) (N := 15) hx hb hg gb_9 hown hK hP 0 hQ.x0 rfl 14 (by decide) (hg _ gm_fieldLink_RX9_97_ErrandGuild_turnCount_I_) (fun _ h9 => h9) rfl dX9_noteTurn_22 ?_
  refine lv_iconst (v := 1) hx hb dX9_noteTurn_25 (by decide) ?_
  refine lv_iadd hx hb dX9_noteTurn_26 ?_
  refine lv_topi (fun z_23 ez_23 => ?_)
  refine va_put (D := (dC, dI)) (ci := 9) (v := .int (z_23)) (ty := .int) (C := RX9) (T := TX9) (N := 15) hx hb hg gb_9 tyX9 tyX9_ok nmX9 hown hK hP hD hS 0 hQ.x0 rfl 14 (by decide) (hg _ gm_fieldLink_RX9_97_ErrandGuild_turnCount_I_) (fun _ h9 => h9) rfl (by decide +kernel) rfl rfl (Nat.le_of_ble_eq_true rfl) dX9_noteTurn_27 (fun H locs hP hD hS => ?_)
  obtain ⟨ws_25, n_24, en_24, hP, hD, hQ⟩ : ∃ (ws_25 : va_W) (n_24 : Nat → Int32), n_24 = u1 n_13 5 z_23 ∧ va_P (dC, dI) vwCl ws_25 H ∧ va_D A ws_25 ∧ Pic9 kc ws_25 ad ga_11 gc_12 M n_24 f_14 T G K F := ⟨_, _, rfl, hP, hD, hQ.x9 5 14 (by decide) z_23⟩
  have i1_26 : i1 M n_24 := by rw [en_24]; exact (i1.pn i1_16 _ (by decide))
  have i5_27 : i5 n_24 K := by rw [en_24]; exact (i5.pn i5_17 _ (by decide))
  have i6_28 : i6 n_24 T G := by rw [en_24]; exact (i6.pn i6_18 _ (by decide))
  have i7_29 : i7 n_24 G := by rw [en_24]; exact (i7.pn i7_19 _ (by decide))
  have i8_30 : i8 M n_24 gc_12 G := by rw [en_24]; exact (i8.pn i8_20 _ (by decide))
  have hn_31 : n_24 0 = n_13 0 := by rw [en_24]; rw [u1_ne _ _ (by decide)]
  have thn_31 := congrArg Int32.toInt hn_31
  refine lv_aload_n hx hb dX9_noteTurn_30 rfl (lv_at hl 1 rfl) ?_
  refine va_get (D := (dC, dI)) (ci := 7) (v := .ref (ad (50 + 16 * i + 13))) (C := RX7) (T := TX7) (N := 15) hx hb hg gb_7 hown hK hP (50 + 16 * i) (hQ.b0 hi) rfl 13 (by decide) (hg _ gm_fieldLink_RX9_201_ErrandGuild_Run_fault_LErrandGuild_Fault_) (fun _ h9 => h9) rfl dX9_noteTurn_31 ?_
  have hCc : ([(50 + 16 * i + 13)] : List Nat).map (fun i => ws_25[i]?) = ([(ad (50 + 16 * i + 13), .inr (2, [.int (G i 17), .int (G i 18), .int (G i 19), .int (G i 20), .int (G i 21)]))] : va_W).map some := mp1 (hQ.b13 hi)
  have hNd : ([(50 + 16 * i + 13)] : List Nat).Nodup := (nd_off (50 + 16 * i) (l := [13]) (by decide))
  have hPc := hP.pick [(50 + 16 * i + 13)] hCc
  have hDc := hD.pick [(50 + 16 * i + 13)] hNd hCc
  have hKc := hK.sub (tys' := []) [] rfl
  have hFc := va_free (wc := [(ad (50 + 16 * i + 13), .inr (2, [.int (G i 17), .int (G i 18), .int (G i 19), .int (G i 20), .int (G i 21)]))]) hD hS hA [(50 + 16 * i + 13)] hCc
  refine W_msr2 (fun hm1 hm2 hm3 => ?_)
  refine va_callv (va_runV (As := []) (rest := []) ⟨hx, hb, hml, hown, hg⟩ (c_X2_clear l dC dI (ad (50 + 16 * i + 13)) (G i 17) (G i 18) (G i 19) (G i 20) (G i 21) H.size ) (cwV 0 hg (gw_V gm_methodLink_RX9_312_yX2_clear gm_instanceMethod_yX2_clear gm_selects_RX2_yX2_clear_yX2_clear gm_initialized_RX2 gm_code_yX2_clear_cX2_clear_1_none) rfl rfl rfl (by decide +kernel) ⟨Nat.le_of_ble_eq_true rfl, Nat.le_of_ble_eq_true rfl⟩) ⟨fun a U g mk q => by obtain ⟨q0, q1, qP, qK, qD, qN⟩ := q; exact ⟨q0, q1, qP, va_K.moved (u := U) (U := U.calling g mk a) (Vm.Alike.refl U.vm) qK, qD, nx_same (u := U) (U := U.calling g mk a) rfl qN⟩, va_recv hK hP (ci := 2) (q0 := (50 + 16 * i + 13)) rfl (hQ.b13 hi), fun U hU hW => ⟨rfl, by rw [hU], by rw [hU]; exact hPc, va_K.moved hW.alike hKc, hDc.weaken (fun _ _ _ _ => trivial), nx_warm hW hN⟩⟩ rfl rfl hl.1 rfl (lv_room (Nat.le_of_ble_eq_true rfl)) dX9_noteTurn_34 ⟨by show ce + 0 ≤ 600; omega, by show se + 0 ≤ 33000; omega⟩) hS (fun q _ h => hFc q h) hFc (fun u_33 t H1 locs ht hvm hw hB hz1 hk1 hS => ?_)
  obtain ⟨ad_34, ac_35, af_36, ag_37⟩ := u_33
  obtain ⟨hP1, hD1, hK1⟩ := hB
  rw [ht] at hP1
  obtain ⟨hP, hD⟩ := va_repl (w1 := [((ad (50 + 16 * i + 13)), .inr (2, [.int (-1), .int (-1), .int (-1), .int 0, .int 0]))]) hP hD [(50 + 16 * i + 13)] hCc hNd rfl hk1 hFc hP1 hD1
  obtain ⟨ws_39, G_38, eG_38, hP, hD, hQ⟩ : ∃ (ws_39 : va_W) (G_38 : Nat → Nat → Int32), G_38 = u2 (u2 (u2 (u2 (u2 G i 17 (-1)) i 18 (-1)) i 19 (-1)) i 20 0) i 21 0 ∧ va_P (dC, dI) vwCl ws_39 H1 ∧ va_D A ws_39 ∧ Pic9 kc ws_39 ad ga_11 gc_12 M n_24 f_14 T G_38 K F := ⟨_, _, rfl, hP, hD, hQ.flt2 hi (-1) (-1) (-1) 0 0⟩
  have i6_40 : i6 n_24 T G_38 := by rw [eG_38]; exact (i6.pG (i6.pG (i6.pG (i6.pG (i6.pG i6_28 i _ (by decide)) i _ (by decide)) i _ (by decide)) i _ (by decide)) i _ (by decide))
  have i7_41 : i7 n_24 G_38 := by rw [eG_38]; exact (i7.pG (i7.pG (i7.pG (i7.pG (i7.pG i7_29 i _ (by decide)) i _ (by decide)) i _ (by decide)) i _ (by decide)) i _ (by decide))
  have i8_42 : i8 M n_24 gc_12 G_38 := by rw [eG_38]; exact (i8.pG (i8.pG (i8.pG (i8.pG (i8.pG i8_30 i _ (by decide)) i _ (by decide)) i _ (by decide)) i _ (by decide)) i _ (by decide))
  have i9_43 : i9 M gc_12 G_38 R := by rw [eG_38]; exact (i9.pG (i9.pG (i9.pG (i9.pG (i9.pG i9_21 i _ (by decide)) i _ (by decide)) i _ (by decide)) i _ (by decide)) i _ (by decide))
  refine W.widen (k := ce) (n := se) (Nat.le_refl _) (Nat.le_refl _) ?_
  generalize H1 = H at hP hS ⊢
  refine W_msr2 (fun hm1 hm2 hm3 => ?_)
  have hSl := S9_le i8_42 i9_43
  have hb0_ := i8_42.2.1 0 (by omega)
  have hb1_ := i8_42.2.1 1 (by omega)
  have hb2_ := i8_42.2.1 2 (by omega)
  refine W.widen (k := 600) (n := 33000) (by omega) (by omega) ?_
  exact W.vret hx hb hr (fun t ht hW => ⟨⟨(ad, ga_11, gc_12, M, n_24, f_14, T, G_38, K, F), rfl, (by show S9 M gc_12 + gc 2 ≤ S9 M gc + gc_12 2 ∧ (n_24 0).toInt = (n 0).toInt; omega), ws_39, by rw [ht]; exact hP, hD, hQ, ⟨i1_26, h_i2, h_i3, h_i4, i5_27, i6_40, i7_41, i8_42, i9_43⟩, by rw [ht]; show hpS H + (260 * M + 2 * S9 M gc) ≤ hpS s.heap + (260 * M + 2 * S9 M gc_12); omega, by rw [ht]; show 16 * H.size + (256 * M + S9 M gc) ≤ 16 * s.heap.size + (256 * M + S9 M gc_12); omega, by show (n 0).toInt ≤ (n_24 0).toInt; omega⟩, hS.F ht⟩) hS.2.2 dX9_noteTurn_37

set_option maxHeartbeats 8000000 in
set_option maxRecDepth 100000 in
theorem c_X9_addReading (l : Launch) (dC : Nat → ClassId) (dI : Nat → Nat → Nat) (kc : Nat → ClassId) (ws : va_W) (ad : Nat → Nat) (ga : Nat → Nat) (gc : Nat → Nat) (M : Nat) (n : Nat → Int32) (f : Nat → Nat → Int32) (T : Nat → Option Nat) (G : Nat → Nat → Int32) (K : Nat → Nat → Option Nat) (F : Nat → Nat → Nat → Int32) (R : Nat) (i : Nat) (v2 : Int32) (sz hz : Nat) (hQ : Pic9 kc ws ad ga gc M n f T G K F) (hI : I9 M n T gc G K R) (hi : i < M) (hR : R ≤ 310000) : Met l yX9_addReading (.code yX9_addReading cX9_addReading 4 (some .int) :: gw) ({ frames := 3, cells := 1200, slots := 50000, locals := 126 }) (va_Pc [.ref (ad 0), .ref (ad (50 + 16 * i)), .int v2] (fun U => U.heap.size = sz ∧ hpS U.heap = hz ∧ va_P (dC, dI) vwCl ws U.heap ∧ va_K (dC, dI) vwCl (t9 kc) U ∧ va_D (fun _ => True) ws ∧ nx U)) (va_Qi (fun (r : Int32) (u : (Nat → Nat) × (Nat → Nat) × (Nat → Nat) × Nat × (Nat → Int32) × (Nat → Nat → Int32) × (Nat → Option Nat) × (Nat → Nat → Int32) × (Nat → Nat → Option Nat) × (Nat → Nat → Nat → Int32)) => S9 M u.2.2.1 + gc 0 ≤ S9 M gc + u.2.2.1 0 ∧ (u.2.2.2.2.1 0).toInt = (n 0).toInt) (fun u t => ∃ w : va_W, va_P (dC, dI) vwCl w t.heap ∧ va_D (va_A ws sz) w ∧ Pic9 kc w ad u.2.1 u.2.2.1 M u.2.2.2.2.1 u.2.2.2.2.2.1 T u.2.2.2.2.2.2.2.1 K F ∧ I9 M u.2.2.2.2.1 T u.2.2.1 u.2.2.2.2.2.2.2.1 K R ∧ hpS t.heap + (260 * M + 2 * S9 M gc) ≤ hz + (260 * M + 2 * S9 M u.2.2.1) ∧ 16 * t.heap.size + (256 * M + S9 M gc) ≤ 16 * sz + (256 * M + S9 M u.2.2.1) ∧ (n 0).toInt ≤ (u.2.2.2.2.1 0).toInt) (va_A ws sz)) 1200 50000 (va_A ws sz) := by
  refine Met.ofW (cc := cX9_addReading) (maxL := 4) (ret := (some .int)) (by decide) rfl ?_
  intro p e s m args below meth c s₁ B hml hv
  obtain ⟨rfl, hsz, rfl, hP, hK, hD0, hN⟩ := hv
  have hx := B.exec
  have hb := B.bytes
  have hr := B.returns
  have hts := atoms_spec (ws := .code yX9_addReading cX9_addReading 4 (some .int) :: gw) B.pre
  have hg : ∀ w ∈ gw, w.before _ s = true := fun w h => hts w (List.mem_cons_of_mem _ h)
  have hown : s.vm.findClass RX9 = some m.cls := findClass_of_methodNamed B.named
  have hlocks := B.notSynchronized
  subst hsz
  have hD := hD0.self (sz := s.heap.size)
  generalize hAe : va_A ws s.heap.size = A at hD ⊢
  have hA : ∀ q : Nat, s.heap.size ≤ q → A q := fun q h => by rw [← hAe]; exact Or.inr h
  clear hAe
  have hS : va_S A s.heap s.heap [] := va_S.rf
  have hl := lv_entry ([.ref (ad 0), .ref (ad (50 + 16 * i)), .int v2]) (n := 4) (Nat.le_of_ble_eq_true rfl)
  rw [lg_entry_eq]
  generalize (lg_sl ([.ref (ad 0), .ref (ad (50 + 16 * i)), .int v2]) ++ List.replicate (4 - (lg_sl ([.ref (ad 0), .ref (ad (50 + 16 * i)), .int v2])).length) Slot.unset).toArray = ls at hl ⊢
  have hl : lv_has ls 4 [(0, .ref (ad 0)), (1, .ref (ad (50 + 16 * i))), (2, .int v2)] := hl
  obtain ⟨h_i1, h_i2, h_i3, h_i4, h_i5, h_i6, h_i7, h_i8, h_i9⟩ := id hI
  have q1_ := h_i1
  unfold i1 at q1_
  have hSl0 := S9_le h_i8 h_i9
  have hb0_ := h_i8.2.1 0 (by omega)
  have hb1_ := h_i8.2.1 1 (by omega)
  have hb2_ := h_i8.2.1 2 (by omega)
  have hr1 : 0 + (260 * M + 2 * S9 M gc) ≤ (260 * M + 2 * S9 M gc) := by omega
  have hr2 : 16 * 0 + (256 * M + S9 M gc) ≤ (256 * M + S9 M gc) := by omega
  obtain ⟨ce, hce⟩ : ∃ q : Nat, q = 0 := ⟨_, rfl⟩
  obtain ⟨se, hse⟩ : ∃ q : Nat, q = 0 := ⟨_, rfl⟩
  rw [← hse] at hr1
  have hr2 : 16 * ce + (256 * M + S9 M gc) ≤ (256 * M + S9 M gc) := by omega
  refine W.widen (k := ce) (n := se) (Nat.zero_le _) (Nat.zero_le _) ?_
  refine lv_aload_n hx hb dX9_addReading_0 rfl (lv_at hl 0 rfl) ?_
  refine lv_aload_n hx hb dX9_addReading_1 rfl (lv_at hl 1 rfl) ?_
  refine lv_iload_n hx hb dX9_addReading_2 rfl (lv_at hl 2 rfl) ?_
  have hFc := free_all hD hS hA
  refine W_msr2 (fun hm1 hm2 hm3 => ?_)
  refine va_calli (va_runV (As := [.ref (ad (50 + 16 * i)), .int v2]) (rest := []) ⟨hx, hb, hml, hown, hg⟩ (c_X9_readIn l dC dI kc ws ad ga gc M n f T G K F R i v2 s.heap.size (hpS s.heap) hQ ⟨h_i1, h_i2, h_i3, h_i4, h_i5, h_i6, h_i7, h_i8, h_i9⟩ (by show i < M; omega)) (cwV 2 hg (gw_V gm_methodLink_RX9_231_yX9_readIn gm_instanceMethod_yX9_readIn gm_selects_RX9_yX9_readIn_yX9_readIn gm_initialized_RX9 gm_code_yX9_readIn_cX9_readIn_3_some_int_) rfl rfl rfl (by decide +kernel) ⟨Nat.le_of_ble_eq_true rfl, Nat.le_of_ble_eq_true rfl⟩) ⟨fun a U g mk q => by obtain ⟨q0, q1, q2, qP, qK, qD, qN⟩ := q; exact ⟨q0, q1, q2, qP, va_K.moved (u := U) (U := U.calling g mk a) (Vm.Alike.refl U.vm) qK, qD, nx_same (u := U) (U := U.calling g mk a) rfl qN⟩, va_recv hK hP (ci := 9) (q0 := 0) rfl hQ.x0, fun U hU hW => ⟨rfl, by rw [hU], by rw [hU], by rw [hU]; exact hP, va_K.moved hW.alike hK, hD.weaken (fun _ _ _ _ => trivial), nx_warm hW hN⟩⟩ rfl rfl hl.1 rfl (lv_room (Nat.le_of_ble_eq_true rfl)) dX9_addReading_3 ⟨by show ce + 0 ≤ 1200; omega, by show se + 0 ≤ 50000; omega⟩) hS (fun q _ h => hFc q h) hFc (fun r_1 u_2 t H1 locs ht hvm hw hB hz1 hk1 hS => ?_)
  obtain ⟨hP, hD, hy1, hy2⟩ := hB
  rw [ht] at hP hy1 hy2
  have hD := hD.weaken (fun k q _ h => hFc _ h)
  refine W.widen (k := ce) (n := se) (Nat.le_refl _) (Nat.le_refl _) ?_
  have q1_ := h_i1
  unfold i1 at q1_
  generalize H1 = H at hP hS ⊢
  refine lv_istore_n (lv' := [(3, .int r_1), (0, .ref (ad 0)), (1, .ref (ad (50 + 16 * i))), (2, .int v2)]) hx hb dX9_addReading_6 rfl hl (by decide) rfl (fun ls hl => ?_)
  refine lv_aload_n hx hb dX9_addReading_7 rfl (lv_at hl 2 rfl) ?_
  refine lv_dup hx hb dX9_addReading_8 rfl ?_
  refine va_get (D := (dC, dI)) (ci := 7) (v := .int (G i 5)) (C := RX7) (T := TX7) (N := 15) hx hb hg gb_7 hown hK hP (50 + 16 * i) (hQ.b0 hi) rfl 5 (by decide) (hg _ gm_fieldLink_RX9_171_ErrandGuild_Run_sum_I_) (fun _ h9 => h9) rfl dX9_addReading_9 ?_
  refine lv_iload_n hx hb dX9_addReading_12 rfl (lv_at hl 0 rfl) ?_
  refine lv_iadd hx hb dX9_addReading_13 ?_
  refine lv_topi (fun z_4 ez_4 => ?_)
  refine va_put (D := (dC, dI)) (ci := 7) (v := .int (z_4)) (ty := .int) (C := RX7) (T := TX7) (N := 15) hx hb hg gb_7 tyX7 tyX7_ok nmX7 hown hK hP hD hS (50 + 16 * i) (hQ.b0 hi) rfl 5 (by decide) (hg _ gm_fieldLink_RX9_171_ErrandGuild_Run_sum_I_) (fun _ h9 => h9) rfl (by decide +kernel) rfl rfl (Nat.le_of_ble_eq_true rfl) dX9_addReading_14 (fun H locs hP hD hS => ?_)
  obtain ⟨ws_6, G_5, eG_5, hP, hD, hQ⟩ : ∃ (ws_6 : va_W) (G_5 : Nat → Nat → Int32), G_5 = u2 G i 5 z_4 ∧ va_P (dC, dI) vwCl ws_6 H ∧ va_D A ws_6 ∧ Pic9 kc ws_6 ad ga gc M n f T G_5 K F := ⟨_, _, rfl, hP, hD, hQ.run hi 5 (by decide) z_4⟩
  have i6_7 : i6 n T G_5 := by rw [eG_5]; exact (i6.pG h_i6 i _ (by decide))
  have i7_8 : i7 n G_5 := by rw [eG_5]; exact (i7.pG h_i7 i _ (by decide))
  have i8_9 : i8 M n gc G_5 := by rw [eG_5]; exact (i8.pG h_i8 i _ (by decide))
  have i9_10 : i9 M gc G_5 R := by rw [eG_5]; exact (i9.pG h_i9 i _ (by decide))
  have eg_11 : G_5 i 5 = z_4 := by rw [eG_5, u2_eq]
  refine lv_aload_n hx hb dX9_addReading_17 rfl (lv_at hl 1 rfl) ?_
  refine va_get (D := (dC, dI)) (ci := 9) (v := .ref (ad 42)) (C := RX9) (T := TX9) (N := 15) hx hb hg gb_9 hown hK hP 0 hQ.x0 rfl 9 (by decide) (hg _ gm_fieldLink_RX9_47_ErrandGuild_readings_LErrandGuild_Ledger_) (fun _ h9 => h9) rfl dX9_addReading_18 ?_
  refine lv_aload_n hx hb dX9_addReading_21 rfl (lv_at hl 2 rfl) ?_
  refine va_get (D := (dC, dI)) (ci := 7) (v := .int (G_5 i 0)) (C := RX7) (T := TX7) (N := 15) hx hb hg gb_7 hown hK hP (50 + 16 * i) (hQ.b0 hi) rfl 0 (by decide) (hg _ gm_fieldLink_RX9_118_ErrandGuild_Run_number_I_) (fun _ h9 => h9) rfl dX9_addReading_22 ?_
  refine lv_iload_n hx hb dX9_addReading_25 rfl (lv_at hl 3 rfl) ?_
  refine lv_iload_n hx hb dX9_addReading_26 rfl (lv_at hl 0 rfl) ?_
  refine lv_aload_n hx hb dX9_addReading_27 rfl (lv_at hl 2 rfl) ?_
  refine va_get (D := (dC, dI)) (ci := 7) (v := .int (G_5 i 6)) (C := RX7) (T := TX7) (N := 15) hx hb hg gb_7 hown hK hP (50 + 16 * i) (hQ.b0 hi) rfl 6 (by decide) (hg _ gm_fieldLink_RX9_174_ErrandGuild_Run_place_I_) (fun _ h9 => h9) rfl dX9_addReading_28 ?_
  have hFc := free_all hD hS hA
  refine W_msr2 (fun hm1 hm2 hm3 => ?_)
  refine va_callv (va_runV (As := [.int (G_5 i 0), .int v2, .int r_1, .int (G_5 i 6)]) (rest := []) ⟨hx, hb, hml, hown, hg⟩ (c_X5_add_r l dC dI kc ws_6 ad ga gc M n f T G_5 K F R (G_5 i 0) v2 r_1 (G_5 i 6) H.size (hpS H) hQ ⟨h_i1, h_i2, h_i3, h_i4, h_i5, i6_7, i7_8, i8_9, i9_10⟩ (by show R ≤ 310000; omega)) (cwV 4 hg (gw_V gm_methodLink_RX9_276_yX5_add gm_instanceMethod_yX5_add gm_selects_RX5_yX5_add_yX5_add gm_initialized_RX5 gm_code_yX5_add_cX5_add_5_none) rfl rfl rfl (by decide +kernel) ⟨Nat.le_of_ble_eq_true rfl, Nat.le_of_ble_eq_true rfl⟩) ⟨fun a U g mk q => by obtain ⟨q0, q1, q2, qP, qK, qD, qN⟩ := q; exact ⟨q0, q1, q2, qP, va_K.moved (u := U) (U := U.calling g mk a) (Vm.Alike.refl U.vm) qK, qD, nx_same (u := U) (U := U.calling g mk a) rfl qN⟩, va_recv hK hP (ci := 5) (q0 := 42) rfl hQ.x42, fun U hU hW => ⟨rfl, by rw [hU], by rw [hU], by rw [hU]; exact hP, va_K.moved hW.alike hK, hD.weaken (fun _ _ _ _ => trivial), nx_warm hW hN⟩⟩ rfl rfl hl.1 rfl (lv_room (Nat.le_of_ble_eq_true rfl)) dX9_addReading_31 ⟨by show ce + 600 ≤ 1200; omega, by show se + 33000 ≤ 50000; omega⟩) hS (fun q _ h => hFc q h) hFc (fun u_13 t H1 locs ht hvm hw hB hz1 hk1 hS => ?_)
  obtain ⟨ad_14, ga_15, gc_16, M_17, n_18, f_19, T_20, G_21, K_22, F_23⟩ := u_13
  have hB : ∃ w : va_W, va_P (dC, dI) vwCl w t.heap ∧ va_D (va_A ws_6 H.size) w ∧ Pic9 kc w ad ga_15 gc_16 M n_18 f_19 T G_5 K F ∧ I9 M n_18 T gc_16 G_5 K R ∧ hpS t.heap + (260 * M + 2 * S9 M gc) ≤ hpS H + (260 * M + 2 * S9 M gc_16) ∧ 16 * t.heap.size + (256 * M + S9 M gc) ≤ 16 * H.size + (256 * M + S9 M gc_16) ∧ (n 0).toInt ≤ (n_18 0).toInt := hB
  rw [ht] at hB
  obtain ⟨ws_24, hP, hD, hQ, hI_26, hy1, hy2, hn_25⟩ := hB
  have hD := hD.weaken (fun k q _ h => hFc _ h)
  obtain ⟨i1_27, i2_28, i3_29, i4_30, i5_31, i6_32, i7_33, i8_34, i9_35⟩ := id hI_26
  have q1_ := i1_27
  unfold i1 at q1_
  have hSl := S9_le i8_34 i9_35
  have hb0_ := i8_34.2.1 0 (by omega)
  have hb1_ := i8_34.2.1 1 (by omega)
  have hb2_ := i8_34.2.1 2 (by omega)
  refine W_msr2 (fun hn1 hn2 hn3 => ?_)
  obtain ⟨ce2, se2, hk3, hk4, hr1, hr2⟩ : ∃ c2 s2 : Nat, H1.size ≤ s.heap.size + c2 ∧ hpS H1 ≤ hpS s.heap + s2 ∧ s2 + (260 * M + 2 * S9 M gc) ≤ (260 * M + 2 * S9 M gc_16) ∧ 16 * c2 + (256 * M + S9 M gc) ≤ (256 * M + S9 M gc_16) := ⟨H1.size - s.heap.size, hpS H1 - hpS s.heap, by omega, by omega, by have := hS.1; omega, by have := hS.1; omega⟩
  refine W_tightP hk3 hk4 ?_
  clear hm1 hm2 hm3 hn1 hn2 hn3 hk3 hk4
  clear hk1 hz1
  generalize ce2 = ce, se2 = se at hr1 hr2 ⊢
  generalize H1 = H at hP hS ⊢
  have w_36 : S9 M gc_16 + gc 0 ≤ S9 M gc + gc_16 0 ∧ (n_18 0).toInt = (n 0).toInt := hw
  refine lv_aload_n hx hb dX9_addReading_34 rfl (lv_at hl 1 rfl) ?_
  refine lv_dup hx hb dX9_addReading_35 rfl ?_
  refine va_get (D := (dC, dI)) (ci := 9) (v := .int (n_18 3)) (C := RX9) (T := TX9) (N := 15) hx hb hg gb_9 hown hK hP 0 hQ.x0 rfl 10 (by decide) (hg _ gm_fieldLink_RX9_90_ErrandGuild_readingCount_I_) (fun _ h9 => h9) rfl dX9_addReading_36 ?_
  refine lv_iconst (v := 1) hx hb dX9_addReading_39 (by decide) ?_
  refine lv_iadd hx hb dX9_addReading_40 ?_
  refine lv_topi (fun z_37 ez_37 => ?_)
  refine va_put (D := (dC, dI)) (ci := 9) (v := .int (z_37)) (ty := .int) (C := RX9) (T := TX9) (N := 15) hx hb hg gb_9 tyX9 tyX9_ok nmX9 hown hK hP hD hS 0 hQ.x0 rfl 10 (by decide) (hg _ gm_fieldLink_RX9_90_ErrandGuild_readingCount_I_) (fun _ h9 => h9) rfl (by decide +kernel) rfl rfl (Nat.le_of_ble_eq_true rfl) dX9_addReading_41 (fun H locs hP hD hS => ?_)
  obtain ⟨ws_39, n_38, en_38, hP, hD, hQ⟩ : ∃ (ws_39 : va_W) (n_38 : Nat → Int32), n_38 = u1 n_18 3 z_37 ∧ va_P (dC, dI) vwCl ws_39 H ∧ va_D A ws_39 ∧ Pic9 kc ws_39 ad ga_15 gc_16 M n_38 f_19 T G_5 K F := ⟨_, _, rfl, hP, hD, hQ.x9 3 10 (by decide) z_37⟩
  have i1_40 : i1 M n_38 := by rw [en_38]; exact (i1.pn i1_27 _ (by decide))
  have i5_41 : i5 n_38 K := by rw [en_38]; exact (i5.pn i5_31 _ (by decide))
  have i6_42 : i6 n_38 T G_5 := by rw [en_38]; exact (i6.pn i6_32 _ (by decide))
  have i7_43 : i7 n_38 G_5 := by rw [en_38]; exact (i7.pn i7_33 _ (by decide))
  have i8_44 : i8 M n_38 gc_16 G_5 := by rw [en_38]; exact (i8.pn i8_34 _ (by decide))
  have hn_45 : n_38 0 = n_18 0 := by rw [en_38]; rw [u1_ne _ _ (by decide)]
  have thn_45 := congrArg Int32.toInt hn_45
  refine lv_iconst (v := -1) hx hb dX9_addReading_44 (by decide) ?_
  refine W_msr2 (fun hm1 hm2 hm3 => ?_)
  have hSl := S9_le i8_44 i9_35
  have hb0_ := i8_44.2.1 0 (by omega)
  have hb1_ := i8_44.2.1 1 (by omega)
  have hb2_ := i8_44.2.1 2 (by omega)
  refine W.widen (k := 1200) (n := 50000) (by omega) (by omega) ?_
  exact W.iret (v := -1) hx hb hr (fun t ht hW => ⟨⟨-1, (ad, ga_15, gc_16, M, n_38, f_19, T, G_5, K, F), rfl, (by have t_ := ti_m1; show S9 M gc_16 + gc 0 ≤ S9 M gc + gc_16 0 ∧ (n_38 0).toInt = (n 0).toInt; omega), ws_39, by rw [ht]; exact hP, hD, hQ, ⟨i1_40, i2_28, i3_29, i4_30, i5_41, i6_42, i7_43, i8_44, i9_35⟩, by rw [ht]; show hpS H + (260 * M + 2 * S9 M gc) ≤ hpS s.heap + (260 * M + 2 * S9 M gc_16); omega, by rw [ht]; show 16 * H.size + (256 * M + S9 M gc) ≤ 16 * s.heap.size + (256 * M + S9 M gc_16); omega, by show (n 0).toInt ≤ (n_38 0).toInt; omega⟩, hS.F ht⟩) hS.2.2 dX9_addReading_45

set_option maxHeartbeats 8000000 in
set_option maxRecDepth 100000 in
theorem c_X9_askHandlers (l : Launch) (dC : Nat → ClassId) (dI : Nat → Nat → Nat) (kc : Nat → ClassId) (ws : va_W) (ad : Nat → Nat) (ga : Nat → Nat) (gc : Nat → Nat) (M : Nat) (n : Nat → Int32) (f : Nat → Nat → Int32) (T : Nat → Option Nat) (G : Nat → Nat → Int32) (K : Nat → Nat → Option Nat) (F : Nat → Nat → Nat → Int32) (R : Nat) (i : Nat) (sz hz : Nat) (hQ : Pic9 kc ws ad ga gc M n f T G K F) (hI : I9 M n T gc G K R) (hi : i < M) (hR : R ≤ 310000) : Met l yX9_askHandlers (.code yX9_askHandlers cX9_askHandlers 7 none :: gw) ({ frames := 3, cells := 1200, slots := 50000, locals := 126 }) (va_Pc [.ref (ad 0), .ref (ad (50 + 16 * i))] (fun U => U.heap.size = sz ∧ hpS U.heap = hz ∧ va_P (dC, dI) vwCl ws U.heap ∧ va_K (dC, dI) vwCl (t9 kc) U ∧ va_D (fun _ => True) ws ∧ nx U)) (va_Qv (fun (u : (Nat → Nat) × (Nat → Nat) × (Nat → Nat) × Nat × (Nat → Int32) × (Nat → Nat → Int32) × (Nat → Option Nat) × (Nat → Nat → Int32) × (Nat → Nat → Option Nat) × (Nat → Nat → Nat → Int32)) => S9 M u.2.2.1 + gc 1 ≤ S9 M gc + u.2.2.1 1 ∧ (u.2.2.2.2.1 0).toInt = (n 0).toInt) (fun u t => ∃ w : va_W, va_P (dC, dI) vwCl w t.heap ∧ va_D (va_A ws sz) w ∧ Pic9 kc w ad u.2.1 u.2.2.1 M u.2.2.2.2.1 u.2.2.2.2.2.1 T u.2.2.2.2.2.2.2.1 K F ∧ I9 M u.2.2.2.2.1 T u.2.2.1 u.2.2.2.2.2.2.2.1 K R ∧ hpS t.heap + (260 * M + 2 * S9 M gc) ≤ hz + (260 * M + 2 * S9 M u.2.2.1) ∧ 16 * t.heap.size + (256 * M + S9 M gc) ≤ 16 * sz + (256 * M + S9 M u.2.2.1) ∧ (n 0).toInt ≤ (u.2.2.2.2.1 0).toInt) (va_A ws sz)) 1200 50000 (va_A ws sz) := by
  refine Met.ofW (cc := cX9_askHandlers) (maxL := 7) (ret := none) (by decide) rfl ?_
  intro p e s m args below meth c s₁ B hml hv
  obtain ⟨rfl, hsz, rfl, hP, hK, hD0, hN⟩ := hv
  have hx := B.exec
  have hb := B.bytes
  have hr := B.returns
  have hts := atoms_spec (ws := .code yX9_askHandlers cX9_askHandlers 7 none :: gw) B.pre
  have hg : ∀ w ∈ gw, w.before _ s = true := fun w h => hts w (List.mem_cons_of_mem _ h)
  have hown : s.vm.findClass RX9 = some m.cls := findClass_of_methodNamed B.named
  have hlocks := B.notSynchronized
  subst hsz
  have hD := hD0.self (sz := s.heap.size)
  generalize hAe : va_A ws s.heap.size = A at hD ⊢
  have hA : ∀ q : Nat, s.heap.size ≤ q → A q := fun q h => by rw [← hAe]; exact Or.inr h
  clear hAe
  have hS : va_S A s.heap s.heap [] := va_S.rf
  have hl := lv_entry ([.ref (ad 0), .ref (ad (50 + 16 * i))]) (n := 7) (Nat.le_of_ble_eq_true rfl)
  rw [lg_entry_eq]
  generalize (lg_sl ([.ref (ad 0), .ref (ad (50 + 16 * i))]) ++ List.replicate (7 - (lg_sl ([.ref (ad 0), .ref (ad (50 + 16 * i))])).length) Slot.unset).toArray = ls at hl ⊢
  have hl : lv_has ls 7 [(0, .ref (ad 0)), (1, .ref (ad (50 + 16 * i)))] := hl
  obtain ⟨h_i1, h_i2, h_i3, h_i4, h_i5, h_i6, h_i7, h_i8, h_i9⟩ := id hI
  have q1_ := h_i1
  unfold i1 at q1_
  have hSl0 := S9_le h_i8 h_i9
  have hb0_ := h_i8.2.1 0 (by omega)
  have hb1_ := h_i8.2.1 1 (by omega)
  have hb2_ := h_i8.2.1 2 (by omega)
  have hr1 : 0 + (260 * M + 2 * S9 M gc) ≤ (260 * M + 2 * S9 M gc) := by omega
  have hr2 : 16 * 0 + (256 * M + S9 M gc) ≤ (256 * M + S9 M gc) := by omega
  obtain ⟨ce, hce⟩ : ∃ q : Nat, q = 0 := ⟨_, rfl⟩
  obtain ⟨se, hse⟩ : ∃ q : Nat, q = 0 := ⟨_, rfl⟩
  rw [← hse] at hr1
  have hr2 : 16 * ce + (256 * M + S9 M gc) ≤ (256 * M + S9 M gc) := by omega
  refine W.widen (k := ce) (n := se) (Nat.zero_le _) (Nat.zero_le _) ?_
  refine lv_aload_n hx hb dX9_askHandlers_0 rfl (lv_at hl 1 rfl) ?_
  refine va_get (D := (dC, dI)) (ci := 7) (v := .ref (ad (50 + 16 * i + 13))) (C := RX7) (T := TX7) (N := 15) hx hb hg gb_7 hown hK hP (50 + 16 * i) (hQ.b0 hi) rfl 13 (by decide) (hg _ gm_fieldLink_RX9_201_ErrandGuild_Run_fault_LErrandGuild_Fault_) (fun _ h9 => h9) rfl dX9_askHandlers_1 ?_
  refine lv_iconst (v := 1) hx hb dX9_askHandlers_4 (by decide) ?_
  refine va_put (D := (dC, dI)) (ci := 2) (v := .int (1)) (ty := .boolean) (C := RX2) (T := TX2) (N := 5) hx hb hg gb_2 tyX2 tyX2_ok nmX2 hown hK hP hD hS (50 + 16 * i + 13) (hQ.b13 hi) rfl 4 (by decide) (hg _ gm_fieldLink_RX9_219_ErrandGuild_Fault_uncaught_Z_) (fun _ h9 => h9) rfl (by decide +kernel) rfl rfl (Nat.le_of_ble_eq_true rfl) dX9_askHandlers_5 (fun H locs hP hD hS => ?_)
  obtain ⟨ws_2, G_1, eG_1, hP, hD, hQ⟩ : ∃ (ws_2 : va_W) (G_1 : Nat → Nat → Int32), G_1 = u2 G i 21 1 ∧ va_P (dC, dI) vwCl ws_2 H ∧ va_D A ws_2 ∧ Pic9 kc ws_2 ad ga gc M n f T G_1 K F := ⟨_, _, rfl, hP, hD, hQ.fltI hi 4 (by decide) 1⟩
  have i6_3 : i6 n T G_1 := by rw [eG_1]; exact (i6.pG h_i6 i _ (by decide))
  have i7_4 : i7 n G_1 := by rw [eG_1]; exact (i7.pG h_i7 i _ (by decide))
  have i8_5 : i8 M n gc G_1 := by rw [eG_1]; exact (i8.pG h_i8 i _ (by decide))
  have i9_6 : i9 M gc G_1 R := by rw [eG_1]; exact (i9.pG h_i9 i _ (by decide))
  have eg_7 : G_1 i 21 = 1 := by rw [eG_1, u2_eq]
  refine lv_iconst (v := 1) hx hb dX9_askHandlers_8 (by decide) ?_
  refine lv_istore_n (lv' := [(2, .int 1), (0, .ref (ad 0)), (1, .ref (ad (50 + 16 * i)))]) hx hb dX9_askHandlers_9 rfl hl (by decide) rfl (fun ls hl => ?_)
  refine lv_iconst (v := 0) hx hb dX9_askHandlers_10 (by decide) ?_
  refine lv_istore_n (lv' := [(3, .int 0), (2, .int 1), (0, .ref (ad 0)), (1, .ref (ad (50 + 16 * i)))]) hx hb dX9_askHandlers_11 rfl hl (by decide) rfl (fun ls hl => ?_)
  have L12 : ∀ (fuel : Nat) (x_8 : Int32) (x_9 : Int32)   (ws_15 : va_W) (ga_10 : Nat → Nat) (gc_11 : Nat → Nat) (n_12 : Nat → Int32) (f_13 : Nat → Nat → Int32) (G_14 : Nat → Nat → Int32) (ce se : Nat) (H : Heap) (locs : List Loc) (ls : Array Slot), (4 - x_9.toInt).toNat < fuel → (0 ≤ x_9.toInt ∧ x_9.toInt ≤ 3) → (x_8.toInt = 0 ∨ x_8.toInt = 1) → (S9 M gc_11 + gc 1 ≤ S9 M gc + gc_11 1) → ((n_12 0).toInt = (n 0).toInt) → ((n 0).toInt ≤ (n_12 0).toInt) → Pic9 kc ws_15 ad ga_10 gc_11 M n_12 f_13 T G_14 K F → I9 M n_12 T gc_11 G_14 K R → (se + (260 * M + 2 * S9 M gc) ≤ (260 * M + 2 * S9 M gc_11)) → (16 * ce + (256 * M + S9 M gc) ≤ (256 * M + S9 M gc_11)) → va_P (dC, dI) vwCl ws_15 H → va_D A ws_15 → va_S A s.heap H locs → lv_has ls 7 [(3, .int x_9), (2, .int x_8), (0, .ref (ad 0)), (1, .ref (ad (50 + 16 * i)))] → W p l e (headSpec (.code yX9_askHandlers cX9_askHandlers 7 none :: gw) ({ frames := 3, cells := 1200, slots := 50000, locals := 126 })).room s m ([.ref (ad 0), .ref (ad (50 + 16 * i))] : List Value).toArray below meth c H locs ce se (MQ below (va_Qv (fun (u : (Nat → Nat) × (Nat → Nat) × (Nat → Nat) × Nat × (Nat → Int32) × (Nat → Nat → Int32) × (Nat → Option Nat) × (Nat → Nat → Int32) × (Nat → Nat → Option Nat) × (Nat → Nat → Nat → Int32)) => S9 M u.2.2.1 + gc 1 ≤ S9 M gc + u.2.2.1 1 ∧ (u.2.2.2.2.1 0).toInt = (n 0).toInt) (fun u t => ∃ w : va_W, va_P (dC, dI) vwCl w t.heap ∧ va_D A w ∧ Pic9 kc w ad u.2.1 u.2.2.1 M u.2.2.2.2.1 u.2.2.2.2.2.1 T u.2.2.2.2.2.2.2.1 K F ∧ I9 M u.2.2.2.2.1 T u.2.2.1 u.2.2.2.2.2.2.2.1 K R ∧ hpS t.heap + (260 * M + 2 * S9 M gc) ≤ (hpS s.heap) + (260 * M + 2 * S9 M u.2.2.1) ∧ 16 * t.heap.size + (256 * M + S9 M gc) ≤ 16 * s.heap.size + (256 * M + S9 M u.2.2.1) ∧ (n 0).toInt ≤ (u.2.2.2.2.1 0).toInt) A) ([.ref (ad 0), .ref (ad (50 + 16 * i))] : List Value).toArray s 1200 50000 A) (F0 m 12 ls []) := by
    intro fuel
    induction fuel with
    | zero => intro x_8 x_9 ws_15 ga_10 gc_11 n_12 f_13 G_14 ce se H locs ls hm; exact absurd hm (Nat.not_lt_zero _)
    | succ fuel_24 ih_23 =>
      intro x_8 x_9 ws_15 ga_10 gc_11 n_12 f_13 G_14 ce se H locs ls hm_16 v_17 v_18 v_19 v_20 v_21 hQ hI_22 hr1 hr2 hP hD hS hl
      obtain ⟨i1_25, i2_26, i3_27, i4_28, i5_29, i6_30, i7_31, i8_32, i9_33⟩ := id hI_22
      have q1_ := i1_25
      unfold i1 at q1_
      have hSl := S9_le i8_32 i9_33
      have hb0_ := i8_32.2.1 0 (by omega)
      have hb1_ := i8_32.2.1 1 (by omega)
      have hb2_ := i8_32.2.1 2 (by omega)
      refine lv_iload_n hx hb dX9_askHandlers_12 rfl (lv_at hl 0 rfl) ?_
      refine lv_iconst (v := 2) hx hb dX9_askHandlers_13 (by decide) ?_
      refine lv_icmp_gt (tgt := 122) hx hb dX9_askHandlers_14 (by decide) (fun c_34 => ?_) (fun c_34 => ?_)
      · simp only [i_lt, i_le, i_eq, ti_2] at c_34
        refine W_msr2 (fun hm1 hm2 hm3 => ?_)
        have hSl := S9_le i8_32 i9_33
        have hb0_ := i8_32.2.1 0 (by omega)
        have hb1_ := i8_32.2.1 1 (by omega)
        have hb2_ := i8_32.2.1 2 (by omega)
        refine W.widen (k := 1200) (n := 50000) (by omega) (by omega) ?_
        exact W.vret hx hb hr (fun t ht hW => ⟨⟨(ad, ga_10, gc_11, M, n_12, f_13, T, G_14, K, F), rfl, (by show S9 M gc_11 + gc 1 ≤ S9 M gc + gc_11 1 ∧ (n_12 0).toInt = (n 0).toInt; omega), ws_15, by rw [ht]; exact hP, hD, hQ, ⟨i1_25, i2_26, i3_27, i4_28, i5_29, i6_30, i7_31, i8_32, i9_33⟩, by rw [ht]; show hpS H + (260 * M + 2 * S9 M gc) ≤ hpS s.heap + (260 * M + 2 * S9 M gc_11); omega, by rw [ht]; show 16 * H.size + (256 * M + S9 M gc) ≤ 16 * s.heap.size + (256 * M + S9 M gc_11); omega, by show (n 0).toInt ≤ (n_12 0).toInt; omega⟩, hS.F ht⟩) hS.2.2 dX9_askHandlers_122
      · simp only [i_lt, i_le, i_eq, ti_2] at c_34
        refine lv_iload_n hx hb dX9_askHandlers_17 rfl (lv_at hl 1 rfl) ?_
        refine lv_if_eq (tgt := 122) hx hb dX9_askHandlers_18 (by decide) (fun c_35 => ?_) (fun c_35 => ?_)
        · simp only [i_lt, i_le, i_eq, ti_0] at c_35
          refine W_msr2 (fun hm1 hm2 hm3 => ?_)
          have hSl := S9_le i8_32 i9_33
          have hb0_ := i8_32.2.1 0 (by omega)
          have hb1_ := i8_32.2.1 1 (by omega)
          have hb2_ := i8_32.2.1 2 (by omega)
          refine W.widen (k := 1200) (n := 50000) (by omega) (by omega) ?_
          exact W.vret hx hb hr (fun t ht hW => ⟨⟨(ad, ga_10, gc_11, M, n_12, f_13, T, G_14, K, F), rfl, (by show S9 M gc_11 + gc 1 ≤ S9 M gc + gc_11 1 ∧ (n_12 0).toInt = (n 0).toInt; omega), ws_15, by rw [ht]; exact hP, hD, hQ, ⟨i1_25, i2_26, i3_27, i4_28, i5_29, i6_30, i7_31, i8_32, i9_33⟩, by rw [ht]; show hpS H + (260 * M + 2 * S9 M gc) ≤ hpS s.heap + (260 * M + 2 * S9 M gc_11); omega, by rw [ht]; show 16 * H.size + (256 * M + S9 M gc) ≤ 16 * s.heap.size + (256 * M + S9 M gc_11); omega, by show (n 0).toInt ≤ (n_12 0).toInt; omega⟩, hS.F ht⟩) hS.2.2 dX9_askHandlers_122
        · simp only [i_lt, i_le, i_eq, ti_0] at c_35
          refine lv_iload_n hx hb dX9_askHandlers_21 rfl (lv_at hl 0 rfl) ?_
          refine lv_if_ne (tgt := 32) hx hb dX9_askHandlers_22 (by decide) (fun c_36 => ?_) (fun c_36 => ?_)
          · simp only [i_lt, i_le, i_eq, ti_0] at c_36
            refine lv_aload_n hx hb dX9_askHandlers_32 rfl (lv_at hl 3 rfl) ?_
            refine va_get (D := (dC, dI)) (ci := 7) (v := .ref (ad (50 + 16 * i + 13))) (C := RX7) (T := TX7) (N := 15) hx hb hg gb_7 hown hK hP (50 + 16 * i) (hQ.b0 hi) rfl 13 (by decide) (hg _ gm_fieldLink_RX9_201_ErrandGuild_Run_fault_LErrandGuild_Fault_) (fun _ h9 => h9) rfl dX9_askHandlers_33 ?_
            refine va_get (D := (dC, dI)) (ci := 2) (v := .int (G_14 i 17)) (C := RX2) (T := TX2) (N := 5) hx hb hg gb_2 hown hK hP (50 + 16 * i + 13) (hQ.b13 hi) rfl 0 (by decide) (hg _ gm_fieldLink_RX9_205_ErrandGuild_Fault_kind_I_) (fun _ h9 => h9) rfl dX9_askHandlers_36 ?_
            refine lv_istore (lv' := [(4, .int (G_14 i 17)), (3, .int x_9), (2, .int x_8), (0, .ref (ad 0)), (1, .ref (ad (50 + 16 * i)))]) hx hb dX9_askHandlers_39 hl (by decide) rfl (fun ls hl => ?_)
            refine lv_iload_n hx hb dX9_askHandlers_41 rfl (lv_at hl 1 rfl) ?_
            refine lv_iload hx hb dX9_askHandlers_42 (lv_at hl 0 rfl) ?_
            have hCc : ([] : List Nat).map (fun i => ws_15[i]?) = ([] : va_W).map some := rfl
            have hNd : ([] : List Nat).Nodup := List.nodup_nil
            have hPc := hP.pick [] hCc
            have hDc := hD.pick [] hNd hCc
            have hKc := hK.sub (tys' := []) [] rfl
            have hFc := va_free (wc := []) hD hS hA [] hCc
            refine W_msr2 (fun hm1 hm2 hm3 => ?_)
            refine va_calli (va_runS (As := [.int x_9, .int (G_14 i 17)]) (rest := []) ⟨hx, hb, hml, hown, hg⟩ (c_X3_indexOf l dC dI x_9 (G_14 i 17) H.size ) (va_cwS 2 hg (gw_S gm_methodLink_RX9_103_yX3_indexOf gm_static_yX3_indexOf gm_initialized_RX3 gm_code_yX3_indexOf_cX3_indexOf_2_some_int_) rfl rfl rfl (by decide +kernel) ⟨Nat.le_of_ble_eq_true rfl, Nat.le_of_ble_eq_true rfl⟩) ⟨fun a U g mk q => by obtain ⟨q0, q1, qP, qK, qD, qN⟩ := q; exact ⟨q0, q1, qP, va_K.moved (u := U) (U := U.calling g mk a) (Vm.Alike.refl U.vm) qK, qD, nx_same (u := U) (U := U.calling g mk a) rfl qN⟩, fun U hU hW => ⟨rfl, by rw [hU], by rw [hU]; exact hPc, va_K.moved hW.alike hKc, hDc.weaken (fun _ _ _ _ => trivial), nx_warm hW hN⟩⟩ rfl rfl hl.1 rfl (lv_room (Nat.le_of_ble_eq_true rfl)) dX9_askHandlers_44 ⟨by show ce + 0 ≤ 1200; omega, by show se + 0 ≤ 50000; omega⟩) hS (fun q _ h => hFc q h) hFc (fun r_37 u_38 t H1 locs ht hvm hw hB hz1 hk1 hS => ?_)
            obtain ⟨hP, hD⟩ := va_replS hP hD [] rfl List.nodup_nil hk1 hFc nil_P nil_D
            refine W.widen (k := ce) (n := se) (Nat.le_refl _) (Nat.le_refl _) ?_
            generalize H1 = H at hP hS ⊢
            have w_39 := hw
            try dsimp only at w_39
            refine lv_istore (lv' := [(5, .int r_37), (4, .int (G_14 i 17)), (3, .int x_9), (2, .int x_8), (0, .ref (ad 0)), (1, .ref (ad (50 + 16 * i)))]) hx hb dX9_askHandlers_47 hl (by decide) rfl (fun ls hl => ?_)
            refine lv_aload_n hx hb dX9_askHandlers_49 rfl (lv_at hl 4 rfl) ?_
            refine va_get (D := (dC, dI)) (ci := 9) (v := .ref (ad 36)) (C := RX9) (T := TX9) (N := 15) hx hb hg gb_9 hown hK hP 0 hQ.x0 rfl 3 (by decide) (hg _ gm_fieldLink_RX9_25_ErrandGuild_handlers_LErrandGuild_Handlers_) (fun _ h9 => h9) rfl dX9_askHandlers_50 ?_
            refine lv_iload hx hb dX9_askHandlers_53 (lv_at hl 0 rfl) ?_
            have hCc : ([36, 37] : List Nat).map (fun i => ws_15[i]?) = ([(ad 36, .inr (3, [.ref (ad 37), .ref (ad 38), .ref (ad 39)])), (ad 37, .inl (kc 1, 17, .inl (f_13 26)))] : va_W).map some := mp2 hQ.x36 hQ.x37
            have hNd : ([36, 37] : List Nat).Nodup := (by decide)
            have hPc := hP.pick [36, 37] hCc
            have hDc := hD.pick [36, 37] hNd hCc
            have hKc := hK.sub (tys' := [((kc 1), .boolean)]) [1] rfl
            have hFc := va_free (wc := [(ad 36, .inr (3, [.ref (ad 37), .ref (ad 38), .ref (ad 39)])), (ad 37, .inl (kc 1, 17, .inl (f_13 26)))]) hD hS hA [36, 37] hCc
            refine W_msr2 (fun hm1 hm2 hm3 => ?_)
            refine va_calli (va_runV (As := [.int r_37]) (rest := []) ⟨hx, hb, hml, hown, hg⟩ (c_X3_isThere l dC dI (ad 36) (ad 37) (ad 38) (ad 39) (kc 1) (f_13 26) r_37 H.size ) (cwV 1 hg (gw_V gm_methodLink_RX9_391_yX3_isThere gm_instanceMethod_yX3_isThere gm_selects_RX3_yX3_isThere_yX3_isThere gm_initialized_RX3 gm_code_yX3_isThere_cX3_isThere_2_some_boolean_) rfl rfl rfl (by decide +kernel) ⟨Nat.le_of_ble_eq_true rfl, Nat.le_of_ble_eq_true rfl⟩) ⟨fun a U g mk q => by obtain ⟨q0, q1, qP, qK, qD, qN⟩ := q; exact ⟨q0, q1, qP, va_K.moved (u := U) (U := U.calling g mk a) (Vm.Alike.refl U.vm) qK, qD, nx_same (u := U) (U := U.calling g mk a) rfl qN⟩, va_recv hK hP (ci := 3) (q0 := 36) rfl hQ.x36, fun U hU hW => ⟨rfl, by rw [hU], by rw [hU]; exact hPc, va_K.moved hW.alike hKc, hDc.weaken (fun _ _ _ _ => trivial), nx_warm hW hN⟩⟩ rfl rfl hl.1 rfl (lv_room (Nat.le_of_ble_eq_true rfl)) dX9_askHandlers_55 ⟨by show ce + 0 ≤ 1200; omega, by show se + 0 ≤ 50000; omega⟩) hS (fun q _ h => hFc q h) hFc (fun r_40 u_41 t H1 locs ht hvm hw hB hz1 hk1 hS => ?_)
            obtain ⟨hP1, hD1⟩ := hB
            rw [ht] at hP1
            obtain ⟨hP, hD⟩ := va_replS hP hD [36, 37] hCc hNd hk1 hFc hP1 hD1
            refine W.widen (k := ce) (n := se) (Nat.le_refl _) (Nat.le_refl _) ?_
            generalize H1 = H at hP hS ⊢
            rcases hw with ⟨rfl, w_42⟩ | ⟨rfl, w_42⟩
            · refine lv_if_eq (tgt := 116) hx hb dX9_askHandlers_58 (by decide) (fun c_43 => absurd c_43 (by decide)) (fun _ => ?_)
              refine lv_aload_n hx hb dX9_askHandlers_61 rfl (lv_at hl 4 rfl) ?_
              refine va_get (D := (dC, dI)) (ci := 9) (v := .ref (ad 36)) (C := RX9) (T := TX9) (N := 15) hx hb hg gb_9 hown hK hP 0 hQ.x0 rfl 3 (by decide) (hg _ gm_fieldLink_RX9_25_ErrandGuild_handlers_LErrandGuild_Handlers_) (fun _ h9 => h9) rfl dX9_askHandlers_62 ?_
              refine lv_iload hx hb dX9_askHandlers_65 (lv_at hl 0 rfl) ?_
              have hCc : ([36, 39] : List Nat).map (fun i => ws_15[i]?) = ([(ad 36, .inr (3, [.ref (ad 37), .ref (ad 38), .ref (ad 39)])), (ad 39, .inl (kc 1, 17, .inl (f_13 28)))] : va_W).map some := mp2 hQ.x36 hQ.x39
              have hNd : ([36, 39] : List Nat).Nodup := (by decide)
              have hPc := hP.pick [36, 39] hCc
              have hDc := hD.pick [36, 39] hNd hCc
              have hKc := hK.sub (tys' := [((kc 1), .boolean)]) [1] rfl
              have hFc := va_free (wc := [(ad 36, .inr (3, [.ref (ad 37), .ref (ad 38), .ref (ad 39)])), (ad 39, .inl (kc 1, 17, .inl (f_13 28)))]) hD hS hA [36, 39] hCc
              refine W_msr2 (fun hm1 hm2 hm3 => ?_)
              refine va_calli (va_runV (As := [.int r_37]) (rest := []) ⟨hx, hb, hml, hown, hg⟩ (c_X3_isThrowing l dC dI (ad 36) (ad 37) (ad 38) (ad 39) (kc 1) (f_13 28) r_37 H.size ) (cwV 1 hg (gw_V gm_methodLink_RX9_394_yX3_isThrowing gm_instanceMethod_yX3_isThrowing gm_selects_RX3_yX3_isThrowing_yX3_isThrowing gm_initialized_RX3 gm_code_yX3_isThrowing_cX3_isThrowing_2_some_boolean_) rfl rfl rfl (by decide +kernel) ⟨Nat.le_of_ble_eq_true rfl, Nat.le_of_ble_eq_true rfl⟩) ⟨fun a U g mk q => by obtain ⟨q0, q1, qP, qK, qD, qN⟩ := q; exact ⟨q0, q1, qP, va_K.moved (u := U) (U := U.calling g mk a) (Vm.Alike.refl U.vm) qK, qD, nx_same (u := U) (U := U.calling g mk a) rfl qN⟩, va_recv hK hP (ci := 3) (q0 := 36) rfl hQ.x36, fun U hU hW => ⟨rfl, by rw [hU], by rw [hU]; exact hPc, va_K.moved hW.alike hKc, hDc.weaken (fun _ _ _ _ => trivial), nx_warm hW hN⟩⟩ rfl rfl hl.1 rfl (lv_room (Nat.le_of_ble_eq_true rfl)) dX9_askHandlers_67 ⟨by show ce + 0 ≤ 1200; omega, by show se + 0 ≤ 50000; omega⟩) hS (fun q _ h => hFc q h) hFc (fun r_44 u_45 t H1 locs ht hvm hw hB hz1 hk1 hS => ?_)
              obtain ⟨hP1, hD1⟩ := hB
              rw [ht] at hP1
              obtain ⟨hP, hD⟩ := va_replS hP hD [36, 39] hCc hNd hk1 hFc hP1 hD1
              refine W.widen (k := ce) (n := se) (Nat.le_refl _) (Nat.le_refl _) ?_
              generalize H1 = H at hP hS ⊢
              rcases hw with ⟨rfl, w_46⟩ | ⟨rfl, w_46⟩
              · refine lv_istore (lv' := [(6, .int 1), (5, .int r_37), (4, .int (G_14 i 17)), (3, .int x_9), (2, .int x_8), (0, .ref (ad 0)), (1, .ref (ad (50 + 16 * i)))]) hx hb dX9_askHandlers_70 hl (by decide) rfl (fun ls hl => ?_)
                refine lv_aload_n hx hb dX9_askHandlers_72 rfl (lv_at hl 5 rfl) ?_
                refine va_get (D := (dC, dI)) (ci := 9) (v := .ref (ad 45)) (C := RX9) (T := TX9) (N := 15) hx hb hg gb_9 hown hK hP 0 hQ.x0 rfl 11 (by decide) (hg _ gm_fieldLink_RX9_51_ErrandGuild_asked_LErrandGuild_Ledger_) (fun _ h9 => h9) rfl dX9_askHandlers_73 ?_
                refine lv_aload_n hx hb dX9_askHandlers_76 rfl (lv_at hl 6 rfl) ?_
                refine va_get (D := (dC, dI)) (ci := 7) (v := .int (G_14 i 0)) (C := RX7) (T := TX7) (N := 15) hx hb hg gb_7 hown hK hP (50 + 16 * i) (hQ.b0 hi) rfl 0 (by decide) (hg _ gm_fieldLink_RX9_118_ErrandGuild_Run_number_I_) (fun _ h9 => h9) rfl dX9_askHandlers_77 ?_
                refine lv_iload_n hx hb dX9_askHandlers_80 rfl (lv_at hl 3 rfl) ?_
                refine lv_aload_n hx hb dX9_askHandlers_81 rfl (lv_at hl 5 rfl) ?_
                refine va_get (D := (dC, dI)) (ci := 9) (v := .ref (ad 36)) (C := RX9) (T := TX9) (N := 15) hx hb hg gb_9 hown hK hP 0 hQ.x0 rfl 3 (by decide) (hg _ gm_fieldLink_RX9_25_ErrandGuild_handlers_LErrandGuild_Handlers_) (fun _ h9 => h9) rfl dX9_askHandlers_82 ?_
                refine lv_iload hx hb dX9_askHandlers_85 (lv_at hl 1 rfl) ?_
                have hCc : ([36, 38] : List Nat).map (fun i => ws_15[i]?) = ([(ad 36, .inr (3, [.ref (ad 37), .ref (ad 38), .ref (ad 39)])), (ad 38, .inl (kc 0, 17, .inl (f_13 27)))] : va_W).map some := mp2 hQ.x36 hQ.x38
                have hNd : ([36, 38] : List Nat).Nodup := (by decide)
                have hPc := hP.pick [36, 38] hCc
                have hDc := hD.pick [36, 38] hNd hCc
                have hKc := hK.sub (tys' := [((kc 0), .int)]) [0] rfl
                have hFc := va_free (wc := [(ad 36, .inr (3, [.ref (ad 37), .ref (ad 38), .ref (ad 39)])), (ad 38, .inl (kc 0, 17, .inl (f_13 27)))]) hD hS hA [36, 38] hCc
                refine W_msr2 (fun hm1 hm2 hm3 => ?_)
                refine va_calli (va_runV (As := [.int r_37]) (rest := [.int x_9, .int (G_14 i 0), .ref (ad 45)]) ⟨hx, hb, hml, hown, hg⟩ (c_X3_effectAt l dC dI (ad 36) (ad 37) (ad 38) (ad 39) (kc 0) (f_13 27) r_37 H.size ) (cwV 1 hg (gw_V gm_methodLink_RX9_397_yX3_effectAt gm_instanceMethod_yX3_effectAt gm_selects_RX3_yX3_effectAt_yX3_effectAt gm_initialized_RX3 gm_code_yX3_effectAt_cX3_effectAt_2_some_int_) rfl rfl rfl (by decide +kernel) ⟨Nat.le_of_ble_eq_true rfl, Nat.le_of_ble_eq_true rfl⟩) ⟨fun a U g mk q => by obtain ⟨q0, q1, qP, qK, qD, qN⟩ := q; exact ⟨q0, q1, qP, va_K.moved (u := U) (U := U.calling g mk a) (Vm.Alike.refl U.vm) qK, qD, nx_same (u := U) (U := U.calling g mk a) rfl qN⟩, va_recv hK hP (ci := 3) (q0 := 36) rfl hQ.x36, fun U hU hW => ⟨rfl, by rw [hU], by rw [hU]; exact hPc, va_K.moved hW.alike hKc, hDc.weaken (fun _ _ _ _ => trivial), nx_warm hW hN⟩⟩ rfl rfl hl.1 rfl (lv_room (Nat.le_of_ble_eq_true rfl)) dX9_askHandlers_87 ⟨by show ce + 0 ≤ 1200; omega, by show se + 0 ≤ 50000; omega⟩) hS (fun q _ h => hFc q h) hFc (fun r_47 u_48 t H1 locs ht hvm hw hB hz1 hk1 hS => ?_)
                obtain ⟨hP1, hD1⟩ := hB
                rw [ht] at hP1
                obtain ⟨hP, hD⟩ := va_replS hP hD [36, 38] hCc hNd hk1 hFc hP1 hD1
                refine W.widen (k := ce) (n := se) (Nat.le_refl _) (Nat.le_refl _) ?_
                generalize H1 = H at hP hS ⊢
                refine lv_iload hx hb dX9_askHandlers_90 (lv_at hl 0 rfl) ?_
                refine lv_if_eq (tgt := 99) hx hb dX9_askHandlers_92 (by decide) (fun c_49 => absurd c_49 (by decide)) (fun _ => ?_)
                refine lv_iconst (v := 1) hx hb dX9_askHandlers_95 (by decide) ?_
                refine lv_goto (tgt := 100) hx hb dX9_askHandlers_96 (by decide) ?_
                have hFc := free_all hD hS hA
                refine W_msr2 (fun hm1 hm2 hm3 => ?_)
                refine va_callv (va_runV (As := [.int (G_14 i 0), .int x_9, .int r_47, .int 1]) (rest := []) ⟨hx, hb, hml, hown, hg⟩ (c_X5_add_a l dC dI kc ws_15 ad ga_10 gc_11 M n_12 f_13 T G_14 K F R (G_14 i 0) x_9 r_47 1 H.size (hpS H) hQ ⟨i1_25, i2_26, i3_27, i4_28, i5_29, i6_30, i7_31, i8_32, i9_33⟩ (by have t_0 := ti_1; show R ≤ 310000; omega)) (cwV 4 hg (gw_V gm_methodLink_RX9_276_yX5_add gm_instanceMethod_yX5_add gm_selects_RX5_yX5_add_yX5_add gm_initialized_RX5 gm_code_yX5_add_cX5_add_5_none) rfl rfl rfl (by decide +kernel) ⟨Nat.le_of_ble_eq_true rfl, Nat.le_of_ble_eq_true rfl⟩) ⟨fun a U g mk q => by obtain ⟨q0, q1, q2, qP, qK, qD, qN⟩ := q; exact ⟨q0, q1, q2, qP, va_K.moved (u := U) (U := U.calling g mk a) (Vm.Alike.refl U.vm) qK, qD, nx_same (u := U) (U := U.calling g mk a) rfl qN⟩, va_recv hK hP (ci := 5) (q0 := 45) rfl hQ.x45, fun U hU hW => ⟨rfl, by rw [hU], by rw [hU], by rw [hU]; exact hP, va_K.moved hW.alike hK, hD.weaken (fun _ _ _ _ => trivial), nx_warm hW hN⟩⟩ rfl rfl hl.1 rfl (lv_room (Nat.le_of_ble_eq_true rfl)) dX9_askHandlers_100 ⟨by show ce + 600 ≤ 1200; omega, by show se + 33000 ≤ 50000; omega⟩) hS (fun q _ h => hFc q h) hFc (fun u_51 t H1 locs ht hvm hw hB hz1 hk1 hS => ?_)
                obtain ⟨ad_52, ga_53, gc_54, M_55, n_56, f_57, T_58, G_59, K_60, F_61⟩ := u_51
                have hB : ∃ w : va_W, va_P (dC, dI) vwCl w t.heap ∧ va_D (va_A ws_15 H.size) w ∧ Pic9 kc w ad ga_53 gc_54 M n_56 f_57 T G_14 K F ∧ I9 M n_56 T gc_54 G_14 K R ∧ hpS t.heap + (260 * M + 2 * S9 M gc_11) ≤ hpS H + (260 * M + 2 * S9 M gc_54) ∧ 16 * t.heap.size + (256 * M + S9 M gc_11) ≤ 16 * H.size + (256 * M + S9 M gc_54) ∧ (n_12 0).toInt ≤ (n_56 0).toInt := hB
                rw [ht] at hB
                obtain ⟨ws_62, hP, hD, hQ, hI_64, hy1, hy2, hn_63⟩ := hB
                have hD := hD.weaken (fun k q _ h => hFc _ h)
                obtain ⟨i1_65, i2_66, i3_67, i4_68, i5_69, i6_70, i7_71, i8_72, i9_73⟩ := id hI_64
                have q1_ := i1_65
                unfold i1 at q1_
                have hSl := S9_le i8_72 i9_73
                have hb0_ := i8_72.2.1 0 (by omega)
                have hb1_ := i8_72.2.1 1 (by omega)
                have hb2_ := i8_72.2.1 2 (by omega)
                refine W_msr2 (fun hn1 hn2 hn3 => ?_)
                obtain ⟨ce2, se2, hk3, hk4, hr1, hr2⟩ : ∃ c2 s2 : Nat, H1.size ≤ s.heap.size + c2 ∧ hpS H1 ≤ hpS s.heap + s2 ∧ s2 + (260 * M + 2 * S9 M gc) ≤ (260 * M + 2 * S9 M gc_54) ∧ 16 * c2 + (256 * M + S9 M gc) ≤ (256 * M + S9 M gc_54) := ⟨H1.size - s.heap.size, hpS H1 - hpS s.heap, by omega, by omega, by have := hS.1; omega, by have := hS.1; omega⟩
                refine W_tightP hk3 hk4 ?_
                clear hm1 hm2 hm3 hn1 hn2 hn3 hk3 hk4
                clear hk1 hz1
                generalize ce2 = ce, se2 = se at hr1 hr2 ⊢
                generalize H1 = H at hP hS ⊢
                have w_74 : S9 M gc_54 + gc_11 1 ≤ S9 M gc_11 + gc_54 1 ∧ (n_56 0).toInt = (n_12 0).toInt := hw
                refine lv_aload_n hx hb dX9_askHandlers_103 rfl (lv_at hl 5 rfl) ?_
                refine lv_dup hx hb dX9_askHandlers_104 rfl ?_
                refine va_get (D := (dC, dI)) (ci := 9) (v := .int (n_56 4)) (C := RX9) (T := TX9) (N := 15) hx hb hg gb_9 hown hK hP 0 hQ.x0 rfl 12 (by decide) (hg _ gm_fieldLink_RX9_93_ErrandGuild_askedCount_I_) (fun _ h9 => h9) rfl dX9_askHandlers_105 ?_
                refine lv_iconst (v := 1) hx hb dX9_askHandlers_108 (by decide) ?_
                refine lv_iadd hx hb dX9_askHandlers_109 ?_
                refine lv_topi (fun z_75 ez_75 => ?_)
                refine va_put (D := (dC, dI)) (ci := 9) (v := .int (z_75)) (ty := .int) (C := RX9) (T := TX9) (N := 15) hx hb hg gb_9 tyX9 tyX9_ok nmX9 hown hK hP hD hS 0 hQ.x0 rfl 12 (by decide) (hg _ gm_fieldLink_RX9_93_ErrandGuild_askedCount_I_) (fun _ h9 => h9) rfl (by decide +kernel) rfl rfl (Nat.le_of_ble_eq_true rfl) dX9_askHandlers_110 (fun H locs hP hD hS => ?_)
                obtain ⟨ws_77, n_76, en_76, hP, hD, hQ⟩ : ∃ (ws_77 : va_W) (n_76 : Nat → Int32), n_76 = u1 n_56 4 z_75 ∧ va_P (dC, dI) vwCl ws_77 H ∧ va_D A ws_77 ∧ Pic9 kc ws_77 ad ga_53 gc_54 M n_76 f_57 T G_14 K F := ⟨_, _, rfl, hP, hD, hQ.x9 4 12 (by decide) z_75⟩
                have i1_78 : i1 M n_76 := by rw [en_76]; exact (i1.pn i1_65 _ (by decide))
                have i5_79 : i5 n_76 K := by rw [en_76]; exact (i5.pn i5_69 _ (by decide))
                have i6_80 : i6 n_76 T G_14 := by rw [en_76]; exact (i6.pn i6_70 _ (by decide))
                have i7_81 : i7 n_76 G_14 := by rw [en_76]; exact (i7.pn i7_71 _ (by decide))
                have i8_82 : i8 M n_76 gc_54 G_14 := by rw [en_76]; exact (i8.pn i8_72 _ (by decide))
                have hn_83 : n_76 0 = n_56 0 := by rw [en_76]; rw [u1_ne _ _ (by decide)]
                have thn_83 := congrArg Int32.toInt hn_83
                refine lv_iload hx hb dX9_askHandlers_113 (lv_at hl 0 rfl) ?_
                refine lv_istore_n (lv' := [(2, .int 1), (6, .int 1), (5, .int r_37), (4, .int (G_14 i 17)), (3, .int x_9), (0, .ref (ad 0)), (1, .ref (ad (50 + 16 * i)))]) hx hb dX9_askHandlers_115 rfl hl (by decide) rfl (fun ls hl => ?_)
                obtain ⟨y_84, ey_84⟩ : ∃ q : Int32, q = x_9 + (1) := ⟨_, rfl⟩
                refine lv_iinc (v := y_84) (lv' := [(3, .int y_84), (2, .int 1), (6, .int 1), (5, .int r_37), (4, .int (G_14 i 17)), (0, .ref (ad 0)), (1, .ref (ad (50 + 16 * i)))]) hx hb dX9_askHandlers_116 hl (k := 4) rfl (by rw [ey_84]; rfl) (by decide) rfl (fun ls hl => ?_)
                have ty_84 : y_84.toInt = x_9.toInt + (1) := ar_add rfl ti_1 ey_84 (by omega)
                refine lv_goto (tgt := 12) hx hb dX9_askHandlers_119 (by decide) ?_
                exact ih_23 (1 : Int32) y_84   ws_77 ga_53 gc_54 n_76 f_57 G_14 ce se H locs ls (by have t_0 := ti_1; show (4 - y_84.toInt).toNat < _; omega) (by have t_0 := ti_1; show 0 ≤ y_84.toInt ∧ y_84.toInt ≤ 3; omega) (by have t_0 := ti_1; show (1 : Int32).toInt = 0 ∨ (1 : Int32).toInt = 1; omega) (by have t_0 := ti_1; show S9 M gc_54 + gc 1 ≤ S9 M gc + gc_54 1; omega) (by have t_0 := ti_1; show (n_76 0).toInt = (n 0).toInt; omega) (by have t_0 := ti_1; show (n 0).toInt ≤ (n_76 0).toInt; omega) hQ ⟨i1_78, i2_66, i3_67, i4_68, i5_79, i6_80, i7_81, i8_82, i9_73⟩ hr1 hr2 hP hD hS (lv_sub hl [0, 1, 5, 6] rfl)
              · refine lv_istore (lv' := [(6, .int 0), (5, .int r_37), (4, .int (G_14 i 17)), (3, .int x_9), (2, .int x_8), (0, .ref (ad 0)), (1, .ref (ad (50 + 16 * i)))]) hx hb dX9_askHandlers_70 hl (by decide) rfl (fun ls hl => ?_)
                refine lv_aload_n hx hb dX9_askHandlers_72 rfl (lv_at hl 5 rfl) ?_
                refine va_get (D := (dC, dI)) (ci := 9) (v := .ref (ad 45)) (C := RX9) (T := TX9) (N := 15) hx hb hg gb_9 hown hK hP 0 hQ.x0 rfl 11 (by decide) (hg _ gm_fieldLink_RX9_51_ErrandGuild_asked_LErrandGuild_Ledger_) (fun _ h9 => h9) rfl dX9_askHandlers_73 ?_
                refine lv_aload_n hx hb dX9_askHandlers_76 rfl (lv_at hl 6 rfl) ?_
                refine va_get (D := (dC, dI)) (ci := 7) (v := .int (G_14 i 0)) (C := RX7) (T := TX7) (N := 15) hx hb hg gb_7 hown hK hP (50 + 16 * i) (hQ.b0 hi) rfl 0 (by decide) (hg _ gm_fieldLink_RX9_118_ErrandGuild_Run_number_I_) (fun _ h9 => h9) rfl dX9_askHandlers_77 ?_
                refine lv_iload_n hx hb dX9_askHandlers_80 rfl (lv_at hl 3 rfl) ?_
                refine lv_aload_n hx hb dX9_askHandlers_81 rfl (lv_at hl 5 rfl) ?_
                refine va_get (D := (dC, dI)) (ci := 9) (v := .ref (ad 36)) (C := RX9) (T := TX9) (N := 15) hx hb hg gb_9 hown hK hP 0 hQ.x0 rfl 3 (by decide) (hg _ gm_fieldLink_RX9_25_ErrandGuild_handlers_LErrandGuild_Handlers_) (fun _ h9 => h9) rfl dX9_askHandlers_82 ?_
                refine lv_iload hx hb dX9_askHandlers_85 (lv_at hl 1 rfl) ?_
                have hCc : ([36, 38] : List Nat).map (fun i => ws_15[i]?) = ([(ad 36, .inr (3, [.ref (ad 37), .ref (ad 38), .ref (ad 39)])), (ad 38, .inl (kc 0, 17, .inl (f_13 27)))] : va_W).map some := mp2 hQ.x36 hQ.x38
                have hNd : ([36, 38] : List Nat).Nodup := (by decide)
                have hPc := hP.pick [36, 38] hCc
                have hDc := hD.pick [36, 38] hNd hCc
                have hKc := hK.sub (tys' := [((kc 0), .int)]) [0] rfl
                have hFc := va_free (wc := [(ad 36, .inr (3, [.ref (ad 37), .ref (ad 38), .ref (ad 39)])), (ad 38, .inl (kc 0, 17, .inl (f_13 27)))]) hD hS hA [36, 38] hCc
                refine W_msr2 (fun hm1 hm2 hm3 => ?_)
                refine va_calli (va_runV (As := [.int r_37]) (rest := [.int x_9, .int (G_14 i 0), .ref (ad 45)]) ⟨hx, hb, hml, hown, hg⟩ (c_X3_effectAt l dC dI (ad 36) (ad 37) (ad 38) (ad 39) (kc 0) (f_13 27) r_37 H.size ) (cwV 1 hg (gw_V gm_methodLink_RX9_397_yX3_effectAt gm_instanceMethod_yX3_effectAt gm_selects_RX3_yX3_effectAt_yX3_effectAt gm_initialized_RX3 gm_code_yX3_effectAt_cX3_effectAt_2_some_int_) rfl rfl rfl (by decide +kernel) ⟨Nat.le_of_ble_eq_true rfl, Nat.le_of_ble_eq_true rfl⟩) ⟨fun a U g mk q => by obtain ⟨q0, q1, qP, qK, qD, qN⟩ := q; exact ⟨q0, q1, qP, va_K.moved (u := U) (U := U.calling g mk a) (Vm.Alike.refl U.vm) qK, qD, nx_same (u := U) (U := U.calling g mk a) rfl qN⟩, va_recv hK hP (ci := 3) (q0 := 36) rfl hQ.x36, fun U hU hW => ⟨rfl, by rw [hU], by rw [hU]; exact hPc, va_K.moved hW.alike hKc, hDc.weaken (fun _ _ _ _ => trivial), nx_warm hW hN⟩⟩ rfl rfl hl.1 rfl (lv_room (Nat.le_of_ble_eq_true rfl)) dX9_askHandlers_87 ⟨by show ce + 0 ≤ 1200; omega, by show se + 0 ≤ 50000; omega⟩) hS (fun q _ h => hFc q h) hFc (fun r_85 u_86 t H1 locs ht hvm hw hB hz1 hk1 hS => ?_)
                obtain ⟨hP1, hD1⟩ := hB
                rw [ht] at hP1
                obtain ⟨hP, hD⟩ := va_replS hP hD [36, 38] hCc hNd hk1 hFc hP1 hD1
                refine W.widen (k := ce) (n := se) (Nat.le_refl _) (Nat.le_refl _) ?_
                generalize H1 = H at hP hS ⊢
                refine lv_iload hx hb dX9_askHandlers_90 (lv_at hl 0 rfl) ?_
                refine lv_if_eq (tgt := 99) hx hb dX9_askHandlers_92 (by decide) (fun _ => ?_) (fun c_87 => absurd c_87 (by decide))
                refine lv_iconst (v := 0) hx hb dX9_askHandlers_99 (by decide) ?_
                have hFc := free_all hD hS hA
                refine W_msr2 (fun hm1 hm2 hm3 => ?_)
                refine va_callv (va_runV (As := [.int (G_14 i 0), .int x_9, .int r_85, .int 0]) (rest := []) ⟨hx, hb, hml, hown, hg⟩ (c_X5_add_a l dC dI kc ws_15 ad ga_10 gc_11 M n_12 f_13 T G_14 K F R (G_14 i 0) x_9 r_85 0 H.size (hpS H) hQ ⟨i1_25, i2_26, i3_27, i4_28, i5_29, i6_30, i7_31, i8_32, i9_33⟩ (by have t_0 := ti_0; show R ≤ 310000; omega)) (cwV 4 hg (gw_V gm_methodLink_RX9_276_yX5_add gm_instanceMethod_yX5_add gm_selects_RX5_yX5_add_yX5_add gm_initialized_RX5 gm_code_yX5_add_cX5_add_5_none) rfl rfl rfl (by decide +kernel) ⟨Nat.le_of_ble_eq_true rfl, Nat.le_of_ble_eq_true rfl⟩) ⟨fun a U g mk q => by obtain ⟨q0, q1, q2, qP, qK, qD, qN⟩ := q; exact ⟨q0, q1, q2, qP, va_K.moved (u := U) (U := U.calling g mk a) (Vm.Alike.refl U.vm) qK, qD, nx_same (u := U) (U := U.calling g mk a) rfl qN⟩, va_recv hK hP (ci := 5) (q0 := 45) rfl hQ.x45, fun U hU hW => ⟨rfl, by rw [hU], by rw [hU], by rw [hU]; exact hP, va_K.moved hW.alike hK, hD.weaken (fun _ _ _ _ => trivial), nx_warm hW hN⟩⟩ rfl rfl hl.1 rfl (lv_room (Nat.le_of_ble_eq_true rfl)) dX9_askHandlers_100 ⟨by show ce + 600 ≤ 1200; omega, by show se + 33000 ≤ 50000; omega⟩) hS (fun q _ h => hFc q h) hFc (fun u_89 t H1 locs ht hvm hw hB hz1 hk1 hS => ?_)
                obtain ⟨ad_90, ga_91, gc_92, M_93, n_94, f_95, T_96, G_97, K_98, F_99⟩ := u_89
                have hB : ∃ w : va_W, va_P (dC, dI) vwCl w t.heap ∧ va_D (va_A ws_15 H.size) w ∧ Pic9 kc w ad ga_91 gc_92 M n_94 f_95 T G_14 K F ∧ I9 M n_94 T gc_92 G_14 K R ∧ hpS t.heap + (260 * M + 2 * S9 M gc_11) ≤ hpS H + (260 * M + 2 * S9 M gc_92) ∧ 16 * t.heap.size + (256 * M + S9 M gc_11) ≤ 16 * H.size + (256 * M + S9 M gc_92) ∧ (n_12 0).toInt ≤ (n_94 0).toInt := hB
                rw [ht] at hB
                obtain ⟨ws_100, hP, hD, hQ, hI_102, hy1, hy2, hn_101⟩ := hB
                have hD := hD.weaken (fun k q _ h => hFc _ h)
                obtain ⟨i1_103, i2_104, i3_105, i4_106, i5_107, i6_108, i7_109, i8_110, i9_111⟩ := id hI_102
                have q1_ := i1_103
                unfold i1 at q1_
                have hSl := S9_le i8_110 i9_111
                have hb0_ := i8_110.2.1 0 (by omega)
                have hb1_ := i8_110.2.1 1 (by omega)
                have hb2_ := i8_110.2.1 2 (by omega)
                refine W_msr2 (fun hn1 hn2 hn3 => ?_)
                obtain ⟨ce2, se2, hk3, hk4, hr1, hr2⟩ : ∃ c2 s2 : Nat, H1.size ≤ s.heap.size + c2 ∧ hpS H1 ≤ hpS s.heap + s2 ∧ s2 + (260 * M + 2 * S9 M gc) ≤ (260 * M + 2 * S9 M gc_92) ∧ 16 * c2 + (256 * M + S9 M gc) ≤ (256 * M + S9 M gc_92) := ⟨H1.size - s.heap.size, hpS H1 - hpS s.heap, by omega, by omega, by have := hS.1; omega, by have := hS.1; omega⟩
                refine W_tightP hk3 hk4 ?_
                clear hm1 hm2 hm3 hn1 hn2 hn3 hk3 hk4
                clear hk1 hz1
                generalize ce2 = ce, se2 = se at hr1 hr2 ⊢
                generalize H1 = H at hP hS ⊢
                have w_112 : S9 M gc_92 + gc_11 1 ≤ S9 M gc_11 + gc_92 1 ∧ (n_94 0).toInt = (n_12 0).toInt := hw
                refine lv_aload_n hx hb dX9_askHandlers_103 rfl (lv_at hl 5 rfl) ?_
                refine lv_dup hx hb dX9_askHandlers_104 rfl ?_
                refine va_get (D := (dC, dI)) (ci := 9) (v := .int (n_94 4)) (C := RX9) (T := TX9) (N := 15) hx hb hg gb_9 hown hK hP 0 hQ.x0 rfl 12 (by decide) (hg _ gm_fieldLink_RX9_93_ErrandGuild_askedCount_I_) (fun _ h9 => h9) rfl dX9_askHandlers_105 ?_
                refine lv_iconst (v := 1) hx hb dX9_askHandlers_108 (by decide) ?_
                refine lv_iadd hx hb dX9_askHandlers_109 ?_
                refine lv_topi (fun z_113 ez_113 => ?_)
                refine va_put (D := (dC, dI)) (ci := 9) (v := .int (z_113)) (ty := .int) (C := RX9) (T := TX9) (N := 15) hx hb hg gb_9 tyX9 tyX9_ok nmX9 hown hK hP hD hS 0 hQ.x0 rfl 12 (by decide) (hg _ gm_fieldLink_RX9_93_ErrandGuild_askedCount_I_) (fun _ h9 => h9) rfl (by decide +kernel) rfl rfl (Nat.le_of_ble_eq_true rfl) dX9_askHandlers_110 (fun H locs hP hD hS => ?_)
                obtain ⟨ws_115, n_114, en_114, hP, hD, hQ⟩ : ∃ (ws_115 : va_W) (n_114 : Nat → Int32), n_114 = u1 n_94 4 z_113 ∧ va_P (dC, dI) vwCl ws_115 H ∧ va_D A ws_115 ∧ Pic9 kc ws_115 ad ga_91 gc_92 M n_114 f_95 T G_14 K F := ⟨_, _, rfl, hP, hD, hQ.x9 4 12 (by decide) z_113⟩
                have i1_116 : i1 M n_114 := by rw [en_114]; exact (i1.pn i1_103 _ (by decide))
                have i5_117 : i5 n_114 K := by rw [en_114]; exact (i5.pn i5_107 _ (by decide))
                have i6_118 : i6 n_114 T G_14 := by rw [en_114]; exact (i6.pn i6_108 _ (by decide))
                have i7_119 : i7 n_114 G_14 := by rw [en_114]; exact (i7.pn i7_109 _ (by decide))
                have i8_120 : i8 M n_114 gc_92 G_14 := by rw [en_114]; exact (i8.pn i8_110 _ (by decide))
                have hn_121 : n_114 0 = n_94 0 := by rw [en_114]; rw [u1_ne _ _ (by decide)]
                have thn_121 := congrArg Int32.toInt hn_121
                refine lv_iload hx hb dX9_askHandlers_113 (lv_at hl 0 rfl) ?_
                refine lv_istore_n (lv' := [(2, .int 0), (6, .int 0), (5, .int r_37), (4, .int (G_14 i 17)), (3, .int x_9), (0, .ref (ad 0)), (1, .ref (ad (50 + 16 * i)))]) hx hb dX9_askHandlers_115 rfl hl (by decide) rfl (fun ls hl => ?_)
                obtain ⟨y_122, ey_122⟩ : ∃ q : Int32, q = x_9 + (1) := ⟨_, rfl⟩
                refine lv_iinc (v := y_122) (lv' := [(3, .int y_122), (2, .int 0), (6, .int 0), (5, .int r_37), (4, .int (G_14 i 17)), (0, .ref (ad 0)), (1, .ref (ad (50 + 16 * i)))]) hx hb dX9_askHandlers_116 hl (k := 4) rfl (by rw [ey_122]; rfl) (by decide) rfl (fun ls hl => ?_)
                have ty_122 : y_122.toInt = x_9.toInt + (1) := ar_add rfl ti_1 ey_122 (by omega)
                refine lv_goto (tgt := 12) hx hb dX9_askHandlers_119 (by decide) ?_
                exact ih_23 (0 : Int32) y_122   ws_115 ga_91 gc_92 n_114 f_95 G_14 ce se H locs ls (by have t_0 := ti_0; show (4 - y_122.toInt).toNat < _; omega) (by have t_0 := ti_0; show 0 ≤ y_122.toInt ∧ y_122.toInt ≤ 3; omega) (by have t_0 := ti_0; show (0 : Int32).toInt = 0 ∨ (0 : Int32).toInt = 1; omega) (by have t_0 := ti_0; show S9 M gc_92 + gc 1 ≤ S9 M gc + gc_92 1; omega) (by have t_0 := ti_0; show (n_114 0).toInt = (n 0).toInt; omega) (by have t_0 := ti_0; show (n 0).toInt ≤ (n_114 0).toInt; omega) hQ ⟨i1_116, i2_104, i3_105, i4_106, i5_117, i6_118, i7_119, i8_120, i9_111⟩ hr1 hr2 hP hD hS (lv_sub hl [0, 1, 5, 6] rfl)
            · refine lv_if_eq (tgt := 116) hx hb dX9_askHandlers_58 (by decide) (fun _ => ?_) (fun c_123 => absurd c_123 (by decide))
              obtain ⟨y_124, ey_124⟩ : ∃ q : Int32, q = x_9 + (1) := ⟨_, rfl⟩
              refine lv_iinc (v := y_124) (lv' := [(3, .int y_124), (5, .int r_37), (4, .int (G_14 i 17)), (2, .int x_8), (0, .ref (ad 0)), (1, .ref (ad (50 + 16 * i)))]) hx hb dX9_askHandlers_116 hl (k := 2) rfl (by rw [ey_124]; rfl) (by decide) rfl (fun ls hl => ?_)
              have ty_124 : y_124.toInt = x_9.toInt + (1) := ar_add rfl ti_1 ey_124 (by omega)
              refine lv_goto (tgt := 12) hx hb dX9_askHandlers_119 (by decide) ?_
              exact ih_23 x_8 y_124   ws_15 ga_10 gc_11 n_12 f_13 G_14 ce se H locs ls (by show (4 - y_124.toInt).toNat < _; omega) (by show 0 ≤ y_124.toInt ∧ y_124.toInt ≤ 3; omega) (by show x_8.toInt = 0 ∨ x_8.toInt = 1; omega) (by show S9 M gc_11 + gc 1 ≤ S9 M gc + gc_11 1; omega) (by show (n_12 0).toInt = (n 0).toInt; omega) (by show (n 0).toInt ≤ (n_12 0).toInt; omega) hQ ⟨i1_25, i2_26, i3_27, i4_28, i5_29, i6_30, i7_31, i8_32, i9_33⟩ hr1 hr2 hP hD hS (lv_sub hl [0, 3, 4, 5] rfl)
          · simp only [i_lt, i_le, i_eq, ti_0] at c_36
            refine lv_aload_n hx hb dX9_askHandlers_25 rfl (lv_at hl 3 rfl) ?_
            refine va_get (D := (dC, dI)) (ci := 7) (v := .int (G_14 i 1)) (C := RX7) (T := TX7) (N := 15) hx hb hg gb_7 hown hK hP (50 + 16 * i) (hQ.b0 hi) rfl 1 (by decide) (hg _ gm_fieldLink_RX9_148_ErrandGuild_Run_errand_I_) (fun _ h9 => h9) rfl dX9_askHandlers_26 ?_
            refine lv_goto (tgt := 39) hx hb dX9_askHandlers_29 (by decide) ?_
            refine lv_istore (lv' := [(4, .int (G_14 i 1)), (3, .int x_9), (2, .int x_8), (0, .ref (ad 0)), (1, .ref (ad (50 + 16 * i)))]) hx hb dX9_askHandlers_39 hl (by decide) rfl (fun ls hl => ?_)
            refine lv_iload_n hx hb dX9_askHandlers_41 rfl (lv_at hl 1 rfl) ?_
            refine lv_iload hx hb dX9_askHandlers_42 (lv_at hl 0 rfl) ?_
            have hCc : ([] : List Nat).map (fun i => ws_15[i]?) = ([] : va_W).map some := rfl
            have hNd : ([] : List Nat).Nodup := List.nodup_nil
            have hPc := hP.pick [] hCc
            have hDc := hD.pick [] hNd hCc
            have hKc := hK.sub (tys' := []) [] rfl
            have hFc := va_free (wc := []) hD hS hA [] hCc
            refine W_msr2 (fun hm1 hm2 hm3 => ?_)
            refine va_calli (va_runS (As := [.int x_9, .int (G_14 i 1)]) (rest := []) ⟨hx, hb, hml, hown, hg⟩ (c_X3_indexOf l dC dI x_9 (G_14 i 1) H.size ) (va_cwS 2 hg (gw_S gm_methodLink_RX9_103_yX3_indexOf gm_static_yX3_indexOf gm_initialized_RX3 gm_code_yX3_indexOf_cX3_indexOf_2_some_int_) rfl rfl rfl (by decide +kernel) ⟨Nat.le_of_ble_eq_true rfl, Nat.le_of_ble_eq_true rfl⟩) ⟨fun a U g mk q => by obtain ⟨q0, q1, qP, qK, qD, qN⟩ := q; exact ⟨q0, q1, qP, va_K.moved (u := U) (U := U.calling g mk a) (Vm.Alike.refl U.vm) qK, qD, nx_same (u := U) (U := U.calling g mk a) rfl qN⟩, fun U hU hW => ⟨rfl, by rw [hU], by rw [hU]; exact hPc, va_K.moved hW.alike hKc, hDc.weaken (fun _ _ _ _ => trivial), nx_warm hW hN⟩⟩ rfl rfl hl.1 rfl (lv_room (Nat.le_of_ble_eq_true rfl)) dX9_askHandlers_44 ⟨by show ce + 0 ≤ 1200; omega, by show se + 0 ≤ 50000; omega⟩) hS (fun q _ h => hFc q h) hFc (fun r_125 u_126 t H1 locs ht hvm hw hB hz1 hk1 hS => ?_)
            obtain ⟨hP, hD⟩ := va_replS hP hD [] rfl List.nodup_nil hk1 hFc nil_P nil_D
            refine W.widen (k := ce) (n := se) (Nat.le_refl _) (Nat.le_refl _) ?_
            generalize H1 = H at hP hS ⊢
            have w_127 := hw
            try dsimp only at w_127
            refine lv_istore (lv' := [(5, .int r_125), (4, .int (G_14 i 1)), (3, .int x_9), (2, .int x_8), (0, .ref (ad 0)), (1, .ref (ad (50 + 16 * i)))]) hx hb dX9_askHandlers_47 hl (by decide) rfl (fun ls hl => ?_)
            refine lv_aload_n hx hb dX9_askHandlers_49 rfl (lv_at hl 4 rfl) ?_
            refine va_get (D := (dC, dI)) (ci := 9) (v := .ref (ad 36)) (C := RX9) (T := TX9) (N := 15) hx hb hg gb_9 hown hK hP 0 hQ.x0 rfl 3 (by decide) (hg _ gm_fieldLink_RX9_25_ErrandGuild_handlers_LErrandGuild_Handlers_) (fun _ h9 => h9) rfl dX9_askHandlers_50 ?_
            refine lv_iload hx hb dX9_askHandlers_53 (lv_at hl 0 rfl) ?_
            have hCc : ([36, 37] : List Nat).map (fun i => ws_15[i]?) = ([(ad 36, .inr (3, [.ref (ad 37), .ref (ad 38), .ref (ad 39)])), (ad 37, .inl (kc 1, 17, .inl (f_13 26)))] : va_W).map some := mp2 hQ.x36 hQ.x37
            have hNd : ([36, 37] : List Nat).Nodup := (by decide)
            have hPc := hP.pick [36, 37] hCc
            have hDc := hD.pick [36, 37] hNd hCc
            have hKc := hK.sub (tys' := [((kc 1), .boolean)]) [1] rfl
            have hFc := va_free (wc := [(ad 36, .inr (3, [.ref (ad 37), .ref (ad 38), .ref (ad 39)])), (ad 37, .inl (kc 1, 17, .inl (f_13 26)))]) hD hS hA [36, 37] hCc
            refine W_msr2 (fun hm1 hm2 hm3 => ?_)
            refine va_calli (va_runV (As := [.int r_125]) (rest := []) ⟨hx, hb, hml, hown, hg⟩ (c_X3_isThere l dC dI (ad 36) (ad 37) (ad 38) (ad 39) (kc 1) (f_13 26) r_125 H.size ) (cwV 1 hg (gw_V gm_methodLink_RX9_391_yX3_isThere gm_instanceMethod_yX3_isThere gm_selects_RX3_yX3_isThere_yX3_isThere gm_initialized_RX3 gm_code_yX3_isThere_cX3_isThere_2_some_boolean_) rfl rfl rfl (by decide +kernel) ⟨Nat.le_of_ble_eq_true rfl, Nat.le_of_ble_eq_true rfl⟩) ⟨fun a U g mk q => by obtain ⟨q0, q1, qP, qK, qD, qN⟩ := q; exact ⟨q0, q1, qP, va_K.moved (u := U) (U := U.calling g mk a) (Vm.Alike.refl U.vm) qK, qD, nx_same (u := U) (U := U.calling g mk a) rfl qN⟩, va_recv hK hP (ci := 3) (q0 := 36) rfl hQ.x36, fun U hU hW => ⟨rfl, by rw [hU], by rw [hU]; exact hPc, va_K.moved hW.alike hKc, hDc.weaken (fun _ _ _ _ => trivial), nx_warm hW hN⟩⟩ rfl rfl hl.1 rfl (lv_room (Nat.le_of_ble_eq_true rfl)) dX9_askHandlers_55 ⟨by show ce + 0 ≤ 1200; omega, by show se + 0 ≤ 50000; omega⟩) hS (fun q _ h => hFc q h) hFc (fun r_128 u_129 t H1 locs ht hvm hw hB hz1 hk1 hS => ?_)
            obtain ⟨hP1, hD1⟩ := hB
            rw [ht] at hP1
            obtain ⟨hP, hD⟩ := va_replS hP hD [36, 37] hCc hNd hk1 hFc hP1 hD1
            refine W.widen (k := ce) (n := se) (Nat.le_refl _) (Nat.le_refl _) ?_
            generalize H1 = H at hP hS ⊢
            rcases hw with ⟨rfl, w_130⟩ | ⟨rfl, w_130⟩
            · refine lv_if_eq (tgt := 116) hx hb dX9_askHandlers_58 (by decide) (fun c_131 => absurd c_131 (by decide)) (fun _ => ?_)
              refine lv_aload_n hx hb dX9_askHandlers_61 rfl (lv_at hl 4 rfl) ?_
              refine va_get (D := (dC, dI)) (ci := 9) (v := .ref (ad 36)) (C := RX9) (T := TX9) (N := 15) hx hb hg gb_9 hown hK hP 0 hQ.x0 rfl 3 (by decide) (hg _ gm_fieldLink_RX9_25_ErrandGuild_handlers_LErrandGuild_Handlers_) (fun _ h9 => h9) rfl dX9_askHandlers_62 ?_
              refine lv_iload hx hb dX9_askHandlers_65 (lv_at hl 0 rfl) ?_
              have hCc : ([36, 39] : List Nat).map (fun i => ws_15[i]?) = ([(ad 36, .inr (3, [.ref (ad 37), .ref (ad 38), .ref (ad 39)])), (ad 39, .inl (kc 1, 17, .inl (f_13 28)))] : va_W).map some := mp2 hQ.x36 hQ.x39
              have hNd : ([36, 39] : List Nat).Nodup := (by decide)
              have hPc := hP.pick [36, 39] hCc
              have hDc := hD.pick [36, 39] hNd hCc
              have hKc := hK.sub (tys' := [((kc 1), .boolean)]) [1] rfl
              have hFc := va_free (wc := [(ad 36, .inr (3, [.ref (ad 37), .ref (ad 38), .ref (ad 39)])), (ad 39, .inl (kc 1, 17, .inl (f_13 28)))]) hD hS hA [36, 39] hCc
              refine W_msr2 (fun hm1 hm2 hm3 => ?_)
              refine va_calli (va_runV (As := [.int r_125]) (rest := []) ⟨hx, hb, hml, hown, hg⟩ (c_X3_isThrowing l dC dI (ad 36) (ad 37) (ad 38) (ad 39) (kc 1) (f_13 28) r_125 H.size ) (cwV 1 hg (gw_V gm_methodLink_RX9_394_yX3_isThrowing gm_instanceMethod_yX3_isThrowing gm_selects_RX3_yX3_isThrowing_yX3_isThrowing gm_initialized_RX3 gm_code_yX3_isThrowing_cX3_isThrowing_2_some_boolean_) rfl rfl rfl (by decide +kernel) ⟨Nat.le_of_ble_eq_true rfl, Nat.le_of_ble_eq_true rfl⟩) ⟨fun a U g mk q => by obtain ⟨q0, q1, qP, qK, qD, qN⟩ := q; exact ⟨q0, q1, qP, va_K.moved (u := U) (U := U.calling g mk a) (Vm.Alike.refl U.vm) qK, qD, nx_same (u := U) (U := U.calling g mk a) rfl qN⟩, va_recv hK hP (ci := 3) (q0 := 36) rfl hQ.x36, fun U hU hW => ⟨rfl, by rw [hU], by rw [hU]; exact hPc, va_K.moved hW.alike hKc, hDc.weaken (fun _ _ _ _ => trivial), nx_warm hW hN⟩⟩ rfl rfl hl.1 rfl (lv_room (Nat.le_of_ble_eq_true rfl)) dX9_askHandlers_67 ⟨by show ce + 0 ≤ 1200; omega, by show se + 0 ≤ 50000; omega⟩) hS (fun q _ h => hFc q h) hFc (fun r_132 u_133 t H1 locs ht hvm hw hB hz1 hk1 hS => ?_)
              obtain ⟨hP1, hD1⟩ := hB
              rw [ht] at hP1
              obtain ⟨hP, hD⟩ := va_replS hP hD [36, 39] hCc hNd hk1 hFc hP1 hD1
              refine W.widen (k := ce) (n := se) (Nat.le_refl _) (Nat.le_refl _) ?_
              generalize H1 = H at hP hS ⊢
              rcases hw with ⟨rfl, w_134⟩ | ⟨rfl, w_134⟩
              · refine lv_istore (lv' := [(6, .int 1), (5, .int r_125), (4, .int (G_14 i 1)), (3, .int x_9), (2, .int x_8), (0, .ref (ad 0)), (1, .ref (ad (50 + 16 * i)))]) hx hb dX9_askHandlers_70 hl (by decide) rfl (fun ls hl => ?_)
                refine lv_aload_n hx hb dX9_askHandlers_72 rfl (lv_at hl 5 rfl) ?_
                refine va_get (D := (dC, dI)) (ci := 9) (v := .ref (ad 45)) (C := RX9) (T := TX9) (N := 15) hx hb hg gb_9 hown hK hP 0 hQ.x0 rfl 11 (by decide) (hg _ gm_fieldLink_RX9_51_ErrandGuild_asked_LErrandGuild_Ledger_) (fun _ h9 => h9) rfl dX9_askHandlers_73 ?_
                refine lv_aload_n hx hb dX9_askHandlers_76 rfl (lv_at hl 6 rfl) ?_
                refine va_get (D := (dC, dI)) (ci := 7) (v := .int (G_14 i 0)) (C := RX7) (T := TX7) (N := 15) hx hb hg gb_7 hown hK hP (50 + 16 * i) (hQ.b0 hi) rfl 0 (by decide) (hg _ gm_fieldLink_RX9_118_ErrandGuild_Run_number_I_) (fun _ h9 => h9) rfl dX9_askHandlers_77 ?_
                refine lv_iload_n hx hb dX9_askHandlers_80 rfl (lv_at hl 3 rfl) ?_
                refine lv_aload_n hx hb dX9_askHandlers_81 rfl (lv_at hl 5 rfl) ?_
                refine va_get (D := (dC, dI)) (ci := 9) (v := .ref (ad 36)) (C := RX9) (T := TX9) (N := 15) hx hb hg gb_9 hown hK hP 0 hQ.x0 rfl 3 (by decide) (hg _ gm_fieldLink_RX9_25_ErrandGuild_handlers_LErrandGuild_Handlers_) (fun _ h9 => h9) rfl dX9_askHandlers_82 ?_
                refine lv_iload hx hb dX9_askHandlers_85 (lv_at hl 1 rfl) ?_
                have hCc : ([36, 38] : List Nat).map (fun i => ws_15[i]?) = ([(ad 36, .inr (3, [.ref (ad 37), .ref (ad 38), .ref (ad 39)])), (ad 38, .inl (kc 0, 17, .inl (f_13 27)))] : va_W).map some := mp2 hQ.x36 hQ.x38
                have hNd : ([36, 38] : List Nat).Nodup := (by decide)
                have hPc := hP.pick [36, 38] hCc
                have hDc := hD.pick [36, 38] hNd hCc
                have hKc := hK.sub (tys' := [((kc 0), .int)]) [0] rfl
                have hFc := va_free (wc := [(ad 36, .inr (3, [.ref (ad 37), .ref (ad 38), .ref (ad 39)])), (ad 38, .inl (kc 0, 17, .inl (f_13 27)))]) hD hS hA [36, 38] hCc
                refine W_msr2 (fun hm1 hm2 hm3 => ?_)
                refine va_calli (va_runV (As := [.int r_125]) (rest := [.int x_9, .int (G_14 i 0), .ref (ad 45)]) ⟨hx, hb, hml, hown, hg⟩ (c_X3_effectAt l dC dI (ad 36) (ad 37) (ad 38) (ad 39) (kc 0) (f_13 27) r_125 H.size ) (cwV 1 hg (gw_V gm_methodLink_RX9_397_yX3_effectAt gm_instanceMethod_yX3_effectAt gm_selects_RX3_yX3_effectAt_yX3_effectAt gm_initialized_RX3 gm_code_yX3_effectAt_cX3_effectAt_2_some_int_) rfl rfl rfl (by decide +kernel) ⟨Nat.le_of_ble_eq_true rfl, Nat.le_of_ble_eq_true rfl⟩) ⟨fun a U g mk q => by obtain ⟨q0, q1, qP, qK, qD, qN⟩ := q; exact ⟨q0, q1, qP, va_K.moved (u := U) (U := U.calling g mk a) (Vm.Alike.refl U.vm) qK, qD, nx_same (u := U) (U := U.calling g mk a) rfl qN⟩, va_recv hK hP (ci := 3) (q0 := 36) rfl hQ.x36, fun U hU hW => ⟨rfl, by rw [hU], by rw [hU]; exact hPc, va_K.moved hW.alike hKc, hDc.weaken (fun _ _ _ _ => trivial), nx_warm hW hN⟩⟩ rfl rfl hl.1 rfl (lv_room (Nat.le_of_ble_eq_true rfl)) dX9_askHandlers_87 ⟨by show ce + 0 ≤ 1200; omega, by show se + 0 ≤ 50000; omega⟩) hS (fun q _ h => hFc q h) hFc (fun r_135 u_136 t H1 locs ht hvm hw hB hz1 hk1 hS => ?_)
                obtain ⟨hP1, hD1⟩ := hB
                rw [ht] at hP1
                obtain ⟨hP, hD⟩ := va_replS hP hD [36, 38] hCc hNd hk1 hFc hP1 hD1
                refine W.widen (k := ce) (n := se) (Nat.le_refl _) (Nat.le_refl _) ?_
                generalize H1 = H at hP hS ⊢
                refine lv_iload hx hb dX9_askHandlers_90 (lv_at hl 0 rfl) ?_
                refine lv_if_eq (tgt := 99) hx hb dX9_askHandlers_92 (by decide) (fun c_137 => absurd c_137 (by decide)) (fun _ => ?_)
                refine lv_iconst (v := 1) hx hb dX9_askHandlers_95 (by decide) ?_
                refine lv_goto (tgt := 100) hx hb dX9_askHandlers_96 (by decide) ?_
                have hFc := free_all hD hS hA
                refine W_msr2 (fun hm1 hm2 hm3 => ?_)
                refine va_callv (va_runV (As := [.int (G_14 i 0), .int x_9, .int r_135, .int 1]) (rest := []) ⟨hx, hb, hml, hown, hg⟩ (c_X5_add_a l dC dI kc ws_15 ad ga_10 gc_11 M n_12 f_13 T G_14 K F R (G_14 i 0) x_9 r_135 1 H.size (hpS H) hQ ⟨i1_25, i2_26, i3_27, i4_28, i5_29, i6_30, i7_31, i8_32, i9_33⟩ (by have t_0 := ti_1; show R ≤ 310000; omega)) (cwV 4 hg (gw_V gm_methodLink_RX9_276_yX5_add gm_instanceMethod_yX5_add gm_selects_RX5_yX5_add_yX5_add gm_initialized_RX5 gm_code_yX5_add_cX5_add_5_none) rfl rfl rfl (by decide +kernel) ⟨Nat.le_of_ble_eq_true rfl, Nat.le_of_ble_eq_true rfl⟩) ⟨fun a U g mk q => by obtain ⟨q0, q1, q2, qP, qK, qD, qN⟩ := q; exact ⟨q0, q1, q2, qP, va_K.moved (u := U) (U := U.calling g mk a) (Vm.Alike.refl U.vm) qK, qD, nx_same (u := U) (U := U.calling g mk a) rfl qN⟩, va_recv hK hP (ci := 5) (q0 := 45) rfl hQ.x45, fun U hU hW => ⟨rfl, by rw [hU], by rw [hU], by rw [hU]; exact hP, va_K.moved hW.alike hK, hD.weaken (fun _ _ _ _ => trivial), nx_warm hW hN⟩⟩ rfl rfl hl.1 rfl (lv_room (Nat.le_of_ble_eq_true rfl)) dX9_askHandlers_100 ⟨by show ce + 600 ≤ 1200; omega, by show se + 33000 ≤ 50000; omega⟩) hS (fun q _ h => hFc q h) hFc (fun u_139 t H1 locs ht hvm hw hB hz1 hk1 hS => ?_)
                obtain ⟨ad_140, ga_141, gc_142, M_143, n_144, f_145, T_146, G_147, K_148, F_149⟩ := u_139
                have hB : ∃ w : va_W, va_P (dC, dI) vwCl w t.heap ∧ va_D (va_A ws_15 H.size) w ∧ Pic9 kc w ad ga_141 gc_142 M n_144 f_145 T G_14 K F ∧ I9 M n_144 T gc_142 G_14 K R ∧ hpS t.heap + (260 * M + 2 * S9 M gc_11) ≤ hpS H + (260 * M + 2 * S9 M gc_142) ∧ 16 * t.heap.size + (256 * M + S9 M gc_11) ≤ 16 * H.size + (256 * M + S9 M gc_142) ∧ (n_12 0).toInt ≤ (n_144 0).toInt := hB
                rw [ht] at hB
                obtain ⟨ws_150, hP, hD, hQ, hI_152, hy1, hy2, hn_151⟩ := hB
                have hD := hD.weaken (fun k q _ h => hFc _ h)
                obtain ⟨i1_153, i2_154, i3_155, i4_156, i5_157, i6_158, i7_159, i8_160, i9_161⟩ := id hI_152
                have q1_ := i1_153
                unfold i1 at q1_
                have hSl := S9_le i8_160 i9_161
                have hb0_ := i8_160.2.1 0 (by omega)
                have hb1_ := i8_160.2.1 1 (by omega)
                have hb2_ := i8_160.2.1 2 (by omega)
                refine W_msr2 (fun hn1 hn2 hn3 => ?_)
                obtain ⟨ce2, se2, hk3, hk4, hr1, hr2⟩ : ∃ c2 s2 : Nat, H1.size ≤ s.heap.size + c2 ∧ hpS H1 ≤ hpS s.heap + s2 ∧ s2 + (260 * M + 2 * S9 M gc) ≤ (260 * M + 2 * S9 M gc_142) ∧ 16 * c2 + (256 * M + S9 M gc) ≤ (256 * M + S9 M gc_142) := ⟨H1.size - s.heap.size, hpS H1 - hpS s.heap, by omega, by omega, by have := hS.1; omega, by have := hS.1; omega⟩
                refine W_tightP hk3 hk4 ?_
                clear hm1 hm2 hm3 hn1 hn2 hn3 hk3 hk4
                clear hk1 hz1
                generalize ce2 = ce, se2 = se at hr1 hr2 ⊢
                generalize H1 = H at hP hS ⊢
                have w_162 : S9 M gc_142 + gc_11 1 ≤ S9 M gc_11 + gc_142 1 ∧ (n_144 0).toInt = (n_12 0).toInt := hw
                refine lv_aload_n hx hb dX9_askHandlers_103 rfl (lv_at hl 5 rfl) ?_
                refine lv_dup hx hb dX9_askHandlers_104 rfl ?_
                refine va_get (D := (dC, dI)) (ci := 9) (v := .int (n_144 4)) (C := RX9) (T := TX9) (N := 15) hx hb hg gb_9 hown hK hP 0 hQ.x0 rfl 12 (by decide) (hg _ gm_fieldLink_RX9_93_ErrandGuild_askedCount_I_) (fun _ h9 => h9) rfl dX9_askHandlers_105 ?_
                refine lv_iconst (v := 1) hx hb dX9_askHandlers_108 (by decide) ?_
                refine lv_iadd hx hb dX9_askHandlers_109 ?_
                refine lv_topi (fun z_163 ez_163 => ?_)
                refine va_put (D := (dC, dI)) (ci := 9) (v := .int (z_163)) (ty := .int) (C := RX9) (T := TX9) (N := 15) hx hb hg gb_9 tyX9 tyX9_ok nmX9 hown hK hP hD hS 0 hQ.x0 rfl 12 (by decide) (hg _ gm_fieldLink_RX9_93_ErrandGuild_askedCount_I_) (fun _ h9 => h9) rfl (by decide +kernel) rfl rfl (Nat.le_of_ble_eq_true rfl) dX9_askHandlers_110 (fun H locs hP hD hS => ?_)
                obtain ⟨ws_165, n_164, en_164, hP, hD, hQ⟩ : ∃ (ws_165 : va_W) (n_164 : Nat → Int32), n_164 = u1 n_144 4 z_163 ∧ va_P (dC, dI) vwCl ws_165 H ∧ va_D A ws_165 ∧ Pic9 kc ws_165 ad ga_141 gc_142 M n_164 f_145 T G_14 K F := ⟨_, _, rfl, hP, hD, hQ.x9 4 12 (by decide) z_163⟩
                have i1_166 : i1 M n_164 := by rw [en_164]; exact (i1.pn i1_153 _ (by decide))
                have i5_167 : i5 n_164 K := by rw [en_164]; exact (i5.pn i5_157 _ (by decide))
                have i6_168 : i6 n_164 T G_14 := by rw [en_164]; exact (i6.pn i6_158 _ (by decide))
                have i7_169 : i7 n_164 G_14 := by rw [en_164]; exact (i7.pn i7_159 _ (by decide))
                have i8_170 : i8 M n_164 gc_142 G_14 := by rw [en_164]; exact (i8.pn i8_160 _ (by decide))
                have hn_171 : n_164 0 = n_144 0 := by rw [en_164]; rw [u1_ne _ _ (by decide)]
                have thn_171 := congrArg Int32.toInt hn_171
                refine lv_iload hx hb dX9_askHandlers_113 (lv_at hl 0 rfl) ?_
                refine lv_istore_n (lv' := [(2, .int 1), (6, .int 1), (5, .int r_125), (4, .int (G_14 i 1)), (3, .int x_9), (0, .ref (ad 0)), (1, .ref (ad (50 + 16 * i)))]) hx hb dX9_askHandlers_115 rfl hl (by decide) rfl (fun ls hl => ?_)
                obtain ⟨y_172, ey_172⟩ : ∃ q : Int32, q = x_9 + (1) := ⟨_, rfl⟩
                refine lv_iinc (v := y_172) (lv' := [(3, .int y_172), (2, .int 1), (6, .int 1), (5, .int r_125), (4, .int (G_14 i 1)), (0, .ref (ad 0)), (1, .ref (ad (50 + 16 * i)))]) hx hb dX9_askHandlers_116 hl (k := 4) rfl (by rw [ey_172]; rfl) (by decide) rfl (fun ls hl => ?_)
                have ty_172 : y_172.toInt = x_9.toInt + (1) := ar_add rfl ti_1 ey_172 (by omega)
                refine lv_goto (tgt := 12) hx hb dX9_askHandlers_119 (by decide) ?_
                exact ih_23 (1 : Int32) y_172   ws_165 ga_141 gc_142 n_164 f_145 G_14 ce se H locs ls (by have t_0 := ti_1; show (4 - y_172.toInt).toNat < _; omega) (by have t_0 := ti_1; show 0 ≤ y_172.toInt ∧ y_172.toInt ≤ 3; omega) (by have t_0 := ti_1; show (1 : Int32).toInt = 0 ∨ (1 : Int32).toInt = 1; omega) (by have t_0 := ti_1; show S9 M gc_142 + gc 1 ≤ S9 M gc + gc_142 1; omega) (by have t_0 := ti_1; show (n_164 0).toInt = (n 0).toInt; omega) (by have t_0 := ti_1; show (n 0).toInt ≤ (n_164 0).toInt; omega) hQ ⟨i1_166, i2_154, i3_155, i4_156, i5_167, i6_168, i7_169, i8_170, i9_161⟩ hr1 hr2 hP hD hS (lv_sub hl [0, 1, 5, 6] rfl)
              · refine lv_istore (lv' := [(6, .int 0), (5, .int r_125), (4, .int (G_14 i 1)), (3, .int x_9), (2, .int x_8), (0, .ref (ad 0)), (1, .ref (ad (50 + 16 * i)))]) hx hb dX9_askHandlers_70 hl (by decide) rfl (fun ls hl => ?_)
                refine lv_aload_n hx hb dX9_askHandlers_72 rfl (lv_at hl 5 rfl) ?_
                refine va_get (D := (dC, dI)) (ci := 9) (v := .ref (ad 45)) (C := RX9) (T := TX9) (N := 15) hx hb hg gb_9 hown hK hP 0 hQ.x0 rfl 11 (by decide) (hg _ gm_fieldLink_RX9_51_ErrandGuild_asked_LErrandGuild_Ledger_) (fun _ h9 => h9) rfl dX9_askHandlers_73 ?_
                refine lv_aload_n hx hb dX9_askHandlers_76 rfl (lv_at hl 6 rfl) ?_
                refine va_get (D := (dC, dI)) (ci := 7) (v := .int (G_14 i 0)) (C := RX7) (T := TX7) (N := 15) hx hb hg gb_7 hown hK hP (50 + 16 * i) (hQ.b0 hi) rfl 0 (by decide) (hg _ gm_fieldLink_RX9_118_ErrandGuild_Run_number_I_) (fun _ h9 => h9) rfl dX9_askHandlers_77 ?_
                refine lv_iload_n hx hb dX9_askHandlers_80 rfl (lv_at hl 3 rfl) ?_
                refine lv_aload_n hx hb dX9_askHandlers_81 rfl (lv_at hl 5 rfl) ?_
                refine va_get (D := (dC, dI)) (ci := 9) (v := .ref (ad 36)) (C := RX9) (T := TX9) (N := 15) hx hb hg gb_9 hown hK hP 0 hQ.x0 rfl 3 (by decide) (hg _ gm_fieldLink_RX9_25_ErrandGuild_handlers_LErrandGuild_Handlers_) (fun _ h9 => h9) rfl dX9_askHandlers_82 ?_
                refine lv_iload hx hb dX9_askHandlers_85 (lv_at hl 1 rfl) ?_
                have hCc : ([36, 38] : List Nat).map (fun i => ws_15[i]?) = ([(ad 36, .inr (3, [.ref (ad 37), .ref (ad 38), .ref (ad 39)])), (ad 38, .inl (kc 0, 17, .inl (f_13 27)))] : va_W).map some := mp2 hQ.x36 hQ.x38
                have hNd : ([36, 38] : List Nat).Nodup := (by decide)
                have hPc := hP.pick [36, 38] hCc
                have hDc := hD.pick [36, 38] hNd hCc
                have hKc := hK.sub (tys' := [((kc 0), .int)]) [0] rfl
                have hFc := va_free (wc := [(ad 36, .inr (3, [.ref (ad 37), .ref (ad 38), .ref (ad 39)])), (ad 38, .inl (kc 0, 17, .inl (f_13 27)))]) hD hS hA [36, 38] hCc
                refine W_msr2 (fun hm1 hm2 hm3 => ?_)
                refine va_calli (va_runV (As := [.int r_125]) (rest := [.int x_9, .int (G_14 i 0), .ref (ad 45)]) ⟨hx, hb, hml, hown, hg⟩ (c_X3_effectAt l dC dI (ad 36) (ad 37) (ad 38) (ad 39) (kc 0) (f_13 27) r_125 H.size ) (cwV 1 hg (gw_V gm_methodLink_RX9_397_yX3_effectAt gm_instanceMethod_yX3_effectAt gm_selects_RX3_yX3_effectAt_yX3_effectAt gm_initialized_RX3 gm_code_yX3_effectAt_cX3_effectAt_2_some_int_) rfl rfl rfl (by decide +kernel) ⟨Nat.le_of_ble_eq_true rfl, Nat.le_of_ble_eq_true rfl⟩) ⟨fun a U g mk q => by obtain ⟨q0, q1, qP, qK, qD, qN⟩ := q; exact ⟨q0, q1, qP, va_K.moved (u := U) (U := U.calling g mk a) (Vm.Alike.refl U.vm) qK, qD, nx_same (u := U) (U := U.calling g mk a) rfl qN⟩, va_recv hK hP (ci := 3) (q0 := 36) rfl hQ.x36, fun U hU hW => ⟨rfl, by rw [hU], by rw [hU]; exact hPc, va_K.moved hW.alike hKc, hDc.weaken (fun _ _ _ _ => trivial), nx_warm hW hN⟩⟩ rfl rfl hl.1 rfl (lv_room (Nat.le_of_ble_eq_true rfl)) dX9_askHandlers_87 ⟨by show ce + 0 ≤ 1200; omega, by show se + 0 ≤ 50000; omega⟩) hS (fun q _ h => hFc q h) hFc (fun r_173 u_174 t H1 locs ht hvm hw hB hz1 hk1 hS => ?_)
                obtain ⟨hP1, hD1⟩ := hB
                rw [ht] at hP1
                obtain ⟨hP, hD⟩ := va_replS hP hD [36, 38] hCc hNd hk1 hFc hP1 hD1
                refine W.widen (k := ce) (n := se) (Nat.le_refl _) (Nat.le_refl _) ?_
                generalize H1 = H at hP hS ⊢
                refine lv_iload hx hb dX9_askHandlers_90 (lv_at hl 0 rfl) ?_
                refine lv_if_eq (tgt := 99) hx hb dX9_askHandlers_92 (by decide) (fun _ => ?_) (fun c_175 => absurd c_175 (by decide))
                refine lv_iconst (v := 0) hx hb dX9_askHandlers_99 (by decide) ?_
                have hFc := free_all hD hS hA
                refine W_msr2 (fun hm1 hm2 hm3 => ?_)
                refine va_callv (va_runV (As := [.int (G_14 i 0), .int x_9, .int r_173, .int 0]) (rest := []) ⟨hx, hb, hml, hown, hg⟩ (c_X5_add_a l dC dI kc ws_15 ad ga_10 gc_11 M n_12 f_13 T G_14 K F R (G_14 i 0) x_9 r_173 0 H.size (hpS H) hQ ⟨i1_25, i2_26, i3_27, i4_28, i5_29, i6_30, i7_31, i8_32, i9_33⟩ (by have t_0 := ti_0; show R ≤ 310000; omega)) (cwV 4 hg (gw_V gm_methodLink_RX9_276_yX5_add gm_instanceMethod_yX5_add gm_selects_RX5_yX5_add_yX5_add gm_initialized_RX5 gm_code_yX5_add_cX5_add_5_none) rfl rfl rfl (by decide +kernel) ⟨Nat.le_of_ble_eq_true rfl, Nat.le_of_ble_eq_true rfl⟩) ⟨fun a U g mk q => by obtain ⟨q0, q1, q2, qP, qK, qD, qN⟩ := q; exact ⟨q0, q1, q2, qP, va_K.moved (u := U) (U := U.calling g mk a) (Vm.Alike.refl U.vm) qK, qD, nx_same (u := U) (U := U.calling g mk a) rfl qN⟩, va_recv hK hP (ci := 5) (q0 := 45) rfl hQ.x45, fun U hU hW => ⟨rfl, by rw [hU], by rw [hU], by rw [hU]; exact hP, va_K.moved hW.alike hK, hD.weaken (fun _ _ _ _ => trivial), nx_warm hW hN⟩⟩ rfl rfl hl.1 rfl (lv_room (Nat.le_of_ble_eq_true rfl)) dX9_askHandlers_100 ⟨by show ce + 600 ≤ 1200; omega, by show se + 33000 ≤ 50000; omega⟩) hS (fun q _ h => hFc q h) hFc (fun u_177 t H1 locs ht hvm hw hB hz1 hk1 hS => ?_)
                obtain ⟨ad_178, ga_179, gc_180, M_181, n_182, f_183, T_184, G_185, K_186, F_187⟩ := u_177
                have hB : ∃ w : va_W, va_P (dC, dI) vwCl w t.heap ∧ va_D (va_A ws_15 H.size) w ∧ Pic9 kc w ad ga_179 gc_180 M n_182 f_183 T G_14 K F ∧ I9 M n_182 T gc_180 G_14 K R ∧ hpS t.heap + (260 * M + 2 * S9 M gc_11) ≤ hpS H + (260 * M + 2 * S9 M gc_180) ∧ 16 * t.heap.size + (256 * M + S9 M gc_11) ≤ 16 * H.size + (256 * M + S9 M gc_180) ∧ (n_12 0).toInt ≤ (n_182 0).toInt := hB
                rw [ht] at hB
                obtain ⟨ws_188, hP, hD, hQ, hI_190, hy1, hy2, hn_189⟩ := hB
                have hD := hD.weaken (fun k q _ h => hFc _ h)
                obtain ⟨i1_191, i2_192, i3_193, i4_194, i5_195, i6_196, i7_197, i8_198, i9_199⟩ := id hI_190
                have q1_ := i1_191
                unfold i1 at q1_
                have hSl := S9_le i8_198 i9_199
                have hb0_ := i8_198.2.1 0 (by omega)
                have hb1_ := i8_198.2.1 1 (by omega)
                have hb2_ := i8_198.2.1 2 (by omega)
                refine W_msr2 (fun hn1 hn2 hn3 => ?_)
                obtain ⟨ce2, se2, hk3, hk4, hr1, hr2⟩ : ∃ c2 s2 : Nat, H1.size ≤ s.heap.size + c2 ∧ hpS H1 ≤ hpS s.heap + s2 ∧ s2 + (260 * M + 2 * S9 M gc) ≤ (260 * M + 2 * S9 M gc_180) ∧ 16 * c2 + (256 * M + S9 M gc) ≤ (256 * M + S9 M gc_180) := ⟨H1.size - s.heap.size, hpS H1 - hpS s.heap, by omega, by omega, by have := hS.1; omega, by have := hS.1; omega⟩
                refine W_tightP hk3 hk4 ?_
                clear hm1 hm2 hm3 hn1 hn2 hn3 hk3 hk4
                clear hk1 hz1
                generalize ce2 = ce, se2 = se at hr1 hr2 ⊢
                generalize H1 = H at hP hS ⊢
                have w_200 : S9 M gc_180 + gc_11 1 ≤ S9 M gc_11 + gc_180 1 ∧ (n_182 0).toInt = (n_12 0).toInt := hw
                refine lv_aload_n hx hb dX9_askHandlers_103 rfl (lv_at hl 5 rfl) ?_
                refine lv_dup hx hb dX9_askHandlers_104 rfl ?_
                refine va_get (D := (dC, dI)) (ci := 9) (v := .int (n_182 4)) (C := RX9) (T := TX9) (N := 15) hx hb hg gb_9 hown hK hP 0 hQ.x0 rfl 12 (by decide) (hg _ gm_fieldLink_RX9_93_ErrandGuild_askedCount_I_) (fun _ h9 => h9) rfl dX9_askHandlers_105 ?_
                refine lv_iconst (v := 1) hx hb dX9_askHandlers_108 (by decide) ?_
                refine lv_iadd hx hb dX9_askHandlers_109 ?_
                refine lv_topi (fun z_201 ez_201 => ?_)
                refine va_put (D := (dC, dI)) (ci := 9) (v := .int (z_201)) (ty := .int) (C := RX9) (T := TX9) (N := 15) hx hb hg gb_9 tyX9 tyX9_ok nmX9 hown hK hP hD hS 0 hQ.x0 rfl 12 (by decide) (hg _ gm_fieldLink_RX9_93_ErrandGuild_askedCount_I_) (fun _ h9 => h9) rfl (by decide +kernel) rfl rfl (Nat.le_of_ble_eq_true rfl) dX9_askHandlers_110 (fun H locs hP hD hS => ?_)
                obtain ⟨ws_203, n_202, en_202, hP, hD, hQ⟩ : ∃ (ws_203 : va_W) (n_202 : Nat → Int32), n_202 = u1 n_182 4 z_201 ∧ va_P (dC, dI) vwCl ws_203 H ∧ va_D A ws_203 ∧ Pic9 kc ws_203 ad ga_179 gc_180 M n_202 f_183 T G_14 K F := ⟨_, _, rfl, hP, hD, hQ.x9 4 12 (by decide) z_201⟩
                have i1_204 : i1 M n_202 := by rw [en_202]; exact (i1.pn i1_191 _ (by decide))
                have i5_205 : i5 n_202 K := by rw [en_202]; exact (i5.pn i5_195 _ (by decide))
                have i6_206 : i6 n_202 T G_14 := by rw [en_202]; exact (i6.pn i6_196 _ (by decide))
                have i7_207 : i7 n_202 G_14 := by rw [en_202]; exact (i7.pn i7_197 _ (by decide))
                have i8_208 : i8 M n_202 gc_180 G_14 := by rw [en_202]; exact (i8.pn i8_198 _ (by decide))
                have hn_209 : n_202 0 = n_182 0 := by rw [en_202]; rw [u1_ne _ _ (by decide)]
                have thn_209 := congrArg Int32.toInt hn_209
                refine lv_iload hx hb dX9_askHandlers_113 (lv_at hl 0 rfl) ?_
                refine lv_istore_n (lv' := [(2, .int 0), (6, .int 0), (5, .int r_125), (4, .int (G_14 i 1)), (3, .int x_9), (0, .ref (ad 0)), (1, .ref (ad (50 + 16 * i)))]) hx hb dX9_askHandlers_115 rfl hl (by decide) rfl (fun ls hl => ?_)
                obtain ⟨y_210, ey_210⟩ : ∃ q : Int32, q = x_9 + (1) := ⟨_, rfl⟩
                refine lv_iinc (v := y_210) (lv' := [(3, .int y_210), (2, .int 0), (6, .int 0), (5, .int r_125), (4, .int (G_14 i 1)), (0, .ref (ad 0)), (1, .ref (ad (50 + 16 * i)))]) hx hb dX9_askHandlers_116 hl (k := 4) rfl (by rw [ey_210]; rfl) (by decide) rfl (fun ls hl => ?_)
                have ty_210 : y_210.toInt = x_9.toInt + (1) := ar_add rfl ti_1 ey_210 (by omega)
                refine lv_goto (tgt := 12) hx hb dX9_askHandlers_119 (by decide) ?_
                exact ih_23 (0 : Int32) y_210   ws_203 ga_179 gc_180 n_202 f_183 G_14 ce se H locs ls (by have t_0 := ti_0; show (4 - y_210.toInt).toNat < _; omega) (by have t_0 := ti_0; show 0 ≤ y_210.toInt ∧ y_210.toInt ≤ 3; omega) (by have t_0 := ti_0; show (0 : Int32).toInt = 0 ∨ (0 : Int32).toInt = 1; omega) (by have t_0 := ti_0; show S9 M gc_180 + gc 1 ≤ S9 M gc + gc_180 1; omega) (by have t_0 := ti_0; show (n_202 0).toInt = (n 0).toInt; omega) (by have t_0 := ti_0; show (n 0).toInt ≤ (n_202 0).toInt; omega) hQ ⟨i1_204, i2_192, i3_193, i4_194, i5_205, i6_206, i7_207, i8_208, i9_199⟩ hr1 hr2 hP hD hS (lv_sub hl [0, 1, 5, 6] rfl)
            · refine lv_if_eq (tgt := 116) hx hb dX9_askHandlers_58 (by decide) (fun _ => ?_) (fun c_211 => absurd c_211 (by decide))
              obtain ⟨y_212, ey_212⟩ : ∃ q : Int32, q = x_9 + (1) := ⟨_, rfl⟩
              refine lv_iinc (v := y_212) (lv' := [(3, .int y_212), (5, .int r_125), (4, .int (G_14 i 1)), (2, .int x_8), (0, .ref (ad 0)), (1, .ref (ad (50 + 16 * i)))]) hx hb dX9_askHandlers_116 hl (k := 2) rfl (by rw [ey_212]; rfl) (by decide) rfl (fun ls hl => ?_)
              have ty_212 : y_212.toInt = x_9.toInt + (1) := ar_add rfl ti_1 ey_212 (by omega)
              refine lv_goto (tgt := 12) hx hb dX9_askHandlers_119 (by decide) ?_
              exact ih_23 x_8 y_212   ws_15 ga_10 gc_11 n_12 f_13 G_14 ce se H locs ls (by show (4 - y_212.toInt).toNat < _; omega) (by show 0 ≤ y_212.toInt ∧ y_212.toInt ≤ 3; omega) (by show x_8.toInt = 0 ∨ x_8.toInt = 1; omega) (by show S9 M gc_11 + gc 1 ≤ S9 M gc + gc_11 1; omega) (by show (n_12 0).toInt = (n 0).toInt; omega) (by show (n 0).toInt ≤ (n_12 0).toInt; omega) hQ ⟨i1_25, i2_26, i3_27, i4_28, i5_29, i6_30, i7_31, i8_32, i9_33⟩ hr1 hr2 hP hD hS (lv_sub hl [0, 3, 4, 5] rfl)
  exact L12 _ (1 : Int32) (0 : Int32)   ws_2 ga gc n f G_1 ce se _ _ _ (Nat.lt_succ_self _) (by have t_0 := ti_1; have t_1 := ti_0; show 0 ≤ (0 : Int32).toInt ∧ (0 : Int32).toInt ≤ 3; omega) (by have t_0 := ti_1; have t_1 := ti_0; show (1 : Int32).toInt = 0 ∨ (1 : Int32).toInt = 1; omega) (by have t_0 := ti_1; have t_1 := ti_0; show S9 M gc + gc 1 ≤ S9 M gc + gc 1; omega) (by have t_0 := ti_1; have t_1 := ti_0; show (n 0).toInt = (n 0).toInt; omega) (by have t_0 := ti_1; have t_1 := ti_0; show (n 0).toInt ≤ (n 0).toInt; omega) hQ ⟨h_i1, h_i2, h_i3, h_i4, h_i5, i6_3, i7_4, i8_5, i9_6⟩ hr1 hr2 hP hD hS (lv_sub hl [0, 1, 2, 3] rfl)

set_option maxHeartbeats 8000000 in
set_option maxRecDepth 100000 in
theorem c_X9_tellUncaught (l : Launch) (dC : Nat → ClassId) (dI : Nat → Nat → Nat) (kc : Nat → ClassId) (ws : va_W) (ad : Nat → Nat) (ga : Nat → Nat) (gc : Nat → Nat) (M : Nat) (n : Nat → Int32) (f : Nat → Nat → Int32) (T : Nat → Option Nat) (G : Nat → Nat → Int32) (K : Nat → Nat → Option Nat) (F : Nat → Nat → Nat → Int32) (R : Nat) (i : Nat) (sz hz : Nat) (hQ : Pic9 kc ws ad ga gc M n f T G K F) (hI : I9 M n T gc G K R) (hi : i < M) (hR : R ≤ 310000) : Met l yX9_tellUncaught (.code yX9_tellUncaught cX9_tellUncaught 5 none :: gw) ({ frames := 4, cells := 1800, slots := 67000, locals := 152 }) (va_Pc [.ref (ad 0), .ref (ad (50 + 16 * i))] (fun U => U.heap.size = sz ∧ hpS U.heap = hz ∧ va_P (dC, dI) vwCl ws U.heap ∧ va_K (dC, dI) vwCl (t9 kc) U ∧ va_D (fun _ => True) ws ∧ nx U)) (va_Qv (fun (u : (Nat → Nat) × (Nat → Nat) × (Nat → Nat) × Nat × (Nat → Int32) × (Nat → Nat → Int32) × (Nat → Option Nat) × (Nat → Nat → Int32) × (Nat → Nat → Option Nat) × (Nat → Nat → Nat → Int32)) => S9 M u.2.2.1 + gc 1 ≤ S9 M gc + u.2.2.1 1 ∧ (u.2.2.2.2.1 0).toInt = (n 0).toInt) (fun u t => ∃ w : va_W, va_P (dC, dI) vwCl w t.heap ∧ va_D (va_A ws sz) w ∧ Pic9 kc w ad u.2.1 u.2.2.1 M u.2.2.2.2.1 u.2.2.2.2.2.1 T u.2.2.2.2.2.2.2.1 K F ∧ I9 M u.2.2.2.2.1 T u.2.2.1 u.2.2.2.2.2.2.2.1 K R ∧ hpS t.heap + (260 * M + 2 * S9 M gc) ≤ hz + (260 * M + 2 * S9 M u.2.2.1) ∧ 16 * t.heap.size + (256 * M + S9 M gc) ≤ 16 * sz + (256 * M + S9 M u.2.2.1) ∧ (n 0).toInt ≤ (u.2.2.2.2.1 0).toInt) (va_A ws sz)) 1800 67000 (va_A ws sz) := by
  refine Met.ofW (cc := cX9_tellUncaught) (maxL := 5) (ret := none) (by decide) rfl ?_
  intro p e s m args below meth c s₁ B hml hv
  obtain ⟨rfl, hsz, rfl, hP, hK, hD0, hN⟩ := hv
  have hx := B.exec
  have hb := B.bytes
  have hr := B.returns
  have hts := atoms_spec (ws := .code yX9_tellUncaught cX9_tellUncaught 5 none :: gw) B.pre
  have hg : ∀ w ∈ gw, w.before _ s = true := fun w h => hts w (List.mem_cons_of_mem _ h)
  have hown : s.vm.findClass RX9 = some m.cls := findClass_of_methodNamed B.named
  have hlocks := B.notSynchronized
  subst hsz
  have hD := hD0.self (sz := s.heap.size)
  generalize hAe : va_A ws s.heap.size = A at hD ⊢
  have hA : ∀ q : Nat, s.heap.size ≤ q → A q := fun q h => by rw [← hAe]; exact Or.inr h
  clear hAe
  have hS : va_S A s.heap s.heap [] := va_S.rf
  have hl := lv_entry ([.ref (ad 0), .ref (ad (50 + 16 * i))]) (n := 5) (Nat.le_of_ble_eq_true rfl)
  rw [lg_entry_eq]
  generalize (lg_sl ([.ref (ad 0), .ref (ad (50 + 16 * i))]) ++ List.replicate (5 - (lg_sl ([.ref (ad 0), .ref (ad (50 + 16 * i))])).length) Slot.unset).toArray = ls at hl ⊢
  have hl : lv_has ls 5 [(0, .ref (ad 0)), (1, .ref (ad (50 + 16 * i)))] := hl
  obtain ⟨h_i1, h_i2, h_i3, h_i4, h_i5, h_i6, h_i7, h_i8, h_i9⟩ := id hI
  have q1_ := h_i1
  unfold i1 at q1_
  have hSl0 := S9_le h_i8 h_i9
  have hb0_ := h_i8.2.1 0 (by omega)
  have hb1_ := h_i8.2.1 1 (by omega)
  have hb2_ := h_i8.2.1 2 (by omega)
  have hr1 : 0 + (260 * M + 2 * S9 M gc) ≤ (260 * M + 2 * S9 M gc) := by omega
  have hr2 : 16 * 0 + (256 * M + S9 M gc) ≤ (256 * M + S9 M gc) := by omega
  obtain ⟨ce, hce⟩ : ∃ q : Nat, q = 0 := ⟨_, rfl⟩
  obtain ⟨se, hse⟩ : ∃ q : Nat, q = 0 := ⟨_, rfl⟩
  rw [← hse] at hr1
  have hr2 : 16 * ce + (256 * M + S9 M gc) ≤ (256 * M + S9 M gc) := by omega
  refine W.widen (k := ce) (n := se) (Nat.zero_le _) (Nat.zero_le _) ?_
  refine lv_aload_n hx hb dX9_tellUncaught_0 rfl (lv_at hl 1 rfl) ?_
  refine va_get (D := (dC, dI)) (ci := 7) (v := .ref (ad (50 + 16 * i + 1))) (C := RX7) (T := TX7) (N := 15) hx hb hg gb_7 hown hK hP (50 + 16 * i) (hQ.b0 hi) rfl 10 (by decide) (hg _ gm_fieldLink_RX9_151_ErrandGuild_Run_kin_LErrandGuild_Kin_) (fun _ h9 => h9) rfl dX9_tellUncaught_1 ?_
  refine va_get (D := (dC, dI)) (ci := 4) (v := va_rf (rA9 ad (K i 0))) (C := RX4) (T := TX4) (N := 9) hx hb hg gb_4 hown hK hP (50 + 16 * i + 1) (hQ.b1 hi) rfl 0 (by decide) (hg _ gm_fieldLink_RX9_155_ErrandGuild_Kin_giver_LErrandGuild_Run_) (fun _ h9 => h9) rfl dX9_tellUncaught_4 ?_
  rcases eo_1 : K i 0 with _ | j_2
  · refine W.eq (g2 := F0 m 7 ls [.null]) (by first | rfl | (rw [eo_1]; rfl)) ?_
    refine lv_astore_nN (lv' := [(2, .null), (0, .ref (ad 0)), (1, .ref (ad (50 + 16 * i)))]) hx hb dX9_tellUncaught_7 rfl hl (by decide) rfl (fun ls hl => ?_)
    refine lv_aload_nN hx hb dX9_tellUncaught_8 rfl (lv_at hl 0 rfl) ?_
    refine lv_ifnullN (tgt := 29) hx hb dX9_tellUncaught_9 (by decide) ?_
    refine lv_iconst (v := 1) hx hb dX9_tellUncaught_29 (by decide) ?_
    refine lv_goto (tgt := 34) hx hb dX9_tellUncaught_30 (by decide) ?_
    refine lv_istore_n (lv' := [(3, .int 1), (2, .null), (0, .ref (ad 0)), (1, .ref (ad (50 + 16 * i)))]) hx hb dX9_tellUncaught_34 rfl hl (by decide) rfl (fun ls hl => ?_)
    refine lv_aload_n hx hb dX9_tellUncaught_35 rfl (lv_at hl 3 rfl) ?_
    refine va_get (D := (dC, dI)) (ci := 7) (v := .int (G i 2)) (C := RX7) (T := TX7) (N := 15) hx hb hg gb_7 hown hK hP (50 + 16 * i) (hQ.b0 hi) rfl 2 (by decide) (hg _ gm_fieldLink_RX9_145_ErrandGuild_Run_state_I_) (fun _ h9 => h9) rfl dX9_tellUncaught_36 ?_
    refine lv_iconst (v := 4) hx hb dX9_tellUncaught_39 (by decide) ?_
    refine lv_icmp_ne (tgt := 52) hx hb dX9_tellUncaught_40 (by decide) (fun c_3 => ?_) (fun c_3 => ?_)
    · simp only [i_lt, i_le, i_eq, ti_4] at c_3
      refine lv_aload_n hx hb dX9_tellUncaught_52 rfl (lv_at hl 3 rfl) ?_
      refine va_get (D := (dC, dI)) (ci := 7) (v := .ref (ad (50 + 16 * i + 1))) (C := RX7) (T := TX7) (N := 15) hx hb hg gb_7 hown hK hP (50 + 16 * i) (hQ.b0 hi) rfl 10 (by decide) (hg _ gm_fieldLink_RX9_151_ErrandGuild_Run_kin_LErrandGuild_Kin_) (fun _ h9 => h9) rfl dX9_tellUncaught_53 ?_
      refine va_get (D := (dC, dI)) (ci := 4) (v := va_rf (rA9 ad (K i 2))) (C := RX4) (T := TX4) (N := 9) hx hb hg gb_4 hown hK hP (50 + 16 * i + 1) (hQ.b1 hi) rfl 5 (by decide) (hg _ gm_fieldLink_RX9_225_ErrandGuild_Kin_firstChild_LErrandGuild_Run_) (fun _ h9 => h9) rfl dX9_tellUncaught_56 ?_
      rcases eo_4 : K i 2 with _ | j_5
      · refine W.eq (g2 := F0 m 59 ls [.null]) (by first | rfl | (rw [eo_4]; rfl)) ?_
        refine lv_astoreN (lv' := [(4, .null), (3, .int 1), (2, .null), (0, .ref (ad 0)), (1, .ref (ad (50 + 16 * i)))]) hx hb dX9_tellUncaught_59 hl (by decide) rfl (fun ls hl => ?_)
        have L61 : ∀ (fuel : Nat)  (o_6 : Option Nat)  (ws_12 : va_W) (ga_7 : Nat → Nat) (gc_8 : Nat → Nat) (n_9 : Nat → Int32) (f_10 : Nat → Nat → Int32) (G_11 : Nat → Nat → Int32) (ce se : Nat) (H : Heap) (locs : List Loc) (ls : Array Slot), chM M o_6 < fuel → (∀ j : Nat, o_6 = some j → j < M) → (S9 M gc_8 + gc 1 ≤ S9 M gc + gc_8 1) → ((n_9 0).toInt = (n 0).toInt) → ((n 0).toInt ≤ (n_9 0).toInt) → Pic9 kc ws_12 ad ga_7 gc_8 M n_9 f_10 T G_11 K F → I9 M n_9 T gc_8 G_11 K R → (se + (260 * M + 2 * S9 M gc) ≤ (260 * M + 2 * S9 M gc_8)) → (16 * ce + (256 * M + S9 M gc) ≤ (256 * M + S9 M gc_8)) → va_P (dC, dI) vwCl ws_12 H → va_D A ws_12 → va_S A s.heap H locs → lv_has ls 5 [(4, va_rf (rA9 ad o_6)), (3, .int 1), (2, .null), (0, .ref (ad 0)), (1, .ref (ad (50 + 16 * i)))] → W p l e (headSpec (.code yX9_tellUncaught cX9_tellUncaught 5 none :: gw) ({ frames := 4, cells := 1800, slots := 67000, locals := 152 })).room s m ([.ref (ad 0), .ref (ad (50 + 16 * i))] : List Value).toArray below meth c H locs ce se (MQ below (va_Qv (fun (u : (Nat → Nat) × (Nat → Nat) × (Nat → Nat) × Nat × (Nat → Int32) × (Nat → Nat → Int32) × (Nat → Option Nat) × (Nat → Nat → Int32) × (Nat → Nat → Option Nat) × (Nat → Nat → Nat → Int32)) => S9 M u.2.2.1 + gc 1 ≤ S9 M gc + u.2.2.1 1 ∧ (u.2.2.2.2.1 0).toInt = (n 0).toInt) (fun u t => ∃ w : va_W, va_P (dC, dI) vwCl w t.heap ∧ va_D A w ∧ Pic9 kc w ad u.2.1 u.2.2.1 M u.2.2.2.2.1 u.2.2.2.2.2.1 T u.2.2.2.2.2.2.2.1 K F ∧ I9 M u.2.2.2.2.1 T u.2.2.1 u.2.2.2.2.2.2.2.1 K R ∧ hpS t.heap + (260 * M + 2 * S9 M gc) ≤ (hpS s.heap) + (260 * M + 2 * S9 M u.2.2.1) ∧ 16 * t.heap.size + (256 * M + S9 M gc) ≤ 16 * s.heap.size + (256 * M + S9 M u.2.2.1) ∧ (n 0).toInt ≤ (u.2.2.2.2.1 0).toInt) A) ([.ref (ad 0), .ref (ad (50 + 16 * i))] : List Value).toArray s 1800 67000 A) (F0 m 61 ls []) := by
          intro fuel
          induction fuel with
          | zero => intro o_6 ws_12 ga_7 gc_8 n_9 f_10 G_11 ce se H locs ls hm; exact absurd hm (Nat.not_lt_zero _)
          | succ fuel_20 ih_19 =>
            intro o_6 ws_12 ga_7 gc_8 n_9 f_10 G_11 ce se H locs ls hm_13 v_14 v_15 v_16 v_17 hQ hI_18 hr1 hr2 hP hD hS hl
            obtain ⟨i1_21, i2_22, i3_23, i4_24, i5_25, i6_26, i7_27, i8_28, i9_29⟩ := id hI_18
            have q1_ := i1_21
            unfold i1 at q1_
            have hSl := S9_le i8_28 i9_29
            have hb0_ := i8_28.2.1 0 (by omega)
            have hb1_ := i8_28.2.1 1 (by omega)
            have hb2_ := i8_28.2.1 2 (by omega)
            rcases o_6 with _ | j_30
            · have hl : lv_has ls 5 [(4, .null), (3, .int 1), (2, .null), (0, .ref (ad 0)), (1, .ref (ad (50 + 16 * i)))] := hl
              refine lv_aloadN hx hb dX9_tellUncaught_61 (lv_at hl 0 rfl) ?_
              refine lv_ifnullN (tgt := 105) hx hb dX9_tellUncaught_63 (by decide) ?_
              refine W_msr2 (fun hm1 hm2 hm3 => ?_)
              have hSl := S9_le i8_28 i9_29
              have hb0_ := i8_28.2.1 0 (by omega)
              have hb1_ := i8_28.2.1 1 (by omega)
              have hb2_ := i8_28.2.1 2 (by omega)
              refine W.widen (k := 1800) (n := 67000) (by omega) (by omega) ?_
              exact W.vret hx hb hr (fun t ht hW => ⟨⟨(ad, ga_7, gc_8, M, n_9, f_10, T, G_11, K, F), rfl, (by show S9 M gc_8 + gc 1 ≤ S9 M gc + gc_8 1 ∧ (n_9 0).toInt = (n 0).toInt; omega), ws_12, by rw [ht]; exact hP, hD, hQ, ⟨i1_21, i2_22, i3_23, i4_24, i5_25, i6_26, i7_27, i8_28, i9_29⟩, by rw [ht]; show hpS H + (260 * M + 2 * S9 M gc) ≤ hpS s.heap + (260 * M + 2 * S9 M gc_8); omega, by rw [ht]; show 16 * H.size + (256 * M + S9 M gc) ≤ 16 * s.heap.size + (256 * M + S9 M gc_8); omega, by show (n 0).toInt ≤ (n_9 0).toInt; omega⟩, hS.F ht⟩) hS.2.2 dX9_tellUncaught_105
            · have hl : lv_has ls 5 [(4, .ref (ad (50 + 16 * j_30))), (3, .int 1), (2, .null), (0, .ref (ad 0)), (1, .ref (ad (50 + 16 * i)))] := hl
              have hj_30 : j_30 < M := v_14 _ rfl
              refine lv_aload hx hb dX9_tellUncaught_61 (lv_at hl 0 rfl) ?_
              refine lv_ifnull hx hb dX9_tellUncaught_63 ?_
              refine lv_aload hx hb dX9_tellUncaught_66 (lv_at hl 0 rfl) ?_
              refine va_get (D := (dC, dI)) (ci := 7) (v := .int (G_11 j_30 2)) (C := RX7) (T := TX7) (N := 15) hx hb hg gb_7 hown hK hP (50 + 16 * j_30) (hQ.b0 hj_30) rfl 2 (by decide) (hg _ gm_fieldLink_RX9_145_ErrandGuild_Run_state_I_) (fun _ h9 => h9) rfl dX9_tellUncaught_68 ?_
              refine lv_iconst (v := 4) hx hb dX9_tellUncaught_71 (by decide) ?_
              refine lv_icmp_ne (tgt := 92) hx hb dX9_tellUncaught_72 (by decide) (fun c_31 => ?_) (fun c_31 => ?_)
              · simp only [i_lt, i_le, i_eq, ti_4] at c_31
                refine lv_aload hx hb dX9_tellUncaught_92 (lv_at hl 0 rfl) ?_
                refine va_get (D := (dC, dI)) (ci := 7) (v := .ref (ad (50 + 16 * j_30 + 1))) (C := RX7) (T := TX7) (N := 15) hx hb hg gb_7 hown hK hP (50 + 16 * j_30) (hQ.b0 hj_30) rfl 10 (by decide) (hg _ gm_fieldLink_RX9_151_ErrandGuild_Run_kin_LErrandGuild_Kin_) (fun _ h9 => h9) rfl dX9_tellUncaught_94 ?_
                refine va_get (D := (dC, dI)) (ci := 4) (v := va_rf (rA9 ad (K j_30 4))) (C := RX4) (T := TX4) (N := 9) hx hb hg gb_4 hown hK hP (50 + 16 * j_30 + 1) (hQ.b1 hj_30) rfl 7 (by decide) (hg _ gm_fieldLink_RX9_228_ErrandGuild_Kin_nextSibling_LErrandGuild_Run_) (fun _ h9 => h9) rfl dX9_tellUncaught_97 ?_
                rcases eo_32 : K j_30 4 with _ | j_33
                · refine W.eq (g2 := F0 m 100 ls [.null]) (by first | rfl | (rw [eo_32]; rfl)) ?_
                  refine lv_astoreN (lv' := [(4, .null), (3, .int 1), (2, .null), (0, .ref (ad 0)), (1, .ref (ad (50 + 16 * i)))]) hx hb dX9_tellUncaught_100 hl (by decide) rfl (fun ls hl => ?_)
                  refine lv_goto (tgt := 61) hx hb dX9_tellUncaught_102 (by decide) ?_
                  exact ih_19  none  ws_12 ga_7 gc_8 n_9 f_10 G_11 ce se H locs ls (by simp only [chM] at *; omega) (fun _ h => by cases h) (by show S9 M gc_8 + gc 1 ≤ S9 M gc + gc_8 1; omega) (by show (n_9 0).toInt = (n 0).toInt; omega) (by show (n 0).toInt ≤ (n_9 0).toInt; omega) hQ ⟨i1_21, i2_22, i3_23, i4_24, i5_25, i6_26, i7_27, i8_28, i9_29⟩ hr1 hr2 hP hD hS (lv_sub hl [0, 1, 2, 3, 4] rfl)
                · refine W.eq (g2 := F0 m 100 ls [.ref (ad (50 + 16 * j_33))]) (by first | rfl | (rw [eo_32]; rfl)) ?_
                  have hj_33 : j_33 < M := i3_23 _ _ _ hj_30 eo_32
                  refine lv_astore (lv' := [(4, .ref (ad (50 + 16 * j_33))), (3, .int 1), (2, .null), (0, .ref (ad 0)), (1, .ref (ad (50 + 16 * i)))]) hx hb dX9_tellUncaught_100 hl (by decide) rfl (fun ls hl => ?_)
                  refine lv_goto (tgt := 61) hx hb dX9_tellUncaught_102 (by decide) ?_
                  exact ih_19  (some j_33)  ws_12 ga_7 gc_8 n_9 f_10 G_11 ce se H locs ls (by have := i4_24 _ _ hj_30 eo_32; simp only [chM] at *; omega) (fun _ h => by cases h; exact hj_33) (by show S9 M gc_8 + gc 1 ≤ S9 M gc + gc_8 1; omega) (by show (n_9 0).toInt = (n 0).toInt; omega) (by show (n 0).toInt ≤ (n_9 0).toInt; omega) hQ ⟨i1_21, i2_22, i3_23, i4_24, i5_25, i6_26, i7_27, i8_28, i9_29⟩ hr1 hr2 hP hD hS (lv_sub hl [0, 1, 2, 3, 4] rfl)
              · simp only [i_lt, i_le, i_eq, ti_4] at c_31
                refine lv_aload hx hb dX9_tellUncaught_75 (lv_at hl 0 rfl) ?_
                refine va_get (D := (dC, dI)) (ci := 7) (v := .ref (ad (50 + 16 * j_30 + 1))) (C := RX7) (T := TX7) (N := 15) hx hb hg gb_7 hown hK hP (50 + 16 * j_30) (hQ.b0 hj_30) rfl 10 (by decide) (hg _ gm_fieldLink_RX9_151_ErrandGuild_Run_kin_LErrandGuild_Kin_) (fun _ h9 => h9) rfl dX9_tellUncaught_77 ?_
                refine va_get (D := (dC, dI)) (ci := 4) (v := .int (G_11 j_30 12)) (C := RX4) (T := TX4) (N := 9) hx hb hg gb_4 hown hK hP (50 + 16 * j_30 + 1) (hQ.b1 hj_30) rfl 4 (by decide) (hg _ gm_fieldLink_RX9_379_ErrandGuild_Kin_claim_I_) (fun _ h9 => h9) rfl dX9_tellUncaught_80 ?_
                refine lv_if_ne (tgt := 92) hx hb dX9_tellUncaught_83 (by decide) (fun c_34 => ?_) (fun c_34 => ?_)
                · simp only [i_lt, i_le, i_eq, ti_0] at c_34
                  refine lv_aload hx hb dX9_tellUncaught_92 (lv_at hl 0 rfl) ?_
                  refine va_get (D := (dC, dI)) (ci := 7) (v := .ref (ad (50 + 16 * j_30 + 1))) (C := RX7) (T := TX7) (N := 15) hx hb hg gb_7 hown hK hP (50 + 16 * j_30) (hQ.b0 hj_30) rfl 10 (by decide) (hg _ gm_fieldLink_RX9_151_ErrandGuild_Run_kin_LErrandGuild_Kin_) (fun _ h9 => h9) rfl dX9_tellUncaught_94 ?_
                  refine va_get (D := (dC, dI)) (ci := 4) (v := va_rf (rA9 ad (K j_30 4))) (C := RX4) (T := TX4) (N := 9) hx hb hg gb_4 hown hK hP (50 + 16 * j_30 + 1) (hQ.b1 hj_30) rfl 7 (by decide) (hg _ gm_fieldLink_RX9_228_ErrandGuild_Kin_nextSibling_LErrandGuild_Run_) (fun _ h9 => h9) rfl dX9_tellUncaught_97 ?_
                  rcases eo_35 : K j_30 4 with _ | j_36
                  · refine W.eq (g2 := F0 m 100 ls [.null]) (by first | rfl | (rw [eo_35]; rfl)) ?_
                    refine lv_astoreN (lv' := [(4, .null), (3, .int 1), (2, .null), (0, .ref (ad 0)), (1, .ref (ad (50 + 16 * i)))]) hx hb dX9_tellUncaught_100 hl (by decide) rfl (fun ls hl => ?_)
                    refine lv_goto (tgt := 61) hx hb dX9_tellUncaught_102 (by decide) ?_
                    exact ih_19  none  ws_12 ga_7 gc_8 n_9 f_10 G_11 ce se H locs ls (by simp only [chM] at *; omega) (fun _ h => by cases h) (by show S9 M gc_8 + gc 1 ≤ S9 M gc + gc_8 1; omega) (by show (n_9 0).toInt = (n 0).toInt; omega) (by show (n 0).toInt ≤ (n_9 0).toInt; omega) hQ ⟨i1_21, i2_22, i3_23, i4_24, i5_25, i6_26, i7_27, i8_28, i9_29⟩ hr1 hr2 hP hD hS (lv_sub hl [0, 1, 2, 3, 4] rfl)
                  · refine W.eq (g2 := F0 m 100 ls [.ref (ad (50 + 16 * j_36))]) (by first | rfl | (rw [eo_35]; rfl)) ?_
                    have hj_36 : j_36 < M := i3_23 _ _ _ hj_30 eo_35
                    refine lv_astore (lv' := [(4, .ref (ad (50 + 16 * j_36))), (3, .int 1), (2, .null), (0, .ref (ad 0)), (1, .ref (ad (50 + 16 * i)))]) hx hb dX9_tellUncaught_100 hl (by decide) rfl (fun ls hl => ?_)
                    refine lv_goto (tgt := 61) hx hb dX9_tellUncaught_102 (by decide) ?_
                    exact ih_19  (some j_36)  ws_12 ga_7 gc_8 n_9 f_10 G_11 ce se H locs ls (by have := i4_24 _ _ hj_30 eo_35; simp only [chM] at *; omega) (fun _ h => by cases h; exact hj_36) (by show S9 M gc_8 + gc 1 ≤ S9 M gc + gc_8 1; omega) (by show (n_9 0).toInt = (n 0).toInt; omega) (by show (n 0).toInt ≤ (n_9 0).toInt; omega) hQ ⟨i1_21, i2_22, i3_23, i4_24, i5_25, i6_26, i7_27, i8_28, i9_29⟩ hr1 hr2 hP hD hS (lv_sub hl [0, 1, 2, 3, 4] rfl)
                · simp only [i_lt, i_le, i_eq, ti_0] at c_34
                  refine lv_aload_n hx hb dX9_tellUncaught_86 rfl (lv_at hl 3 rfl) ?_
                  refine lv_aload hx hb dX9_tellUncaught_87 (lv_at hl 0 rfl) ?_
                  have hFc := free_all hD hS hA
                  refine W_msr2 (fun hm1 hm2 hm3 => ?_)
                  refine va_callv (va_runV (As := [.ref (ad (50 + 16 * j_30))]) (rest := []) ⟨hx, hb, hml, hown, hg⟩ (c_X9_askHandlers l dC dI kc ws_12 ad ga_7 gc_8 M n_9 f_10 T G_11 K F R j_30 H.size (hpS H) hQ ⟨i1_21, i2_22, i3_23, i4_24, i5_25, i6_26, i7_27, i8_28, i9_29⟩ (by show j_30 < M; omega) (by show R ≤ 310000; omega)) (cwV 1 hg (gw_V gm_methodLink_RX9_388_yX9_askHandlers gm_instanceMethod_yX9_askHandlers gm_selects_RX9_yX9_askHandlers_yX9_askHandlers gm_initialized_RX9 gm_code_yX9_askHandlers_cX9_askHandlers_7_none) rfl rfl rfl (by decide +kernel) ⟨Nat.le_of_ble_eq_true rfl, Nat.le_of_ble_eq_true rfl⟩) ⟨fun a U g mk q => by obtain ⟨q0, q1, q2, qP, qK, qD, qN⟩ := q; exact ⟨q0, q1, q2, qP, va_K.moved (u := U) (U := U.calling g mk a) (Vm.Alike.refl U.vm) qK, qD, nx_same (u := U) (U := U.calling g mk a) rfl qN⟩, va_recv hK hP (ci := 9) (q0 := 0) rfl hQ.x0, fun U hU hW => ⟨rfl, by rw [hU], by rw [hU], by rw [hU]; exact hP, va_K.moved hW.alike hK, hD.weaken (fun _ _ _ _ => trivial), nx_warm hW hN⟩⟩ rfl rfl hl.1 rfl (lv_room (Nat.le_of_ble_eq_true rfl)) dX9_tellUncaught_89 ⟨by show ce + 1200 ≤ 1800; omega, by show se + 50000 ≤ 67000; omega⟩) hS (fun q _ h => hFc q h) hFc (fun u_38 t H1 locs ht hvm hw hB hz1 hk1 hS => ?_)
                  obtain ⟨ad_39, ga_40, gc_41, M_42, n_43, f_44, T_45, G_46, K_47, F_48⟩ := u_38
                  have hB : ∃ w : va_W, va_P (dC, dI) vwCl w t.heap ∧ va_D (va_A ws_12 H.size) w ∧ Pic9 kc w ad ga_40 gc_41 M n_43 f_44 T G_46 K F ∧ I9 M n_43 T gc_41 G_46 K R ∧ hpS t.heap + (260 * M + 2 * S9 M gc_8) ≤ hpS H + (260 * M + 2 * S9 M gc_41) ∧ 16 * t.heap.size + (256 * M + S9 M gc_8) ≤ 16 * H.size + (256 * M + S9 M gc_41) ∧ (n_9 0).toInt ≤ (n_43 0).toInt := hB
                  rw [ht] at hB
                  obtain ⟨ws_49, hP, hD, hQ, hI_51, hy1, hy2, hn_50⟩ := hB
                  have hD := hD.weaken (fun k q _ h => hFc _ h)
                  obtain ⟨i1_52, i2_53, i3_54, i4_55, i5_56, i6_57, i7_58, i8_59, i9_60⟩ := id hI_51
                  have q1_ := i1_52
                  unfold i1 at q1_
                  have hSl := S9_le i8_59 i9_60
                  have hb0_ := i8_59.2.1 0 (by omega)
                  have hb1_ := i8_59.2.1 1 (by omega)
                  have hb2_ := i8_59.2.1 2 (by omega)
                  refine W_msr2 (fun hn1 hn2 hn3 => ?_)
                  obtain ⟨ce2, se2, hk3, hk4, hr1, hr2⟩ : ∃ c2 s2 : Nat, H1.size ≤ s.heap.size + c2 ∧ hpS H1 ≤ hpS s.heap + s2 ∧ s2 + (260 * M + 2 * S9 M gc) ≤ (260 * M + 2 * S9 M gc_41) ∧ 16 * c2 + (256 * M + S9 M gc) ≤ (256 * M + S9 M gc_41) := ⟨H1.size - s.heap.size, hpS H1 - hpS s.heap, by omega, by omega, by have := hS.1; omega, by have := hS.1; omega⟩
                  refine W_tightP hk3 hk4 ?_
                  clear hm1 hm2 hm3 hn1 hn2 hn3 hk3 hk4
                  clear hk1 hz1
                  generalize ce2 = ce, se2 = se at hr1 hr2 ⊢
                  generalize H1 = H at hP hS ⊢
                  have w_61 : S9 M gc_41 + gc_8 1 ≤ S9 M gc_8 + gc_41 1 ∧ (n_43 0).toInt = (n_9 0).toInt := hw
                  refine lv_aload hx hb dX9_tellUncaught_92 (lv_at hl 0 rfl) ?_
                  refine va_get (D := (dC, dI)) (ci := 7) (v := .ref (ad (50 + 16 * j_30 + 1))) (C := RX7) (T := TX7) (N := 15) hx hb hg gb_7 hown hK hP (50 + 16 * j_30) (hQ.b0 hj_30) rfl 10 (by decide) (hg _ gm_fieldLink_RX9_151_ErrandGuild_Run_kin_LErrandGuild_Kin_) (fun _ h9 => h9) rfl dX9_tellUncaught_94 ?_
                  refine va_get (D := (dC, dI)) (ci := 4) (v := va_rf (rA9 ad (K j_30 4))) (C := RX4) (T := TX4) (N := 9) hx hb hg gb_4 hown hK hP (50 + 16 * j_30 + 1) (hQ.b1 hj_30) rfl 7 (by decide) (hg _ gm_fieldLink_RX9_228_ErrandGuild_Kin_nextSibling_LErrandGuild_Run_) (fun _ h9 => h9) rfl dX9_tellUncaught_97 ?_
                  rcases eo_62 : K j_30 4 with _ | j_63
                  · refine W.eq (g2 := F0 m 100 ls [.null]) (by first | rfl | (rw [eo_62]; rfl)) ?_
                    refine lv_astoreN (lv' := [(4, .null), (3, .int 1), (2, .null), (0, .ref (ad 0)), (1, .ref (ad (50 + 16 * i)))]) hx hb dX9_tellUncaught_100 hl (by decide) rfl (fun ls hl => ?_)
                    refine lv_goto (tgt := 61) hx hb dX9_tellUncaught_102 (by decide) ?_
                    exact ih_19  none  ws_49 ga_40 gc_41 n_43 f_44 G_46 ce se H locs ls (by simp only [chM] at *; omega) (fun _ h => by cases h) (by show S9 M gc_41 + gc 1 ≤ S9 M gc + gc_41 1; omega) (by show (n_43 0).toInt = (n 0).toInt; omega) (by show (n 0).toInt ≤ (n_43 0).toInt; omega) hQ ⟨i1_52, i2_53, i3_54, i4_55, i5_56, i6_57, i7_58, i8_59, i9_60⟩ hr1 hr2 hP hD hS (lv_sub hl [0, 1, 2, 3, 4] rfl)
                  · refine W.eq (g2 := F0 m 100 ls [.ref (ad (50 + 16 * j_63))]) (by first | rfl | (rw [eo_62]; rfl)) ?_
                    have hj_63 : j_63 < M := i3_54 _ _ _ hj_30 eo_62
                    refine lv_astore (lv' := [(4, .ref (ad (50 + 16 * j_63))), (3, .int 1), (2, .null), (0, .ref (ad 0)), (1, .ref (ad (50 + 16 * i)))]) hx hb dX9_tellUncaught_100 hl (by decide) rfl (fun ls hl => ?_)
                    refine lv_goto (tgt := 61) hx hb dX9_tellUncaught_102 (by decide) ?_
                    exact ih_19  (some j_63)  ws_49 ga_40 gc_41 n_43 f_44 G_46 ce se H locs ls (by have := i4_55 _ _ hj_30 eo_62; simp only [chM] at *; omega) (fun _ h => by cases h; exact hj_63) (by show S9 M gc_41 + gc 1 ≤ S9 M gc + gc_41 1; omega) (by show (n_43 0).toInt = (n 0).toInt; omega) (by show (n 0).toInt ≤ (n_43 0).toInt; omega) hQ ⟨i1_52, i2_53, i3_54, i4_55, i5_56, i6_57, i7_58, i8_59, i9_60⟩ hr1 hr2 hP hD hS (lv_sub hl [0, 1, 2, 3, 4] rfl)
        exact L61 _  none  ws ga gc n f G ce se _ _ _ (Nat.lt_succ_self _) (fun _ h => by cases h) (by show S9 M gc + gc 1 ≤ S9 M gc + gc 1; omega) (by show (n 0).toInt = (n 0).toInt; omega) (by show (n 0).toInt ≤ (n 0).toInt; omega) hQ ⟨h_i1, h_i2, h_i3, h_i4, h_i5, h_i6, h_i7, h_i8, h_i9⟩ hr1 hr2 hP hD hS (lv_sub hl [0, 1, 2, 3, 4] rfl)
      · refine W.eq (g2 := F0 m 59 ls [.ref (ad (50 + 16 * j_5))]) (by first | rfl | (rw [eo_4]; rfl)) ?_
        have hj_5 : j_5 < M := h_i3 _ _ _ hi eo_4
        refine lv_astore (lv' := [(4, .ref (ad (50 + 16 * j_5))), (3, .int 1), (2, .null), (0, .ref (ad 0)), (1, .ref (ad (50 + 16 * i)))]) hx hb dX9_tellUncaught_59 hl (by decide) rfl (fun ls hl => ?_)
        have L61 : ∀ (fuel : Nat)  (o_64 : Option Nat)  (ws_70 : va_W) (ga_65 : Nat → Nat) (gc_66 : Nat → Nat) (n_67 : Nat → Int32) (f_68 : Nat → Nat → Int32) (G_69 : Nat → Nat → Int32) (ce se : Nat) (H : Heap) (locs : List Loc) (ls : Array Slot), chM M o_64 < fuel → (∀ j : Nat, o_64 = some j → j < M) → (S9 M gc_66 + gc 1 ≤ S9 M gc + gc_66 1) → ((n_67 0).toInt = (n 0).toInt) → ((n 0).toInt ≤ (n_67 0).toInt) → Pic9 kc ws_70 ad ga_65 gc_66 M n_67 f_68 T G_69 K F → I9 M n_67 T gc_66 G_69 K R → (se + (260 * M + 2 * S9 M gc) ≤ (260 * M + 2 * S9 M gc_66)) → (16 * ce + (256 * M + S9 M gc) ≤ (256 * M + S9 M gc_66)) → va_P (dC, dI) vwCl ws_70 H → va_D A ws_70 → va_S A s.heap H locs → lv_has ls 5 [(4, va_rf (rA9 ad o_64)), (3, .int 1), (2, .null), (0, .ref (ad 0)), (1, .ref (ad (50 + 16 * i)))] → W p l e (headSpec (.code yX9_tellUncaught cX9_tellUncaught 5 none :: gw) ({ frames := 4, cells := 1800, slots := 67000, locals := 152 })).room s m ([.ref (ad 0), .ref (ad (50 + 16 * i))] : List Value).toArray below meth c H locs ce se (MQ below (va_Qv (fun (u : (Nat → Nat) × (Nat → Nat) × (Nat → Nat) × Nat × (Nat → Int32) × (Nat → Nat → Int32) × (Nat → Option Nat) × (Nat → Nat → Int32) × (Nat → Nat → Option Nat) × (Nat → Nat → Nat → Int32)) => S9 M u.2.2.1 + gc 1 ≤ S9 M gc + u.2.2.1 1 ∧ (u.2.2.2.2.1 0).toInt = (n 0).toInt) (fun u t => ∃ w : va_W, va_P (dC, dI) vwCl w t.heap ∧ va_D A w ∧ Pic9 kc w ad u.2.1 u.2.2.1 M u.2.2.2.2.1 u.2.2.2.2.2.1 T u.2.2.2.2.2.2.2.1 K F ∧ I9 M u.2.2.2.2.1 T u.2.2.1 u.2.2.2.2.2.2.2.1 K R ∧ hpS t.heap + (260 * M + 2 * S9 M gc) ≤ (hpS s.heap) + (260 * M + 2 * S9 M u.2.2.1) ∧ 16 * t.heap.size + (256 * M + S9 M gc) ≤ 16 * s.heap.size + (256 * M + S9 M u.2.2.1) ∧ (n 0).toInt ≤ (u.2.2.2.2.1 0).toInt) A) ([.ref (ad 0), .ref (ad (50 + 16 * i))] : List Value).toArray s 1800 67000 A) (F0 m 61 ls []) := by
          intro fuel
          induction fuel with
          | zero => intro o_64 ws_70 ga_65 gc_66 n_67 f_68 G_69 ce se H locs ls hm; exact absurd hm (Nat.not_lt_zero _)
          | succ fuel_78 ih_77 =>
            intro o_64 ws_70 ga_65 gc_66 n_67 f_68 G_69 ce se H locs ls hm_71 v_72 v_73 v_74 v_75 hQ hI_76 hr1 hr2 hP hD hS hl
            obtain ⟨i1_79, i2_80, i3_81, i4_82, i5_83, i6_84, i7_85, i8_86, i9_87⟩ := id hI_76
            have q1_ := i1_79
            unfold i1 at q1_
            have hSl := S9_le i8_86 i9_87
            have hb0_ := i8_86.2.1 0 (by omega)
            have hb1_ := i8_86.2.1 1 (by omega)
            have hb2_ := i8_86.2.1 2 (by omega)
            rcases o_64 with _ | j_88
            · have hl : lv_has ls 5 [(4, .null), (3, .int 1), (2, .null), (0, .ref (ad 0)), (1, .ref (ad (50 + 16 * i)))] := hl
              refine lv_aloadN hx hb dX9_tellUncaught_61 (lv_at hl 0 rfl) ?_
              refine lv_ifnullN (tgt := 105) hx hb dX9_tellUncaught_63 (by decide) ?_
              refine W_msr2 (fun hm1 hm2 hm3 => ?_)
              have hSl := S9_le i8_86 i9_87
              have hb0_ := i8_86.2.1 0 (by omega)
              have hb1_ := i8_86.2.1 1 (by omega)
              have hb2_ := i8_86.2.1 2 (by omega)
              refine W.widen (k := 1800) (n := 67000) (by omega) (by omega) ?_
              exact W.vret hx hb hr (fun t ht hW => ⟨⟨(ad, ga_65, gc_66, M, n_67, f_68, T, G_69, K, F), rfl, (by show S9 M gc_66 + gc 1 ≤ S9 M gc + gc_66 1 ∧ (n_67 0).toInt = (n 0).toInt; omega), ws_70, by rw [ht]; exact hP, hD, hQ, ⟨i1_79, i2_80, i3_81, i4_82, i5_83, i6_84, i7_85, i8_86, i9_87⟩, by rw [ht]; show hpS H + (260 * M + 2 * S9 M gc) ≤ hpS s.heap + (260 * M + 2 * S9 M gc_66); omega, by rw [ht]; show 16 * H.size + (256 * M + S9 M gc) ≤ 16 * s.heap.size + (256 * M + S9 M gc_66); omega, by show (n 0).toInt ≤ (n_67 0).toInt; omega⟩, hS.F ht⟩) hS.2.2 dX9_tellUncaught_105
            · have hl : lv_has ls 5 [(4, .ref (ad (50 + 16 * j_88))), (3, .int 1), (2, .null), (0, .ref (ad 0)), (1, .ref (ad (50 + 16 * i)))] := hl
              have hj_88 : j_88 < M := v_72 _ rfl
              refine lv_aload hx hb dX9_tellUncaught_61 (lv_at hl 0 rfl) ?_
              refine lv_ifnull hx hb dX9_tellUncaught_63 ?_
              refine lv_aload hx hb dX9_tellUncaught_66 (lv_at hl 0 rfl) ?_
              refine va_get (D := (dC, dI)) (ci := 7) (v := .int (G_69 j_88 2)) (C := RX7) (T := TX7) (N := 15) hx hb hg gb_7 hown hK hP (50 + 16 * j_88) (hQ.b0 hj_88) rfl 2 (by decide) (hg _ gm_fieldLink_RX9_145_ErrandGuild_Run_state_I_) (fun _ h9 => h9) rfl dX9_tellUncaught_68 ?_
              refine lv_iconst (v := 4) hx hb dX9_tellUncaught_71 (by decide) ?_
              refine lv_icmp_ne (tgt := 92) hx hb dX9_tellUncaught_72 (by decide) (fun c_89 => ?_) (fun c_89 => ?_)
              · simp only [i_lt, i_le, i_eq, ti_4] at c_89
                refine lv_aload hx hb dX9_tellUncaught_92 (lv_at hl 0 rfl) ?_
                refine va_get (D := (dC, dI)) (ci := 7) (v := .ref (ad (50 + 16 * j_88 + 1))) (C := RX7) (T := TX7) (N := 15) hx hb hg gb_7 hown hK hP (50 + 16 * j_88) (hQ.b0 hj_88) rfl 10 (by decide) (hg _ gm_fieldLink_RX9_151_ErrandGuild_Run_kin_LErrandGuild_Kin_) (fun _ h9 => h9) rfl dX9_tellUncaught_94 ?_
                refine va_get (D := (dC, dI)) (ci := 4) (v := va_rf (rA9 ad (K j_88 4))) (C := RX4) (T := TX4) (N := 9) hx hb hg gb_4 hown hK hP (50 + 16 * j_88 + 1) (hQ.b1 hj_88) rfl 7 (by decide) (hg _ gm_fieldLink_RX9_228_ErrandGuild_Kin_nextSibling_LErrandGuild_Run_) (fun _ h9 => h9) rfl dX9_tellUncaught_97 ?_
                rcases eo_90 : K j_88 4 with _ | j_91
                · refine W.eq (g2 := F0 m 100 ls [.null]) (by first | rfl | (rw [eo_90]; rfl)) ?_
                  refine lv_astoreN (lv' := [(4, .null), (3, .int 1), (2, .null), (0, .ref (ad 0)), (1, .ref (ad (50 + 16 * i)))]) hx hb dX9_tellUncaught_100 hl (by decide) rfl (fun ls hl => ?_)
                  refine lv_goto (tgt := 61) hx hb dX9_tellUncaught_102 (by decide) ?_
                  exact ih_77  none  ws_70 ga_65 gc_66 n_67 f_68 G_69 ce se H locs ls (by simp only [chM] at *; omega) (fun _ h => by cases h) (by show S9 M gc_66 + gc 1 ≤ S9 M gc + gc_66 1; omega) (by show (n_67 0).toInt = (n 0).toInt; omega) (by show (n 0).toInt ≤ (n_67 0).toInt; omega) hQ ⟨i1_79, i2_80, i3_81, i4_82, i5_83, i6_84, i7_85, i8_86, i9_87⟩ hr1 hr2 hP hD hS (lv_sub hl [0, 1, 2, 3, 4] rfl)
                · refine W.eq (g2 := F0 m 100 ls [.ref (ad (50 + 16 * j_91))]) (by first | rfl | (rw [eo_90]; rfl)) ?_
                  have hj_91 : j_91 < M := i3_81 _ _ _ hj_88 eo_90
                  refine lv_astore (lv' := [(4, .ref (ad (50 + 16 * j_91))), (3, .int 1), (2, .null), (0, .ref (ad 0)), (1, .ref (ad (50 + 16 * i)))]) hx hb dX9_tellUncaught_100 hl (by decide) rfl (fun ls hl => ?_)
                  refine lv_goto (tgt := 61) hx hb dX9_tellUncaught_102 (by decide) ?_
                  exact ih_77  (some j_91)  ws_70 ga_65 gc_66 n_67 f_68 G_69 ce se H locs ls (by have := i4_82 _ _ hj_88 eo_90; simp only [chM] at *; omega) (fun _ h => by cases h; exact hj_91) (by show S9 M gc_66 + gc 1 ≤ S9 M gc + gc_66 1; omega) (by show (n_67 0).toInt = (n 0).toInt; omega) (by show (n 0).toInt ≤ (n_67 0).toInt; omega) hQ ⟨i1_79, i2_80, i3_81, i4_82, i5_83, i6_84, i7_85, i8_86, i9_87⟩ hr1 hr2 hP hD hS (lv_sub hl [0, 1, 2, 3, 4] rfl)
              · simp only [i_lt, i_le, i_eq, ti_4] at c_89
                refine lv_aload hx hb dX9_tellUncaught_75 (lv_at hl 0 rfl) ?_
                refine va_get (D := (dC, dI)) (ci := 7) (v := .ref (ad (50 + 16 * j_88 + 1))) (C := RX7) (T := TX7) (N := 15) hx hb hg gb_7 hown hK hP (50 + 16 * j_88) (hQ.b0 hj_88) rfl 10 (by decide) (hg _ gm_fieldLink_RX9_151_ErrandGuild_Run_kin_LErrandGuild_Kin_) (fun _ h9 => h9) rfl dX9_tellUncaught_77 ?_
                refine va_get (D := (dC, dI)) (ci := 4) (v := .int (G_69 j_88 12)) (C := RX4) (T := TX4) (N := 9) hx hb hg gb_4 hown hK hP (50 + 16 * j_88 + 1) (hQ.b1 hj_88) rfl 4 (by decide) (hg _ gm_fieldLink_RX9_379_ErrandGuild_Kin_claim_I_) (fun _ h9 => h9) rfl dX9_tellUncaught_80 ?_
                refine lv_if_ne (tgt := 92) hx hb dX9_tellUncaught_83 (by decide) (fun c_92 => ?_) (fun c_92 => ?_)
                · simp only [i_lt, i_le, i_eq, ti_0] at c_92
                  refine lv_aload hx hb dX9_tellUncaught_92 (lv_at hl 0 rfl) ?_
                  refine va_get (D := (dC, dI)) (ci := 7) (v := .ref (ad (50 + 16 * j_88 + 1))) (C := RX7) (T := TX7) (N := 15) hx hb hg gb_7 hown hK hP (50 + 16 * j_88) (hQ.b0 hj_88) rfl 10 (by decide) (hg _ gm_fieldLink_RX9_151_ErrandGuild_Run_kin_LErrandGuild_Kin_) (fun _ h9 => h9) rfl dX9_tellUncaught_94 ?_
                  refine va_get (D := (dC, dI)) (ci := 4) (v := va_rf (rA9 ad (K j_88 4))) (C := RX4) (T := TX4) (N := 9) hx hb hg gb_4 hown hK hP (50 + 16 * j_88 + 1) (hQ.b1 hj_88) rfl 7 (by decide) (hg _ gm_fieldLink_RX9_228_ErrandGuild_Kin_nextSibling_LErrandGuild_Run_) (fun _ h9 => h9) rfl dX9_tellUncaught_97 ?_
                  rcases eo_93 : K j_88 4 with _ | j_94
                  · refine W.eq (g2 := F0 m 100 ls [.null]) (by first | rfl | (rw [eo_93]; rfl)) ?_
                    refine lv_astoreN (lv' := [(4, .null), (3, .int 1), (2, .null), (0, .ref (ad 0)), (1, .ref (ad (50 + 16 * i)))]) hx hb dX9_tellUncaught_100 hl (by decide) rfl (fun ls hl => ?_)
                    refine lv_goto (tgt := 61) hx hb dX9_tellUncaught_102 (by decide) ?_
                    exact ih_77  none  ws_70 ga_65 gc_66 n_67 f_68 G_69 ce se H locs ls (by simp only [chM] at *; omega) (fun _ h => by cases h) (by show S9 M gc_66 + gc 1 ≤ S9 M gc + gc_66 1; omega) (by show (n_67 0).toInt = (n 0).toInt; omega) (by show (n 0).toInt ≤ (n_67 0).toInt; omega) hQ ⟨i1_79, i2_80, i3_81, i4_82, i5_83, i6_84, i7_85, i8_86, i9_87⟩ hr1 hr2 hP hD hS (lv_sub hl [0, 1, 2, 3, 4] rfl)
                  · refine W.eq (g2 := F0 m 100 ls [.ref (ad (50 + 16 * j_94))]) (by first | rfl | (rw [eo_93]; rfl)) ?_
                    have hj_94 : j_94 < M := i3_81 _ _ _ hj_88 eo_93
                    refine lv_astore (lv' := [(4, .ref (ad (50 + 16 * j_94))), (3, .int 1), (2, .null), (0, .ref (ad 0)), (1, .ref (ad (50 + 16 * i)))]) hx hb dX9_tellUncaught_100 hl (by decide) rfl (fun ls hl => ?_)
                    refine lv_goto (tgt := 61) hx hb dX9_tellUncaught_102 (by decide) ?_
                    exact ih_77  (some j_94)  ws_70 ga_65 gc_66 n_67 f_68 G_69 ce se H locs ls (by have := i4_82 _ _ hj_88 eo_93; simp only [chM] at *; omega) (fun _ h => by cases h; exact hj_94) (by show S9 M gc_66 + gc 1 ≤ S9 M gc + gc_66 1; omega) (by show (n_67 0).toInt = (n 0).toInt; omega) (by show (n 0).toInt ≤ (n_67 0).toInt; omega) hQ ⟨i1_79, i2_80, i3_81, i4_82, i5_83, i6_84, i7_85, i8_86, i9_87⟩ hr1 hr2 hP hD hS (lv_sub hl [0, 1, 2, 3, 4] rfl)
                · simp only [i_lt, i_le, i_eq, ti_0] at c_92
                  refine lv_aload_n hx hb dX9_tellUncaught_86 rfl (lv_at hl 3 rfl) ?_
                  refine lv_aload hx hb dX9_tellUncaught_87 (lv_at hl 0 rfl) ?_
                  have hFc := free_all hD hS hA
                  refine W_msr2 (fun hm1 hm2 hm3 => ?_)
                  refine va_callv (va_runV (As := [.ref (ad (50 + 16 * j_88))]) (rest := []) ⟨hx, hb, hml, hown, hg⟩ (c_X9_askHandlers l dC dI kc ws_70 ad ga_65 gc_66 M n_67 f_68 T G_69 K F R j_88 H.size (hpS H) hQ ⟨i1_79, i2_80, i3_81, i4_82, i5_83, i6_84, i7_85, i8_86, i9_87⟩ (by show j_88 < M; omega) (by show R ≤ 310000; omega)) (cwV 1 hg (gw_V gm_methodLink_RX9_388_yX9_askHandlers gm_instanceMethod_yX9_askHandlers gm_selects_RX9_yX9_askHandlers_yX9_askHandlers gm_initialized_RX9 gm_code_yX9_askHandlers_cX9_askHandlers_7_none) rfl rfl rfl (by decide +kernel) ⟨Nat.le_of_ble_eq_true rfl, Nat.le_of_ble_eq_true rfl⟩) ⟨fun a U g mk q => by obtain ⟨q0, q1, q2, qP, qK, qD, qN⟩ := q; exact ⟨q0, q1, q2, qP, va_K.moved (u := U) (U := U.calling g mk a) (Vm.Alike.refl U.vm) qK, qD, nx_same (u := U) (U := U.calling g mk a) rfl qN⟩, va_recv hK hP (ci := 9) (q0 := 0) rfl hQ.x0, fun U hU hW => ⟨rfl, by rw [hU], by rw [hU], by rw [hU]; exact hP, va_K.moved hW.alike hK, hD.weaken (fun _ _ _ _ => trivial), nx_warm hW hN⟩⟩ rfl rfl hl.1 rfl (lv_room (Nat.le_of_ble_eq_true rfl)) dX9_tellUncaught_89 ⟨by show ce + 1200 ≤ 1800; omega, by show se + 50000 ≤ 67000; omega⟩) hS (fun q _ h => hFc q h) hFc (fun u_96 t H1 locs ht hvm hw hB hz1 hk1 hS => ?_)
                  obtain ⟨ad_97, ga_98, gc_99, M_100, n_101, f_102, T_103, G_104, K_105, F_106⟩ := u_96
                  have hB : ∃ w : va_W, va_P (dC, dI) vwCl w t.heap ∧ va_D (va_A ws_70 H.size) w ∧ Pic9 kc w ad ga_98 gc_99 M n_101 f_102 T G_104 K F ∧ I9 M n_101 T gc_99 G_104 K R ∧ hpS t.heap + (260 * M + 2 * S9 M gc_66) ≤ hpS H + (260 * M + 2 * S9 M gc_99) ∧ 16 * t.heap.size + (256 * M + S9 M gc_66) ≤ 16 * H.size + (256 * M + S9 M gc_99) ∧ (n_67 0).toInt ≤ (n_101 0).toInt := hB
                  rw [ht] at hB
                  obtain ⟨ws_107, hP, hD, hQ, hI_109, hy1, hy2, hn_108⟩ := hB
                  have hD := hD.weaken (fun k q _ h => hFc _ h)
                  obtain ⟨i1_110, i2_111, i3_112, i4_113, i5_114, i6_115, i7_116, i8_117, i9_118⟩ := id hI_109
                  have q1_ := i1_110
                  unfold i1 at q1_
                  have hSl := S9_le i8_117 i9_118
                  have hb0_ := i8_117.2.1 0 (by omega)
                  have hb1_ := i8_117.2.1 1 (by omega)
                  have hb2_ := i8_117.2.1 2 (by omega)
                  refine W_msr2 (fun hn1 hn2 hn3 => ?_)
                  obtain ⟨ce2, se2, hk3, hk4, hr1, hr2⟩ : ∃ c2 s2 : Nat, H1.size ≤ s.heap.size + c2 ∧ hpS H1 ≤ hpS s.heap + s2 ∧ s2 + (260 * M + 2 * S9 M gc) ≤ (260 * M + 2 * S9 M gc_99) ∧ 16 * c2 + (256 * M + S9 M gc) ≤ (256 * M + S9 M gc_99) := ⟨H1.size - s.heap.size, hpS H1 - hpS s.heap, by omega, by omega, by have := hS.1; omega, by have := hS.1; omega⟩
                  refine W_tightP hk3 hk4 ?_
                  clear hm1 hm2 hm3 hn1 hn2 hn3 hk3 hk4
                  clear hk1 hz1
                  generalize ce2 = ce, se2 = se at hr1 hr2 ⊢
                  generalize H1 = H at hP hS ⊢
                  have w_119 : S9 M gc_99 + gc_66 1 ≤ S9 M gc_66 + gc_99 1 ∧ (n_101 0).toInt = (n_67 0).toInt := hw
                  refine lv_aload hx hb dX9_tellUncaught_92 (lv_at hl 0 rfl) ?_
                  refine va_get (D := (dC, dI)) (ci := 7) (v := .ref (ad (50 + 16 * j_88 + 1))) (C := RX7) (T := TX7) (N := 15) hx hb hg gb_7 hown hK hP (50 + 16 * j_88) (hQ.b0 hj_88) rfl 10 (by decide) (hg _ gm_fieldLink_RX9_151_ErrandGuild_Run_kin_LErrandGuild_Kin_) (fun _ h9 => h9) rfl dX9_tellUncaught_94 ?_
                  refine va_get (D := (dC, dI)) (ci := 4) (v := va_rf (rA9 ad (K j_88 4))) (C := RX4) (T := TX4) (N := 9) hx hb hg gb_4 hown hK hP (50 + 16 * j_88 + 1) (hQ.b1 hj_88) rfl 7 (by decide) (hg _ gm_fieldLink_RX9_228_ErrandGuild_Kin_nextSibling_LErrandGuild_Run_) (fun _ h9 => h9) rfl dX9_tellUncaught_97 ?_
                  rcases eo_120 : K j_88 4 with _ | j_121
                  · refine W.eq (g2 := F0 m 100 ls [.null]) (by first | rfl | (rw [eo_120]; rfl)) ?_
                    refine lv_astoreN (lv' := [(4, .null), (3, .int 1), (2, .null), (0, .ref (ad 0)), (1, .ref (ad (50 + 16 * i)))]) hx hb dX9_tellUncaught_100 hl (by decide) rfl (fun ls hl => ?_)
                    refine lv_goto (tgt := 61) hx hb dX9_tellUncaught_102 (by decide) ?_
                    exact ih_77  none  ws_107 ga_98 gc_99 n_101 f_102 G_104 ce se H locs ls (by simp only [chM] at *; omega) (fun _ h => by cases h) (by show S9 M gc_99 + gc 1 ≤ S9 M gc + gc_99 1; omega) (by show (n_101 0).toInt = (n 0).toInt; omega) (by show (n 0).toInt ≤ (n_101 0).toInt; omega) hQ ⟨i1_110, i2_111, i3_112, i4_113, i5_114, i6_115, i7_116, i8_117, i9_118⟩ hr1 hr2 hP hD hS (lv_sub hl [0, 1, 2, 3, 4] rfl)
                  · refine W.eq (g2 := F0 m 100 ls [.ref (ad (50 + 16 * j_121))]) (by first | rfl | (rw [eo_120]; rfl)) ?_
                    have hj_121 : j_121 < M := i3_112 _ _ _ hj_88 eo_120
                    refine lv_astore (lv' := [(4, .ref (ad (50 + 16 * j_121))), (3, .int 1), (2, .null), (0, .ref (ad 0)), (1, .ref (ad (50 + 16 * i)))]) hx hb dX9_tellUncaught_100 hl (by decide) rfl (fun ls hl => ?_)
                    refine lv_goto (tgt := 61) hx hb dX9_tellUncaught_102 (by decide) ?_
                    exact ih_77  (some j_121)  ws_107 ga_98 gc_99 n_101 f_102 G_104 ce se H locs ls (by have := i4_113 _ _ hj_88 eo_120; simp only [chM] at *; omega) (fun _ h => by cases h; exact hj_121) (by show S9 M gc_99 + gc 1 ≤ S9 M gc + gc_99 1; omega) (by show (n_101 0).toInt = (n 0).toInt; omega) (by show (n 0).toInt ≤ (n_101 0).toInt; omega) hQ ⟨i1_110, i2_111, i3_112, i4_113, i5_114, i6_115, i7_116, i8_117, i9_118⟩ hr1 hr2 hP hD hS (lv_sub hl [0, 1, 2, 3, 4] rfl)
        exact L61 _  (some j_5)  ws ga gc n f G ce se _ _ _ (Nat.lt_succ_self _) (fun _ h => by cases h; exact hj_5) (by show S9 M gc + gc 1 ≤ S9 M gc + gc 1; omega) (by show (n 0).toInt = (n 0).toInt; omega) (by show (n 0).toInt ≤ (n 0).toInt; omega) hQ ⟨h_i1, h_i2, h_i3, h_i4, h_i5, h_i6, h_i7, h_i8, h_i9⟩ hr1 hr2 hP hD hS (lv_sub hl [0, 1, 2, 3, 4] rfl)
    · simp only [i_lt, i_le, i_eq, ti_4] at c_3
      refine lv_iload_n hx hb dX9_tellUncaught_43 rfl (lv_at hl 0 rfl) ?_
      refine lv_if_eq (tgt := 52) hx hb dX9_tellUncaught_44 (by decide) (fun c_122 => absurd c_122 (by decide)) (fun _ => ?_)
      refine lv_aload_n hx hb dX9_tellUncaught_47 rfl (lv_at hl 2 rfl) ?_
      refine lv_aload_n hx hb dX9_tellUncaught_48 rfl (lv_at hl 3 rfl) ?_
      have hFc := free_all hD hS hA
      refine W_msr2 (fun hm1 hm2 hm3 => ?_)
      refine va_callv (va_runV (As := [.ref (ad (50 + 16 * i))]) (rest := []) ⟨hx, hb, hml, hown, hg⟩ (c_X9_askHandlers l dC dI kc ws ad ga gc M n f T G K F R i s.heap.size (hpS s.heap) hQ ⟨h_i1, h_i2, h_i3, h_i4, h_i5, h_i6, h_i7, h_i8, h_i9⟩ (by show i < M; omega) (by show R ≤ 310000; omega)) (cwV 1 hg (gw_V gm_methodLink_RX9_388_yX9_askHandlers gm_instanceMethod_yX9_askHandlers gm_selects_RX9_yX9_askHandlers_yX9_askHandlers gm_initialized_RX9 gm_code_yX9_askHandlers_cX9_askHandlers_7_none) rfl rfl rfl (by decide +kernel) ⟨Nat.le_of_ble_eq_true rfl, Nat.le_of_ble_eq_true rfl⟩) ⟨fun a U g mk q => by obtain ⟨q0, q1, q2, qP, qK, qD, qN⟩ := q; exact ⟨q0, q1, q2, qP, va_K.moved (u := U) (U := U.calling g mk a) (Vm.Alike.refl U.vm) qK, qD, nx_same (u := U) (U := U.calling g mk a) rfl qN⟩, va_recv hK hP (ci := 9) (q0 := 0) rfl hQ.x0, fun U hU hW => ⟨rfl, by rw [hU], by rw [hU], by rw [hU]; exact hP, va_K.moved hW.alike hK, hD.weaken (fun _ _ _ _ => trivial), nx_warm hW hN⟩⟩ rfl rfl hl.1 rfl (lv_room (Nat.le_of_ble_eq_true rfl)) dX9_tellUncaught_49 ⟨by show ce + 1200 ≤ 1800; omega, by show se + 50000 ≤ 67000; omega⟩) hS (fun q _ h => hFc q h) hFc (fun u_124 t H1 locs ht hvm hw hB hz1 hk1 hS => ?_)
      obtain ⟨ad_125, ga_126, gc_127, M_128, n_129, f_130, T_131, G_132, K_133, F_134⟩ := u_124
      have hB : ∃ w : va_W, va_P (dC, dI) vwCl w t.heap ∧ va_D (va_A ws s.heap.size) w ∧ Pic9 kc w ad ga_126 gc_127 M n_129 f_130 T G_132 K F ∧ I9 M n_129 T gc_127 G_132 K R ∧ hpS t.heap + (260 * M + 2 * S9 M gc) ≤ hpS s.heap + (260 * M + 2 * S9 M gc_127) ∧ 16 * t.heap.size + (256 * M + S9 M gc) ≤ 16 * s.heap.size + (256 * M + S9 M gc_127) ∧ (n 0).toInt ≤ (n_129 0).toInt := hB
      rw [ht] at hB
      obtain ⟨ws_135, hP, hD, hQ, hI_137, hy1, hy2, hn_136⟩ := hB
      have hD := hD.weaken (fun k q _ h => hFc _ h)
      obtain ⟨i1_138, i2_139, i3_140, i4_141, i5_142, i6_143, i7_144, i8_145, i9_146⟩ := id hI_137
      have q1_ := i1_138
      unfold i1 at q1_
      have hSl := S9_le i8_145 i9_146
      have hb0_ := i8_145.2.1 0 (by omega)
      have hb1_ := i8_145.2.1 1 (by omega)
      have hb2_ := i8_145.2.1 2 (by omega)
      refine W_msr2 (fun hn1 hn2 hn3 => ?_)
      obtain ⟨ce2, se2, hk3, hk4, hr1, hr2⟩ : ∃ c2 s2 : Nat, H1.size ≤ s.heap.size + c2 ∧ hpS H1 ≤ hpS s.heap + s2 ∧ s2 + (260 * M + 2 * S9 M gc) ≤ (260 * M + 2 * S9 M gc_127) ∧ 16 * c2 + (256 * M + S9 M gc) ≤ (256 * M + S9 M gc_127) := ⟨H1.size - s.heap.size, hpS H1 - hpS s.heap, by omega, by omega, by have := hS.1; omega, by have := hS.1; omega⟩
      refine W_tightP hk3 hk4 ?_
      clear hm1 hm2 hm3 hn1 hn2 hn3 hk3 hk4
      clear hk1 hz1
      generalize ce2 = ce, se2 = se at hr1 hr2 ⊢
      generalize H1 = H at hP hS ⊢
      have w_147 : S9 M gc_127 + gc 1 ≤ S9 M gc + gc_127 1 ∧ (n_129 0).toInt = (n 0).toInt := hw
      refine lv_aload_n hx hb dX9_tellUncaught_52 rfl (lv_at hl 3 rfl) ?_
      refine va_get (D := (dC, dI)) (ci := 7) (v := .ref (ad (50 + 16 * i + 1))) (C := RX7) (T := TX7) (N := 15) hx hb hg gb_7 hown hK hP (50 + 16 * i) (hQ.b0 hi) rfl 10 (by decide) (hg _ gm_fieldLink_RX9_151_ErrandGuild_Run_kin_LErrandGuild_Kin_) (fun _ h9 => h9) rfl dX9_tellUncaught_53 ?_
      refine va_get (D := (dC, dI)) (ci := 4) (v := va_rf (rA9 ad (K i 2))) (C := RX4) (T := TX4) (N := 9) hx hb hg gb_4 hown hK hP (50 + 16 * i + 1) (hQ.b1 hi) rfl 5 (by decide) (hg _ gm_fieldLink_RX9_225_ErrandGuild_Kin_firstChild_LErrandGuild_Run_) (fun _ h9 => h9) rfl dX9_tellUncaught_56 ?_
      rcases eo_148 : K i 2 with _ | j_149
      · refine W.eq (g2 := F0 m 59 ls [.null]) (by first | rfl | (rw [eo_148]; rfl)) ?_
        refine lv_astoreN (lv' := [(4, .null), (3, .int 1), (2, .null), (0, .ref (ad 0)), (1, .ref (ad (50 + 16 * i)))]) hx hb dX9_tellUncaught_59 hl (by decide) rfl (fun ls hl => ?_)
        have L61 : ∀ (fuel : Nat)  (o_150 : Option Nat)  (ws_156 : va_W) (ga_151 : Nat → Nat) (gc_152 : Nat → Nat) (n_153 : Nat → Int32) (f_154 : Nat → Nat → Int32) (G_155 : Nat → Nat → Int32) (ce se : Nat) (H : Heap) (locs : List Loc) (ls : Array Slot), chM M o_150 < fuel → (∀ j : Nat, o_150 = some j → j < M) → (S9 M gc_152 + gc 1 ≤ S9 M gc + gc_152 1) → ((n_153 0).toInt = (n 0).toInt) → ((n 0).toInt ≤ (n_153 0).toInt) → Pic9 kc ws_156 ad ga_151 gc_152 M n_153 f_154 T G_155 K F → I9 M n_153 T gc_152 G_155 K R → (se + (260 * M + 2 * S9 M gc) ≤ (260 * M + 2 * S9 M gc_152)) → (16 * ce + (256 * M + S9 M gc) ≤ (256 * M + S9 M gc_152)) → va_P (dC, dI) vwCl ws_156 H → va_D A ws_156 → va_S A s.heap H locs → lv_has ls 5 [(4, va_rf (rA9 ad o_150)), (3, .int 1), (2, .null), (0, .ref (ad 0)), (1, .ref (ad (50 + 16 * i)))] → W p l e (headSpec (.code yX9_tellUncaught cX9_tellUncaught 5 none :: gw) ({ frames := 4, cells := 1800, slots := 67000, locals := 152 })).room s m ([.ref (ad 0), .ref (ad (50 + 16 * i))] : List Value).toArray below meth c H locs ce se (MQ below (va_Qv (fun (u : (Nat → Nat) × (Nat → Nat) × (Nat → Nat) × Nat × (Nat → Int32) × (Nat → Nat → Int32) × (Nat → Option Nat) × (Nat → Nat → Int32) × (Nat → Nat → Option Nat) × (Nat → Nat → Nat → Int32)) => S9 M u.2.2.1 + gc 1 ≤ S9 M gc + u.2.2.1 1 ∧ (u.2.2.2.2.1 0).toInt = (n 0).toInt) (fun u t => ∃ w : va_W, va_P (dC, dI) vwCl w t.heap ∧ va_D A w ∧ Pic9 kc w ad u.2.1 u.2.2.1 M u.2.2.2.2.1 u.2.2.2.2.2.1 T u.2.2.2.2.2.2.2.1 K F ∧ I9 M u.2.2.2.2.1 T u.2.2.1 u.2.2.2.2.2.2.2.1 K R ∧ hpS t.heap + (260 * M + 2 * S9 M gc) ≤ (hpS s.heap) + (260 * M + 2 * S9 M u.2.2.1) ∧ 16 * t.heap.size + (256 * M + S9 M gc) ≤ 16 * s.heap.size + (256 * M + S9 M u.2.2.1) ∧ (n 0).toInt ≤ (u.2.2.2.2.1 0).toInt) A) ([.ref (ad 0), .ref (ad (50 + 16 * i))] : List Value).toArray s 1800 67000 A) (F0 m 61 ls []) := by
          intro fuel
          induction fuel with
          | zero => intro o_150 ws_156 ga_151 gc_152 n_153 f_154 G_155 ce se H locs ls hm; exact absurd hm (Nat.not_lt_zero _)
          | succ fuel_164 ih_163 =>
            intro o_150 ws_156 ga_151 gc_152 n_153 f_154 G_155 ce se H locs ls hm_157 v_158 v_159 v_160 v_161 hQ hI_162 hr1 hr2 hP hD hS hl
            obtain ⟨i1_165, i2_166, i3_167, i4_168, i5_169, i6_170, i7_171, i8_172, i9_173⟩ := id hI_162
            have q1_ := i1_165
            unfold i1 at q1_
            have hSl := S9_le i8_172 i9_173
            have hb0_ := i8_172.2.1 0 (by omega)
            have hb1_ := i8_172.2.1 1 (by omega)
            have hb2_ := i8_172.2.1 2 (by omega)
            rcases o_150 with _ | j_174
            · have hl : lv_has ls 5 [(4, .null), (3, .int 1), (2, .null), (0, .ref (ad 0)), (1, .ref (ad (50 + 16 * i)))] := hl
              refine lv_aloadN hx hb dX9_tellUncaught_61 (lv_at hl 0 rfl) ?_
              refine lv_ifnullN (tgt := 105) hx hb dX9_tellUncaught_63 (by decide) ?_
              refine W_msr2 (fun hm1 hm2 hm3 => ?_)
              have hSl := S9_le i8_172 i9_173
              have hb0_ := i8_172.2.1 0 (by omega)
              have hb1_ := i8_172.2.1 1 (by omega)
              have hb2_ := i8_172.2.1 2 (by omega)
              refine W.widen (k := 1800) (n := 67000) (by omega) (by omega) ?_
              exact W.vret hx hb hr (fun t ht hW => ⟨⟨(ad, ga_151, gc_152, M, n_153, f_154, T, G_155, K, F), rfl, (by show S9 M gc_152 + gc 1 ≤ S9 M gc + gc_152 1 ∧ (n_153 0).toInt = (n 0).toInt; omega), ws_156, by rw [ht]; exact hP, hD, hQ, ⟨i1_165, i2_166, i3_167, i4_168, i5_169, i6_170, i7_171, i8_172, i9_173⟩, by rw [ht]; show hpS H + (260 * M + 2 * S9 M gc) ≤ hpS s.heap + (260 * M + 2 * S9 M gc_152); omega, by rw [ht]; show 16 * H.size + (256 * M + S9 M gc) ≤ 16 * s.heap.size + (256 * M + S9 M gc_152); omega, by show (n 0).toInt ≤ (n_153 0).toInt; omega⟩, hS.F ht⟩) hS.2.2 dX9_tellUncaught_105
            · have hl : lv_has ls 5 [(4, .ref (ad (50 + 16 * j_174))), (3, .int 1), (2, .null), (0, .ref (ad 0)), (1, .ref (ad (50 + 16 * i)))] := hl
              have hj_174 : j_174 < M := v_158 _ rfl
              refine lv_aload hx hb dX9_tellUncaught_61 (lv_at hl 0 rfl) ?_
              refine lv_ifnull hx hb dX9_tellUncaught_63 ?_
              refine lv_aload hx hb dX9_tellUncaught_66 (lv_at hl 0 rfl) ?_
              refine va_get (D := (dC, dI)) (ci := 7) (v := .int (G_155 j_174 2)) (C := RX7) (T := TX7) (N := 15) hx hb hg gb_7 hown hK hP (50 + 16 * j_174) (hQ.b0 hj_174) rfl 2 (by decide) (hg _ gm_fieldLink_RX9_145_ErrandGuild_Run_state_I_) (fun _ h9 => h9) rfl dX9_tellUncaught_68 ?_
              refine lv_iconst (v := 4) hx hb dX9_tellUncaught_71 (by decide) ?_
              refine lv_icmp_ne (tgt := 92) hx hb dX9_tellUncaught_72 (by decide) (fun c_175 => ?_) (fun c_175 => ?_)
              · simp only [i_lt, i_le, i_eq, ti_4] at c_175
                refine lv_aload hx hb dX9_tellUncaught_92 (lv_at hl 0 rfl) ?_
                refine va_get (D := (dC, dI)) (ci := 7) (v := .ref (ad (50 + 16 * j_174 + 1))) (C := RX7) (T := TX7) (N := 15) hx hb hg gb_7 hown hK hP (50 + 16 * j_174) (hQ.b0 hj_174) rfl 10 (by decide) (hg _ gm_fieldLink_RX9_151_ErrandGuild_Run_kin_LErrandGuild_Kin_) (fun _ h9 => h9) rfl dX9_tellUncaught_94 ?_
                refine va_get (D := (dC, dI)) (ci := 4) (v := va_rf (rA9 ad (K j_174 4))) (C := RX4) (T := TX4) (N := 9) hx hb hg gb_4 hown hK hP (50 + 16 * j_174 + 1) (hQ.b1 hj_174) rfl 7 (by decide) (hg _ gm_fieldLink_RX9_228_ErrandGuild_Kin_nextSibling_LErrandGuild_Run_) (fun _ h9 => h9) rfl dX9_tellUncaught_97 ?_
                rcases eo_176 : K j_174 4 with _ | j_177
                · refine W.eq (g2 := F0 m 100 ls [.null]) (by first | rfl | (rw [eo_176]; rfl)) ?_
                  refine lv_astoreN (lv' := [(4, .null), (3, .int 1), (2, .null), (0, .ref (ad 0)), (1, .ref (ad (50 + 16 * i)))]) hx hb dX9_tellUncaught_100 hl (by decide) rfl (fun ls hl => ?_)
                  refine lv_goto (tgt := 61) hx hb dX9_tellUncaught_102 (by decide) ?_
                  exact ih_163  none  ws_156 ga_151 gc_152 n_153 f_154 G_155 ce se H locs ls (by simp only [chM] at *; omega) (fun _ h => by cases h) (by show S9 M gc_152 + gc 1 ≤ S9 M gc + gc_152 1; omega) (by show (n_153 0).toInt = (n 0).toInt; omega) (by show (n 0).toInt ≤ (n_153 0).toInt; omega) hQ ⟨i1_165, i2_166, i3_167, i4_168, i5_169, i6_170, i7_171, i8_172, i9_173⟩ hr1 hr2 hP hD hS (lv_sub hl [0, 1, 2, 3, 4] rfl)
                · refine W.eq (g2 := F0 m 100 ls [.ref (ad (50 + 16 * j_177))]) (by first | rfl | (rw [eo_176]; rfl)) ?_
                  have hj_177 : j_177 < M := i3_167 _ _ _ hj_174 eo_176
                  refine lv_astore (lv' := [(4, .ref (ad (50 + 16 * j_177))), (3, .int 1), (2, .null), (0, .ref (ad 0)), (1, .ref (ad (50 + 16 * i)))]) hx hb dX9_tellUncaught_100 hl (by decide) rfl (fun ls hl => ?_)
                  refine lv_goto (tgt := 61) hx hb dX9_tellUncaught_102 (by decide) ?_
                  exact ih_163  (some j_177)  ws_156 ga_151 gc_152 n_153 f_154 G_155 ce se H locs ls (by have := i4_168 _ _ hj_174 eo_176; simp only [chM] at *; omega) (fun _ h => by cases h; exact hj_177) (by show S9 M gc_152 + gc 1 ≤ S9 M gc + gc_152 1; omega) (by show (n_153 0).toInt = (n 0).toInt; omega) (by show (n 0).toInt ≤ (n_153 0).toInt; omega) hQ ⟨i1_165, i2_166, i3_167, i4_168, i5_169, i6_170, i7_171, i8_172, i9_173⟩ hr1 hr2 hP hD hS (lv_sub hl [0, 1, 2, 3, 4] rfl)
              · simp only [i_lt, i_le, i_eq, ti_4] at c_175
                refine lv_aload hx hb dX9_tellUncaught_75 (lv_at hl 0 rfl) ?_
                refine va_get (D := (dC, dI)) (ci := 7) (v := .ref (ad (50 + 16 * j_174 + 1))) (C := RX7) (T := TX7) (N := 15) hx hb hg gb_7 hown hK hP (50 + 16 * j_174) (hQ.b0 hj_174) rfl 10 (by decide) (hg _ gm_fieldLink_RX9_151_ErrandGuild_Run_kin_LErrandGuild_Kin_) (fun _ h9 => h9) rfl dX9_tellUncaught_77 ?_
                refine va_get (D := (dC, dI)) (ci := 4) (v := .int (G_155 j_174 12)) (C := RX4) (T := TX4) (N := 9) hx hb hg gb_4 hown hK hP (50 + 16 * j_174 + 1) (hQ.b1 hj_174) rfl 4 (by decide) (hg _ gm_fieldLink_RX9_379_ErrandGuild_Kin_claim_I_) (fun _ h9 => h9) rfl dX9_tellUncaught_80 ?_
                refine lv_if_ne (tgt := 92) hx hb dX9_tellUncaught_83 (by decide) (fun c_178 => ?_) (fun c_178 => ?_)
                · simp only [i_lt, i_le, i_eq, ti_0] at c_178
                  refine lv_aload hx hb dX9_tellUncaught_92 (lv_at hl 0 rfl) ?_
                  refine va_get (D := (dC, dI)) (ci := 7) (v := .ref (ad (50 + 16 * j_174 + 1))) (C := RX7) (T := TX7) (N := 15) hx hb hg gb_7 hown hK hP (50 + 16 * j_174) (hQ.b0 hj_174) rfl 10 (by decide) (hg _ gm_fieldLink_RX9_151_ErrandGuild_Run_kin_LErrandGuild_Kin_) (fun _ h9 => h9) rfl dX9_tellUncaught_94 ?_
                  refine va_get (D := (dC, dI)) (ci := 4) (v := va_rf (rA9 ad (K j_174 4))) (C := RX4) (T := TX4) (N := 9) hx hb hg gb_4 hown hK hP (50 + 16 * j_174 + 1) (hQ.b1 hj_174) rfl 7 (by decide) (hg _ gm_fieldLink_RX9_228_ErrandGuild_Kin_nextSibling_LErrandGuild_Run_) (fun _ h9 => h9) rfl dX9_tellUncaught_97 ?_
                  rcases eo_179 : K j_174 4 with _ | j_180
                  · refine W.eq (g2 := F0 m 100 ls [.null]) (by first | rfl | (rw [eo_179]; rfl)) ?_
                    refine lv_astoreN (lv' := [(4, .null), (3, .int 1), (2, .null), (0, .ref (ad 0)), (1, .ref (ad (50 + 16 * i)))]) hx hb dX9_tellUncaught_100 hl (by decide) rfl (fun ls hl => ?_)
                    refine lv_goto (tgt := 61) hx hb dX9_tellUncaught_102 (by decide) ?_
                    exact ih_163  none  ws_156 ga_151 gc_152 n_153 f_154 G_155 ce se H locs ls (by simp only [chM] at *; omega) (fun _ h => by cases h) (by show S9 M gc_152 + gc 1 ≤ S9 M gc + gc_152 1; omega) (by show (n_153 0).toInt = (n 0).toInt; omega) (by show (n 0).toInt ≤ (n_153 0).toInt; omega) hQ ⟨i1_165, i2_166, i3_167, i4_168, i5_169, i6_170, i7_171, i8_172, i9_173⟩ hr1 hr2 hP hD hS (lv_sub hl [0, 1, 2, 3, 4] rfl)
                  · refine W.eq (g2 := F0 m 100 ls [.ref (ad (50 + 16 * j_180))]) (by first | rfl | (rw [eo_179]; rfl)) ?_
                    have hj_180 : j_180 < M := i3_167 _ _ _ hj_174 eo_179
                    refine lv_astore (lv' := [(4, .ref (ad (50 + 16 * j_180))), (3, .int 1), (2, .null), (0, .ref (ad 0)), (1, .ref (ad (50 + 16 * i)))]) hx hb dX9_tellUncaught_100 hl (by decide) rfl (fun ls hl => ?_)
                    refine lv_goto (tgt := 61) hx hb dX9_tellUncaught_102 (by decide) ?_
                    exact ih_163  (some j_180)  ws_156 ga_151 gc_152 n_153 f_154 G_155 ce se H locs ls (by have := i4_168 _ _ hj_174 eo_179; simp only [chM] at *; omega) (fun _ h => by cases h; exact hj_180) (by show S9 M gc_152 + gc 1 ≤ S9 M gc + gc_152 1; omega) (by show (n_153 0).toInt = (n 0).toInt; omega) (by show (n 0).toInt ≤ (n_153 0).toInt; omega) hQ ⟨i1_165, i2_166, i3_167, i4_168, i5_169, i6_170, i7_171, i8_172, i9_173⟩ hr1 hr2 hP hD hS (lv_sub hl [0, 1, 2, 3, 4] rfl)
                · simp only [i_lt, i_le, i_eq, ti_0] at c_178
                  refine lv_aload_n hx hb dX9_tellUncaught_86 rfl (lv_at hl 3 rfl) ?_
                  refine lv_aload hx hb dX9_tellUncaught_87 (lv_at hl 0 rfl) ?_
                  have hFc := free_all hD hS hA
                  refine W_msr2 (fun hm1 hm2 hm3 => ?_)
                  refine va_callv (va_runV (As := [.ref (ad (50 + 16 * j_174))]) (rest := []) ⟨hx, hb, hml, hown, hg⟩ (c_X9_askHandlers l dC dI kc ws_156 ad ga_151 gc_152 M n_153 f_154 T G_155 K F R j_174 H.size (hpS H) hQ ⟨i1_165, i2_166, i3_167, i4_168, i5_169, i6_170, i7_171, i8_172, i9_173⟩ (by show j_174 < M; omega) (by show R ≤ 310000; omega)) (cwV 1 hg (gw_V gm_methodLink_RX9_388_yX9_askHandlers gm_instanceMethod_yX9_askHandlers gm_selects_RX9_yX9_askHandlers_yX9_askHandlers gm_initialized_RX9 gm_code_yX9_askHandlers_cX9_askHandlers_7_none) rfl rfl rfl (by decide +kernel) ⟨Nat.le_of_ble_eq_true rfl, Nat.le_of_ble_eq_true rfl⟩) ⟨fun a U g mk q => by obtain ⟨q0, q1, q2, qP, qK, qD, qN⟩ := q; exact ⟨q0, q1, q2, qP, va_K.moved (u := U) (U := U.calling g mk a) (Vm.Alike.refl U.vm) qK, qD, nx_same (u := U) (U := U.calling g mk a) rfl qN⟩, va_recv hK hP (ci := 9) (q0 := 0) rfl hQ.x0, fun U hU hW => ⟨rfl, by rw [hU], by rw [hU], by rw [hU]; exact hP, va_K.moved hW.alike hK, hD.weaken (fun _ _ _ _ => trivial), nx_warm hW hN⟩⟩ rfl rfl hl.1 rfl (lv_room (Nat.le_of_ble_eq_true rfl)) dX9_tellUncaught_89 ⟨by show ce + 1200 ≤ 1800; omega, by show se + 50000 ≤ 67000; omega⟩) hS (fun q _ h => hFc q h) hFc (fun u_182 t H1 locs ht hvm hw hB hz1 hk1 hS => ?_)
                  obtain ⟨ad_183, ga_184, gc_185, M_186, n_187, f_188, T_189, G_190, K_191, F_192⟩ := u_182
                  have hB : ∃ w : va_W, va_P (dC, dI) vwCl w t.heap ∧ va_D (va_A ws_156 H.size) w ∧ Pic9 kc w ad ga_184 gc_185 M n_187 f_188 T G_190 K F ∧ I9 M n_187 T gc_185 G_190 K R ∧ hpS t.heap + (260 * M + 2 * S9 M gc_152) ≤ hpS H + (260 * M + 2 * S9 M gc_185) ∧ 16 * t.heap.size + (256 * M + S9 M gc_152) ≤ 16 * H.size + (256 * M + S9 M gc_185) ∧ (n_153 0).toInt ≤ (n_187 0).toInt := hB
                  rw [ht] at hB
                  obtain ⟨ws_193, hP, hD, hQ, hI_195, hy1, hy2, hn_194⟩ := hB
                  have hD := hD.weaken (fun k q _ h => hFc _ h)
                  obtain ⟨i1_196, i2_197, i3_198, i4_199, i5_200, i6_201, i7_202, i8_203, i9_204⟩ := id hI_195
                  have q1_ := i1_196
                  unfold i1 at q1_
                  have hSl := S9_le i8_203 i9_204
                  have hb0_ := i8_203.2.1 0 (by omega)
                  have hb1_ := i8_203.2.1 1 (by omega)
                  have hb2_ := i8_203.2.1 2 (by omega)
                  refine W_msr2 (fun hn1 hn2 hn3 => ?_)
                  obtain ⟨ce2, se2, hk3, hk4, hr1, hr2⟩ : ∃ c2 s2 : Nat, H1.size ≤ s.heap.size + c2 ∧ hpS H1 ≤ hpS s.heap + s2 ∧ s2 + (260 * M + 2 * S9 M gc) ≤ (260 * M + 2 * S9 M gc_185) ∧ 16 * c2 + (256 * M + S9 M gc) ≤ (256 * M + S9 M gc_185) := ⟨H1.size - s.heap.size, hpS H1 - hpS s.heap, by omega, by omega, by have := hS.1; omega, by have := hS.1; omega⟩
                  refine W_tightP hk3 hk4 ?_
                  clear hm1 hm2 hm3 hn1 hn2 hn3 hk3 hk4
                  clear hk1 hz1
                  generalize ce2 = ce, se2 = se at hr1 hr2 ⊢
                  generalize H1 = H at hP hS ⊢
                  have w_205 : S9 M gc_185 + gc_152 1 ≤ S9 M gc_152 + gc_185 1 ∧ (n_187 0).toInt = (n_153 0).toInt := hw
                  refine lv_aload hx hb dX9_tellUncaught_92 (lv_at hl 0 rfl) ?_
                  refine va_get (D := (dC, dI)) (ci := 7) (v := .ref (ad (50 + 16 * j_174 + 1))) (C := RX7) (T := TX7) (N := 15) hx hb hg gb_7 hown hK hP (50 + 16 * j_174) (hQ.b0 hj_174) rfl 10 (by decide) (hg _ gm_fieldLink_RX9_151_ErrandGuild_Run_kin_LErrandGuild_Kin_) (fun _ h9 => h9) rfl dX9_tellUncaught_94 ?_
                  refine va_get (D := (dC, dI)) (ci := 4) (v := va_rf (rA9 ad (K j_174 4))) (C := RX4) (T := TX4) (N := 9) hx hb hg gb_4 hown hK hP (50 + 16 * j_174 + 1) (hQ.b1 hj_174) rfl 7 (by decide) (hg _ gm_fieldLink_RX9_228_ErrandGuild_Kin_nextSibling_LErrandGuild_Run_) (fun _ h9 => h9) rfl dX9_tellUncaught_97 ?_
                  rcases eo_206 : K j_174 4 with _ | j_207
                  · refine W.eq (g2 := F0 m 100 ls [.null]) (by first | rfl | (rw [eo_206]; rfl)) ?_
                    refine lv_astoreN (lv' := [(4, .null), (3, .int 1), (2, .null), (0, .ref (ad 0)), (1, .ref (ad (50 + 16 * i)))]) hx hb dX9_tellUncaught_100 hl (by decide) rfl (fun ls hl => ?_)
                    refine lv_goto (tgt := 61) hx hb dX9_tellUncaught_102 (by decide) ?_
                    exact ih_163  none  ws_193 ga_184 gc_185 n_187 f_188 G_190 ce se H locs ls (by simp only [chM] at *; omega) (fun _ h => by cases h) (by show S9 M gc_185 + gc 1 ≤ S9 M gc + gc_185 1; omega) (by show (n_187 0).toInt = (n 0).toInt; omega) (by show (n 0).toInt ≤ (n_187 0).toInt; omega) hQ ⟨i1_196, i2_197, i3_198, i4_199, i5_200, i6_201, i7_202, i8_203, i9_204⟩ hr1 hr2 hP hD hS (lv_sub hl [0, 1, 2, 3, 4] rfl)
                  · refine W.eq (g2 := F0 m 100 ls [.ref (ad (50 + 16 * j_207))]) (by first | rfl | (rw [eo_206]; rfl)) ?_
                    have hj_207 : j_207 < M := i3_198 _ _ _ hj_174 eo_206
                    refine lv_astore (lv' := [(4, .ref (ad (50 + 16 * j_207))), (3, .int 1), (2, .null), (0, .ref (ad 0)), (1, .ref (ad (50 + 16 * i)))]) hx hb dX9_tellUncaught_100 hl (by decide) rfl (fun ls hl => ?_)
                    refine lv_goto (tgt := 61) hx hb dX9_tellUncaught_102 (by decide) ?_
                    exact ih_163  (some j_207)  ws_193 ga_184 gc_185 n_187 f_188 G_190 ce se H locs ls (by have := i4_199 _ _ hj_174 eo_206; simp only [chM] at *; omega) (fun _ h => by cases h; exact hj_207) (by show S9 M gc_185 + gc 1 ≤ S9 M gc + gc_185 1; omega) (by show (n_187 0).toInt = (n 0).toInt; omega) (by show (n 0).toInt ≤ (n_187 0).toInt; omega) hQ ⟨i1_196, i2_197, i3_198, i4_199, i5_200, i6_201, i7_202, i8_203, i9_204⟩ hr1 hr2 hP hD hS (lv_sub hl [0, 1, 2, 3, 4] rfl)
        exact L61 _  none  ws_135 ga_126 gc_127 n_129 f_130 G_132 ce se _ _ _ (Nat.lt_succ_self _) (fun _ h => by cases h) (by show S9 M gc_127 + gc 1 ≤ S9 M gc + gc_127 1; omega) (by show (n_129 0).toInt = (n 0).toInt; omega) (by show (n 0).toInt ≤ (n_129 0).toInt; omega) hQ ⟨i1_138, i2_139, i3_140, i4_141, i5_142, i6_143, i7_144, i8_145, i9_146⟩ hr1 hr2 hP hD hS (lv_sub hl [0, 1, 2, 3, 4] rfl)
      · refine W.eq (g2 := F0 m 59 ls [.ref (ad (50 + 16 * j_149))]) (by first | rfl | (rw [eo_148]; rfl)) ?_
        have hj_149 : j_149 < M := i3_140 _ _ _ hi eo_148
        refine lv_astore (lv' := [(4, .ref (ad (50 + 16 * j_149))), (3, .int 1), (2, .null), (0, .ref (ad 0)), (1, .ref (ad (50 + 16 * i)))]) hx hb dX9_tellUncaught_59 hl (by decide) rfl (fun ls hl => ?_)
        have L61 : ∀ (fuel : Nat)  (o_208 : Option Nat)  (ws_214 : va_W) (ga_209 : Nat → Nat) (gc_210 : Nat → Nat) (n_211 : Nat → Int32) (f_212 : Nat → Nat → Int32) (G_213 : Nat → Nat → Int32) (ce se : Nat) (H : Heap) (locs : List Loc) (ls : Array Slot), chM M o_208 < fuel → (∀ j : Nat, o_208 = some j → j < M) → (S9 M gc_210 + gc 1 ≤ S9 M gc + gc_210 1) → ((n_211 0).toInt = (n 0).toInt) → ((n 0).toInt ≤ (n_211 0).toInt) → Pic9 kc ws_214 ad ga_209 gc_210 M n_211 f_212 T G_213 K F → I9 M n_211 T gc_210 G_213 K R → (se + (260 * M + 2 * S9 M gc) ≤ (260 * M + 2 * S9 M gc_210)) → (16 * ce + (256 * M + S9 M gc) ≤ (256 * M + S9 M gc_210)) → va_P (dC, dI) vwCl ws_214 H → va_D A ws_214 → va_S A s.heap H locs → lv_has ls 5 [(4, va_rf (rA9 ad o_208)), (3, .int 1), (2, .null), (0, .ref (ad 0)), (1, .ref (ad (50 + 16 * i)))] → W p l e (headSpec (.code yX9_tellUncaught cX9_tellUncaught 5 none :: gw) ({ frames := 4, cells := 1800, slots := 67000, locals := 152 })).room s m ([.ref (ad 0), .ref (ad (50 + 16 * i))] : List Value).toArray below meth c H locs ce se (MQ below (va_Qv (fun (u : (Nat → Nat) × (Nat → Nat) × (Nat → Nat) × Nat × (Nat → Int32) × (Nat → Nat → Int32) × (Nat → Option Nat) × (Nat → Nat → Int32) × (Nat → Nat → Option Nat) × (Nat → Nat → Nat → Int32)) => S9 M u.2.2.1 + gc 1 ≤ S9 M gc + u.2.2.1 1 ∧ (u.2.2.2.2.1 0).toInt = (n 0).toInt) (fun u t => ∃ w : va_W, va_P (dC, dI) vwCl w t.heap ∧ va_D A w ∧ Pic9 kc w ad u.2.1 u.2.2.1 M u.2.2.2.2.1 u.2.2.2.2.2.1 T u.2.2.2.2.2.2.2.1 K F ∧ I9 M u.2.2.2.2.1 T u.2.2.1 u.2.2.2.2.2.2.2.1 K R ∧ hpS t.heap + (260 * M + 2 * S9 M gc) ≤ (hpS s.heap) + (260 * M + 2 * S9 M u.2.2.1) ∧ 16 * t.heap.size + (256 * M + S9 M gc) ≤ 16 * s.heap.size + (256 * M + S9 M u.2.2.1) ∧ (n 0).toInt ≤ (u.2.2.2.2.1 0).toInt) A) ([.ref (ad 0), .ref (ad (50 + 16 * i))] : List Value).toArray s 1800 67000 A) (F0 m 61 ls []) := by
          intro fuel
          induction fuel with
          | zero => intro o_208 ws_214 ga_209 gc_210 n_211 f_212 G_213 ce se H locs ls hm; exact absurd hm (Nat.not_lt_zero _)
          | succ fuel_222 ih_221 =>
            intro o_208 ws_214 ga_209 gc_210 n_211 f_212 G_213 ce se H locs ls hm_215 v_216 v_217 v_218 v_219 hQ hI_220 hr1 hr2 hP hD hS hl
            obtain ⟨i1_223, i2_224, i3_225, i4_226, i5_227, i6_228, i7_229, i8_230, i9_231⟩ := id hI_220
            have q1_ := i1_223
            unfold i1 at q1_
            have hSl := S9_le i8_230 i9_231
            have hb0_ := i8_230.2.1 0 (by omega)
            have hb1_ := i8_230.2.1 1 (by omega)
            have hb2_ := i8_230.2.1 2 (by omega)
            rcases o_208 with _ | j_232
            · have hl : lv_has ls 5 [(4, .null), (3, .int 1), (2, .null), (0, .ref (ad 0)), (1, .ref (ad (50 + 16 * i)))] := hl
              refine lv_aloadN hx hb dX9_tellUncaught_61 (lv_at hl 0 rfl) ?_
              refine lv_ifnullN (tgt := 105) hx hb dX9_tellUncaught_63 (by decide) ?_
              refine W_msr2 (fun hm1 hm2 hm3 => ?_)
              have hSl := S9_le i8_230 i9_231
              have hb0_ := i8_230.2.1 0 (by omega)
              have hb1_ := i8_230.2.1 1 (by omega)
              have hb2_ := i8_230.2.1 2 (by omega)
              refine W.widen (k := 1800) (n := 67000) (by omega) (by omega) ?_
              exact W.vret hx hb hr (fun t ht hW => ⟨⟨(ad, ga_209, gc_210, M, n_211, f_212, T, G_213, K, F), rfl, (by show S9 M gc_210 + gc 1 ≤ S9 M gc + gc_210 1 ∧ (n_211 0).toInt = (n 0).toInt; omega), ws_214, by rw [ht]; exact hP, hD, hQ, ⟨i1_223, i2_224, i3_225, i4_226, i5_227, i6_228, i7_229, i8_230, i9_231⟩, by rw [ht]; show hpS H + (260 * M + 2 * S9 M gc) ≤ hpS s.heap + (260 * M + 2 * S9 M gc_210); omega, by rw [ht]; show 16 * H.size + (256 * M + S9 M gc) ≤ 16 * s.heap.size + (256 * M + S9 M gc_210); omega, by show (n 0).toInt ≤ (n_211 0).toInt; omega⟩, hS.F ht⟩) hS.2.2 dX9_tellUncaught_105
            · have hl : lv_has ls 5 [(4, .ref (ad (50 + 16 * j_232))), (3, .int 1), (2, .null), (0, .ref (ad 0)), (1, .ref (ad (50 + 16 * i)))] := hl
              have hj_232 : j_232 < M := v_216 _ rfl
              refine lv_aload hx hb dX9_tellUncaught_61 (lv_at hl 0 rfl) ?_
              refine lv_ifnull hx hb dX9_tellUncaught_63 ?_
              refine lv_aload hx hb dX9_tellUncaught_66 (lv_at hl 0 rfl) ?_
              refine va_get (D := (dC, dI)) (ci := 7) (v := .int (G_213 j_232 2)) (C := RX7) (T := TX7) (N := 15) hx hb hg gb_7 hown hK hP (50 + 16 * j_232) (hQ.b0 hj_232) rfl 2 (by decide) (hg _ gm_fieldLink_RX9_145_ErrandGuild_Run_state_I_) (fun _ h9 => h9) rfl dX9_tellUncaught_68 ?_
              refine lv_iconst (v := 4) hx hb dX9_tellUncaught_71 (by decide) ?_
              refine lv_icmp_ne (tgt := 92) hx hb dX9_tellUncaught_72 (by decide) (fun c_233 => ?_) (fun c_233 => ?_)
              · simp only [i_lt, i_le, i_eq, ti_4] at c_233
                refine lv_aload hx hb dX9_tellUncaught_92 (lv_at hl 0 rfl) ?_
                refine va_get (D := (dC, dI)) (ci := 7) (v := .ref (ad (50 + 16 * j_232 + 1))) (C := RX7) (T := TX7) (N := 15) hx hb hg gb_7 hown hK hP (50 + 16 * j_232) (hQ.b0 hj_232) rfl 10 (by decide) (hg _ gm_fieldLink_RX9_151_ErrandGuild_Run_kin_LErrandGuild_Kin_) (fun _ h9 => h9) rfl dX9_tellUncaught_94 ?_
                refine va_get (D := (dC, dI)) (ci := 4) (v := va_rf (rA9 ad (K j_232 4))) (C := RX4) (T := TX4) (N := 9) hx hb hg gb_4 hown hK hP (50 + 16 * j_232 + 1) (hQ.b1 hj_232) rfl 7 (by decide) (hg _ gm_fieldLink_RX9_228_ErrandGuild_Kin_nextSibling_LErrandGuild_Run_) (fun _ h9 => h9) rfl dX9_tellUncaught_97 ?_
                rcases eo_234 : K j_232 4 with _ | j_235
                · refine W.eq (g2 := F0 m 100 ls [.null]) (by first | rfl | (rw [eo_234]; rfl)) ?_
                  refine lv_astoreN (lv' := [(4, .null), (3, .int 1), (2, .null), (0, .ref (ad 0)), (1, .ref (ad (50 + 16 * i)))]) hx hb dX9_tellUncaught_100 hl (by decide) rfl (fun ls hl => ?_)
                  refine lv_goto (tgt := 61) hx hb dX9_tellUncaught_102 (by decide) ?_
                  exact ih_221  none  ws_214 ga_209 gc_210 n_211 f_212 G_213 ce se H locs ls (by simp only [chM] at *; omega) (fun _ h => by cases h) (by show S9 M gc_210 + gc 1 ≤ S9 M gc + gc_210 1; omega) (by show (n_211 0).toInt = (n 0).toInt; omega) (by show (n 0).toInt ≤ (n_211 0).toInt; omega) hQ ⟨i1_223, i2_224, i3_225, i4_226, i5_227, i6_228, i7_229, i8_230, i9_231⟩ hr1 hr2 hP hD hS (lv_sub hl [0, 1, 2, 3, 4] rfl)
                · refine W.eq (g2 := F0 m 100 ls [.ref (ad (50 + 16 * j_235))]) (by first | rfl | (rw [eo_234]; rfl)) ?_
                  have hj_235 : j_235 < M := i3_225 _ _ _ hj_232 eo_234
                  refine lv_astore (lv' := [(4, .ref (ad (50 + 16 * j_235))), (3, .int 1), (2, .null), (0, .ref (ad 0)), (1, .ref (ad (50 + 16 * i)))]) hx hb dX9_tellUncaught_100 hl (by decide) rfl (fun ls hl => ?_)
                  refine lv_goto (tgt := 61) hx hb dX9_tellUncaught_102 (by decide) ?_
                  exact ih_221  (some j_235)  ws_214 ga_209 gc_210 n_211 f_212 G_213 ce se H locs ls (by have := i4_226 _ _ hj_232 eo_234; simp only [chM] at *; omega) (fun _ h => by cases h; exact hj_235) (by show S9 M gc_210 + gc 1 ≤ S9 M gc + gc_210 1; omega) (by show (n_211 0).toInt = (n 0).toInt; omega) (by show (n 0).toInt ≤ (n_211 0).toInt; omega) hQ ⟨i1_223, i2_224, i3_225, i4_226, i5_227, i6_228, i7_229, i8_230, i9_231⟩ hr1 hr2 hP hD hS (lv_sub hl [0, 1, 2, 3, 4] rfl)
              · simp only [i_lt, i_le, i_eq, ti_4] at c_233
                refine lv_aload hx hb dX9_tellUncaught_75 (lv_at hl 0 rfl) ?_
                refine va_get (D := (dC, dI)) (ci := 7) (v := .ref (ad (50 + 16 * j_232 + 1))) (C := RX7) (T := TX7) (N := 15) hx hb hg gb_7 hown hK hP (50 + 16 * j_232) (hQ.b0 hj_232) rfl 10 (by decide) (hg _ gm_fieldLink_RX9_151_ErrandGuild_Run_kin_LErrandGuild_Kin_) (fun _ h9 => h9) rfl dX9_tellUncaught_77 ?_
                refine va_get (D := (dC, dI)) (ci := 4) (v := .int (G_213 j_232 12)) (C := RX4) (T := TX4) (N := 9) hx hb hg gb_4 hown hK hP (50 + 16 * j_232 + 1) (hQ.b1 hj_232) rfl 4 (by decide) (hg _ gm_fieldLink_RX9_379_ErrandGuild_Kin_claim_I_) (fun _ h9 => h9) rfl dX9_tellUncaught_80 ?_
                refine lv_if_ne (tgt := 92) hx hb dX9_tellUncaught_83 (by decide) (fun c_236 => ?_) (fun c_236 => ?_)
                · simp only [i_lt, i_le, i_eq, ti_0] at c_236
                  refine lv_aload hx hb dX9_tellUncaught_92 (lv_at hl 0 rfl) ?_
                  refine va_get (D := (dC, dI)) (ci := 7) (v := .ref (ad (50 + 16 * j_232 + 1))) (C := RX7) (T := TX7) (N := 15) hx hb hg gb_7 hown hK hP (50 + 16 * j_232) (hQ.b0 hj_232) rfl 10 (by decide) (hg _ gm_fieldLink_RX9_151_ErrandGuild_Run_kin_LErrandGuild_Kin_) (fun _ h9 => h9) rfl dX9_tellUncaught_94 ?_
                  refine va_get (D := (dC, dI)) (ci := 4) (v := va_rf (rA9 ad (K j_232 4))) (C := RX4) (T := TX4) (N := 9) hx hb hg gb_4 hown hK hP (50 + 16 * j_232 + 1) (hQ.b1 hj_232) rfl 7 (by decide) (hg _ gm_fieldLink_RX9_228_ErrandGuild_Kin_nextSibling_LErrandGuild_Run_) (fun _ h9 => h9) rfl dX9_tellUncaught_97 ?_
                  rcases eo_237 : K j_232 4 with _ | j_238
                  · refine W.eq (g2 := F0 m 100 ls [.null]) (by first | rfl | (rw [eo_237]; rfl)) ?_
                    refine lv_astoreN (lv' := [(4, .null), (3, .int 1), (2, .null), (0, .ref (ad 0)), (1, .ref (ad (50 + 16 * i)))]) hx hb dX9_tellUncaught_100 hl (by decide) rfl (fun ls hl => ?_)
                    refine lv_goto (tgt := 61) hx hb dX9_tellUncaught_102 (by decide) ?_
                    exact ih_221  none  ws_214 ga_209 gc_210 n_211 f_212 G_213 ce se H locs ls (by simp only [chM] at *; omega) (fun _ h => by cases h) (by show S9 M gc_210 + gc 1 ≤ S9 M gc + gc_210 1; omega) (by show (n_211 0).toInt = (n 0).toInt; omega) (by show (n 0).toInt ≤ (n_211 0).toInt; omega) hQ ⟨i1_223, i2_224, i3_225, i4_226, i5_227, i6_228, i7_229, i8_230, i9_231⟩ hr1 hr2 hP hD hS (lv_sub hl [0, 1, 2, 3, 4] rfl)
                  · refine W.eq (g2 := F0 m 100 ls [.ref (ad (50 + 16 * j_238))]) (by first | rfl | (rw [eo_237]; rfl)) ?_
                    have hj_238 : j_238 < M := i3_225 _ _ _ hj_232 eo_237
                    refine lv_astore (lv' := [(4, .ref (ad (50 + 16 * j_238))), (3, .int 1), (2, .null), (0, .ref (ad 0)), (1, .ref (ad (50 + 16 * i)))]) hx hb dX9_tellUncaught_100 hl (by decide) rfl (fun ls hl => ?_)
                    refine lv_goto (tgt := 61) hx hb dX9_tellUncaught_102 (by decide) ?_
                    exact ih_221  (some j_238)  ws_214 ga_209 gc_210 n_211 f_212 G_213 ce se H locs ls (by have := i4_226 _ _ hj_232 eo_237; simp only [chM] at *; omega) (fun _ h => by cases h; exact hj_238) (by show S9 M gc_210 + gc 1 ≤ S9 M gc + gc_210 1; omega) (by show (n_211 0).toInt = (n 0).toInt; omega) (by show (n 0).toInt ≤ (n_211 0).toInt; omega) hQ ⟨i1_223, i2_224, i3_225, i4_226, i5_227, i6_228, i7_229, i8_230, i9_231⟩ hr1 hr2 hP hD hS (lv_sub hl [0, 1, 2, 3, 4] rfl)
                · simp only [i_lt, i_le, i_eq, ti_0] at c_236
                  refine lv_aload_n hx hb dX9_tellUncaught_86 rfl (lv_at hl 3 rfl) ?_
                  refine lv_aload hx hb dX9_tellUncaught_87 (lv_at hl 0 rfl) ?_
                  have hFc := free_all hD hS hA
                  refine W_msr2 (fun hm1 hm2 hm3 => ?_)
                  refine va_callv (va_runV (As := [.ref (ad (50 + 16 * j_232))]) (rest := []) ⟨hx, hb, hml, hown, hg⟩ (c_X9_askHandlers l dC dI kc ws_214 ad ga_209 gc_210 M n_211 f_212 T G_213 K F R j_232 H.size (hpS H) hQ ⟨i1_223, i2_224, i3_225, i4_226, i5_227, i6_228, i7_229, i8_230, i9_231⟩ (by show j_232 < M; omega) (by show R ≤ 310000; omega)) (cwV 1 hg (gw_V gm_methodLink_RX9_388_yX9_askHandlers gm_instanceMethod_yX9_askHandlers gm_selects_RX9_yX9_askHandlers_yX9_askHandlers gm_initialized_RX9 gm_code_yX9_askHandlers_cX9_askHandlers_7_none) rfl rfl rfl (by decide +kernel) ⟨Nat.le_of_ble_eq_true rfl, Nat.le_of_ble_eq_true rfl⟩) ⟨fun a U g mk q => by obtain ⟨q0, q1, q2, qP, qK, qD, qN⟩ := q; exact ⟨q0, q1, q2, qP, va_K.moved (u := U) (U := U.calling g mk a) (Vm.Alike.refl U.vm) qK, qD, nx_same (u := U) (U := U.calling g mk a) rfl qN⟩, va_recv hK hP (ci := 9) (q0 := 0) rfl hQ.x0, fun U hU hW => ⟨rfl, by rw [hU], by rw [hU], by rw [hU]; exact hP, va_K.moved hW.alike hK, hD.weaken (fun _ _ _ _ => trivial), nx_warm hW hN⟩⟩ rfl rfl hl.1 rfl (lv_room (Nat.le_of_ble_eq_true rfl)) dX9_tellUncaught_89 ⟨by show ce + 1200 ≤ 1800; omega, by show se + 50000 ≤ 67000; omega⟩) hS (fun q _ h => hFc q h) hFc (fun u_240 t H1 locs ht hvm hw hB hz1 hk1 hS => ?_)
                  obtain ⟨ad_241, ga_242, gc_243, M_244, n_245, f_246, T_247, G_248, K_249, F_250⟩ := u_240
                  have hB : ∃ w : va_W, va_P (dC, dI) vwCl w t.heap ∧ va_D (va_A ws_214 H.size) w ∧ Pic9 kc w ad ga_242 gc_243 M n_245 f_246 T G_248 K F ∧ I9 M n_245 T gc_243 G_248 K R ∧ hpS t.heap + (260 * M + 2 * S9 M gc_210) ≤ hpS H + (260 * M + 2 * S9 M gc_243) ∧ 16 * t.heap.size + (256 * M + S9 M gc_210) ≤ 16 * H.size + (256 * M + S9 M gc_243) ∧ (n_211 0).toInt ≤ (n_245 0).toInt := hB
                  rw [ht] at hB
                  obtain ⟨ws_251, hP, hD, hQ, hI_253, hy1, hy2, hn_252⟩ := hB
                  have hD := hD.weaken (fun k q _ h => hFc _ h)
                  obtain ⟨i1_254, i2_255, i3_256, i4_257, i5_258, i6_259, i7_260, i8_261, i9_262⟩ := id hI_253
                  have q1_ := i1_254
                  unfold i1 at q1_
                  have hSl := S9_le i8_261 i9_262
                  have hb0_ := i8_261.2.1 0 (by omega)
                  have hb1_ := i8_261.2.1 1 (by omega)
                  have hb2_ := i8_261.2.1 2 (by omega)
                  refine W_msr2 (fun hn1 hn2 hn3 => ?_)
                  obtain ⟨ce2, se2, hk3, hk4, hr1, hr2⟩ : ∃ c2 s2 : Nat, H1.size ≤ s.heap.size + c2 ∧ hpS H1 ≤ hpS s.heap + s2 ∧ s2 + (260 * M + 2 * S9 M gc) ≤ (260 * M + 2 * S9 M gc_243) ∧ 16 * c2 + (256 * M + S9 M gc) ≤ (256 * M + S9 M gc_243) := ⟨H1.size - s.heap.size, hpS H1 - hpS s.heap, by omega, by omega, by have := hS.1; omega, by have := hS.1; omega⟩
                  refine W_tightP hk3 hk4 ?_
                  clear hm1 hm2 hm3 hn1 hn2 hn3 hk3 hk4
                  clear hk1 hz1
                  generalize ce2 = ce, se2 = se at hr1 hr2 ⊢
                  generalize H1 = H at hP hS ⊢
                  have w_263 : S9 M gc_243 + gc_210 1 ≤ S9 M gc_210 + gc_243 1 ∧ (n_245 0).toInt = (n_211 0).toInt := hw
                  refine lv_aload hx hb dX9_tellUncaught_92 (lv_at hl 0 rfl) ?_
                  refine va_get (D := (dC, dI)) (ci := 7) (v := .ref (ad (50 + 16 * j_232 + 1))) (C := RX7) (T := TX7) (N := 15) hx hb hg gb_7 hown hK hP (50 + 16 * j_232) (hQ.b0 hj_232) rfl 10 (by decide) (hg _ gm_fieldLink_RX9_151_ErrandGuild_Run_kin_LErrandGuild_Kin_) (fun _ h9 => h9) rfl dX9_tellUncaught_94 ?_
                  refine va_get (D := (dC, dI)) (ci := 4) (v := va_rf (rA9 ad (K j_232 4))) (C := RX4) (T := TX4) (N := 9) hx hb hg gb_4 hown hK hP (50 + 16 * j_232 + 1) (hQ.b1 hj_232) rfl 7 (by decide) (hg _ gm_fieldLink_RX9_228_ErrandGuild_Kin_nextSibling_LErrandGuild_Run_) (fun _ h9 => h9) rfl dX9_tellUncaught_97 ?_
                  rcases eo_264 : K j_232 4 with _ | j_265
                  · refine W.eq (g2 := F0 m 100 ls [.null]) (by first | rfl | (rw [eo_264]; rfl)) ?_
                    refine lv_astoreN (lv' := [(4, .null), (3, .int 1), (2, .null), (0, .ref (ad 0)), (1, .ref (ad (50 + 16 * i)))]) hx hb dX9_tellUncaught_100 hl (by decide) rfl (fun ls hl => ?_)
                    refine lv_goto (tgt := 61) hx hb dX9_tellUncaught_102 (by decide) ?_
                    exact ih_221  none  ws_251 ga_242 gc_243 n_245 f_246 G_248 ce se H locs ls (by simp only [chM] at *; omega) (fun _ h => by cases h) (by show S9 M gc_243 + gc 1 ≤ S9 M gc + gc_243 1; omega) (by show (n_245 0).toInt = (n 0).toInt; omega) (by show (n 0).toInt ≤ (n_245 0).toInt; omega) hQ ⟨i1_254, i2_255, i3_256, i4_257, i5_258, i6_259, i7_260, i8_261, i9_262⟩ hr1 hr2 hP hD hS (lv_sub hl [0, 1, 2, 3, 4] rfl)
                  · refine W.eq (g2 := F0 m 100 ls [.ref (ad (50 + 16 * j_265))]) (by first | rfl | (rw [eo_264]; rfl)) ?_
                    have hj_265 : j_265 < M := i3_256 _ _ _ hj_232 eo_264
                    refine lv_astore (lv' := [(4, .ref (ad (50 + 16 * j_265))), (3, .int 1), (2, .null), (0, .ref (ad 0)), (1, .ref (ad (50 + 16 * i)))]) hx hb dX9_tellUncaught_100 hl (by decide) rfl (fun ls hl => ?_)
                    refine lv_goto (tgt := 61) hx hb dX9_tellUncaught_102 (by decide) ?_
                    exact ih_221  (some j_265)  ws_251 ga_242 gc_243 n_245 f_246 G_248 ce se H locs ls (by have := i4_257 _ _ hj_232 eo_264; simp only [chM] at *; omega) (fun _ h => by cases h; exact hj_265) (by show S9 M gc_243 + gc 1 ≤ S9 M gc + gc_243 1; omega) (by show (n_245 0).toInt = (n 0).toInt; omega) (by show (n 0).toInt ≤ (n_245 0).toInt; omega) hQ ⟨i1_254, i2_255, i3_256, i4_257, i5_258, i6_259, i7_260, i8_261, i9_262⟩ hr1 hr2 hP hD hS (lv_sub hl [0, 1, 2, 3, 4] rfl)
        exact L61 _  (some j_149)  ws_135 ga_126 gc_127 n_129 f_130 G_132 ce se _ _ _ (Nat.lt_succ_self _) (fun _ h => by cases h; exact hj_149) (by show S9 M gc_127 + gc 1 ≤ S9 M gc + gc_127 1; omega) (by show (n_129 0).toInt = (n 0).toInt; omega) (by show (n 0).toInt ≤ (n_129 0).toInt; omega) hQ ⟨i1_138, i2_139, i3_140, i4_141, i5_142, i6_143, i7_144, i8_145, i9_146⟩ hr1 hr2 hP hD hS (lv_sub hl [0, 1, 2, 3, 4] rfl)
  · refine W.eq (g2 := F0 m 7 ls [.ref (ad (50 + 16 * j_2))]) (by first | rfl | (rw [eo_1]; rfl)) ?_
    have hj_2 : j_2 < M := h_i3 _ _ _ hi eo_1
    refine lv_astore_n (lv' := [(2, .ref (ad (50 + 16 * j_2))), (0, .ref (ad 0)), (1, .ref (ad (50 + 16 * i)))]) hx hb dX9_tellUncaught_7 rfl hl (by decide) rfl (fun ls hl => ?_)
    refine lv_aload_n hx hb dX9_tellUncaught_8 rfl (lv_at hl 0 rfl) ?_
    refine lv_ifnull hx hb dX9_tellUncaught_9 ?_
    refine lv_aload_n hx hb dX9_tellUncaught_12 rfl (lv_at hl 0 rfl) ?_
    have hCc : ([(50 + 16 * j_2)] : List Nat).map (fun i => ws[i]?) = ([(ad (50 + 16 * j_2), .inr (7, [.int (G j_2 0), .int (G j_2 1), .int (G j_2 2), .int (G j_2 3), .int (G j_2 4), .int (G j_2 5), .int (G j_2 6), .int (G j_2 7), .int (G j_2 8), .int (G j_2 9), .ref (ad (50 + 16 * j_2 + 1)), .ref (ad (50 + 16 * j_2 + 2)), .ref (ad (50 + 16 * j_2 + 6)), .ref (ad (50 + 16 * j_2 + 13)), .ref (ad (50 + 16 * j_2 + 14))]))] : va_W).map some := mp1 (hQ.b0 hj_2)
    have hNd : ([(50 + 16 * j_2)] : List Nat).Nodup := (nd_off (50 + 16 * j_2) (l := [0]) (by decide))
    have hPc := hP.pick [(50 + 16 * j_2)] hCc
    have hDc := hD.pick [(50 + 16 * j_2)] hNd hCc
    have hKc := hK.sub (tys' := []) [] rfl
    have hFc := va_free (wc := [(ad (50 + 16 * j_2), .inr (7, [.int (G j_2 0), .int (G j_2 1), .int (G j_2 2), .int (G j_2 3), .int (G j_2 4), .int (G j_2 5), .int (G j_2 6), .int (G j_2 7), .int (G j_2 8), .int (G j_2 9), .ref (ad (50 + 16 * j_2 + 1)), .ref (ad (50 + 16 * j_2 + 2)), .ref (ad (50 + 16 * j_2 + 6)), .ref (ad (50 + 16 * j_2 + 13)), .ref (ad (50 + 16 * j_2 + 14))]))]) hD hS hA [(50 + 16 * j_2)] hCc
    refine W_msr2 (fun hm1 hm2 hm3 => ?_)
    refine va_calli (va_runV (As := []) (rest := []) ⟨hx, hb, hml, hown, hg⟩ (c_X7_isOver l dC dI (ad (50 + 16 * j_2)) (ad (50 + 16 * j_2 + 1)) (ad (50 + 16 * j_2 + 2)) (ad (50 + 16 * j_2 + 6)) (ad (50 + 16 * j_2 + 13)) (ad (50 + 16 * j_2 + 14)) (G j_2 0) (G j_2 1) (G j_2 2) (G j_2 3) (G j_2 4) (G j_2 5) (G j_2 6) (G j_2 7) (G j_2 8) (G j_2 9) s.heap.size ) (cwV 0 hg (gw_V gm_methodLink_RX9_138_yX7_isOver gm_instanceMethod_yX7_isOver gm_selects_RX7_yX7_isOver_yX7_isOver gm_initialized_RX7 gm_code_yX7_isOver_cX7_isOver_1_some_boolean_) rfl rfl rfl (by decide +kernel) ⟨Nat.le_of_ble_eq_true rfl, Nat.le_of_ble_eq_true rfl⟩) ⟨fun a U g mk q => by obtain ⟨q0, q1, qP, qK, qD, qN⟩ := q; exact ⟨q0, q1, qP, va_K.moved (u := U) (U := U.calling g mk a) (Vm.Alike.refl U.vm) qK, qD, nx_same (u := U) (U := U.calling g mk a) rfl qN⟩, va_recv hK hP (ci := 7) (q0 := (50 + 16 * j_2)) rfl (hQ.b0 hj_2), fun U hU hW => ⟨rfl, by rw [hU], by rw [hU]; exact hPc, va_K.moved hW.alike hKc, hDc.weaken (fun _ _ _ _ => trivial), nx_warm hW hN⟩⟩ rfl rfl hl.1 rfl (lv_room (Nat.le_of_ble_eq_true rfl)) dX9_tellUncaught_13 ⟨by show ce + 0 ≤ 1800; omega, by show se + 0 ≤ 67000; omega⟩) hS (fun q _ h => hFc q h) hFc (fun r_266 u_267 t H1 locs ht hvm hw hB hz1 hk1 hS => ?_)
    obtain ⟨hP1, hD1⟩ := hB
    rw [ht] at hP1
    obtain ⟨hP, hD⟩ := va_replS hP hD [(50 + 16 * j_2)] hCc hNd hk1 hFc hP1 hD1
    refine W.widen (k := ce) (n := se) (Nat.le_refl _) (Nat.le_refl _) ?_
    generalize H1 = H at hP hS ⊢
    rcases hw with ⟨rfl, w_268⟩ | ⟨rfl, w_268⟩
    · refine lv_if_eq (tgt := 33) hx hb dX9_tellUncaught_16 (by decide) (fun c_269 => absurd c_269 (by decide)) (fun _ => ?_)
      refine lv_aload_n hx hb dX9_tellUncaught_19 rfl (lv_at hl 2 rfl) ?_
      refine va_get (D := (dC, dI)) (ci := 7) (v := .ref (ad (50 + 16 * i + 1))) (C := RX7) (T := TX7) (N := 15) hx hb hg gb_7 hown hK hP (50 + 16 * i) (hQ.b0 hi) rfl 10 (by decide) (hg _ gm_fieldLink_RX9_151_ErrandGuild_Run_kin_LErrandGuild_Kin_) (fun _ h9 => h9) rfl dX9_tellUncaught_20 ?_
      refine va_get (D := (dC, dI)) (ci := 4) (v := .int (G i 12)) (C := RX4) (T := TX4) (N := 9) hx hb hg gb_4 hown hK hP (50 + 16 * i + 1) (hQ.b1 hi) rfl 4 (by decide) (hg _ gm_fieldLink_RX9_379_ErrandGuild_Kin_claim_I_) (fun _ h9 => h9) rfl dX9_tellUncaught_23 ?_
      refine lv_if_ne (tgt := 33) hx hb dX9_tellUncaught_26 (by decide) (fun c_270 => ?_) (fun c_270 => ?_)
      · simp only [i_lt, i_le, i_eq, ti_0] at c_270
        refine lv_iconst (v := 0) hx hb dX9_tellUncaught_33 (by decide) ?_
        refine lv_istore_n (lv' := [(3, .int 0), (2, .ref (ad (50 + 16 * j_2))), (0, .ref (ad 0)), (1, .ref (ad (50 + 16 * i)))]) hx hb dX9_tellUncaught_34 rfl hl (by decide) rfl (fun ls hl => ?_)
        refine lv_aload_n hx hb dX9_tellUncaught_35 rfl (lv_at hl 3 rfl) ?_
        refine va_get (D := (dC, dI)) (ci := 7) (v := .int (G i 2)) (C := RX7) (T := TX7) (N := 15) hx hb hg gb_7 hown hK hP (50 + 16 * i) (hQ.b0 hi) rfl 2 (by decide) (hg _ gm_fieldLink_RX9_145_ErrandGuild_Run_state_I_) (fun _ h9 => h9) rfl dX9_tellUncaught_36 ?_
        refine lv_iconst (v := 4) hx hb dX9_tellUncaught_39 (by decide) ?_
        refine lv_icmp_ne (tgt := 52) hx hb dX9_tellUncaught_40 (by decide) (fun c_271 => ?_) (fun c_271 => ?_)
        · simp only [i_lt, i_le, i_eq, ti_4] at c_271
          refine lv_aload_n hx hb dX9_tellUncaught_52 rfl (lv_at hl 3 rfl) ?_
          refine va_get (D := (dC, dI)) (ci := 7) (v := .ref (ad (50 + 16 * i + 1))) (C := RX7) (T := TX7) (N := 15) hx hb hg gb_7 hown hK hP (50 + 16 * i) (hQ.b0 hi) rfl 10 (by decide) (hg _ gm_fieldLink_RX9_151_ErrandGuild_Run_kin_LErrandGuild_Kin_) (fun _ h9 => h9) rfl dX9_tellUncaught_53 ?_
          refine va_get (D := (dC, dI)) (ci := 4) (v := va_rf (rA9 ad (K i 2))) (C := RX4) (T := TX4) (N := 9) hx hb hg gb_4 hown hK hP (50 + 16 * i + 1) (hQ.b1 hi) rfl 5 (by decide) (hg _ gm_fieldLink_RX9_225_ErrandGuild_Kin_firstChild_LErrandGuild_Run_) (fun _ h9 => h9) rfl dX9_tellUncaught_56 ?_
          rcases eo_272 : K i 2 with _ | j_273
          · refine W.eq (g2 := F0 m 59 ls [.null]) (by first | rfl | (rw [eo_272]; rfl)) ?_
            refine lv_astoreN (lv' := [(4, .null), (3, .int 0), (2, .ref (ad (50 + 16 * j_2))), (0, .ref (ad 0)), (1, .ref (ad (50 + 16 * i)))]) hx hb dX9_tellUncaught_59 hl (by decide) rfl (fun ls hl => ?_)
            have L61 : ∀ (fuel : Nat)  (o_274 : Option Nat)  (ws_280 : va_W) (ga_275 : Nat → Nat) (gc_276 : Nat → Nat) (n_277 : Nat → Int32) (f_278 : Nat → Nat → Int32) (G_279 : Nat → Nat → Int32) (ce se : Nat) (H : Heap) (locs : List Loc) (ls : Array Slot), chM M o_274 < fuel → (∀ j : Nat, o_274 = some j → j < M) → (S9 M gc_276 + gc 1 ≤ S9 M gc + gc_276 1) → ((n_277 0).toInt = (n 0).toInt) → ((n 0).toInt ≤ (n_277 0).toInt) → Pic9 kc ws_280 ad ga_275 gc_276 M n_277 f_278 T G_279 K F → I9 M n_277 T gc_276 G_279 K R → (se + (260 * M + 2 * S9 M gc) ≤ (260 * M + 2 * S9 M gc_276)) → (16 * ce + (256 * M + S9 M gc) ≤ (256 * M + S9 M gc_276)) → va_P (dC, dI) vwCl ws_280 H → va_D A ws_280 → va_S A s.heap H locs → lv_has ls 5 [(4, va_rf (rA9 ad o_274)), (3, .int 0), (2, .ref (ad (50 + 16 * j_2))), (0, .ref (ad 0)), (1, .ref (ad (50 + 16 * i)))] → W p l e (headSpec (.code yX9_tellUncaught cX9_tellUncaught 5 none :: gw) ({ frames := 4, cells := 1800, slots := 67000, locals := 152 })).room s m ([.ref (ad 0), .ref (ad (50 + 16 * i))] : List Value).toArray below meth c H locs ce se (MQ below (va_Qv (fun (u : (Nat → Nat) × (Nat → Nat) × (Nat → Nat) × Nat × (Nat → Int32) × (Nat → Nat → Int32) × (Nat → Option Nat) × (Nat → Nat → Int32) × (Nat → Nat → Option Nat) × (Nat → Nat → Nat → Int32)) => S9 M u.2.2.1 + gc 1 ≤ S9 M gc + u.2.2.1 1 ∧ (u.2.2.2.2.1 0).toInt = (n 0).toInt) (fun u t => ∃ w : va_W, va_P (dC, dI) vwCl w t.heap ∧ va_D A w ∧ Pic9 kc w ad u.2.1 u.2.2.1 M u.2.2.2.2.1 u.2.2.2.2.2.1 T u.2.2.2.2.2.2.2.1 K F ∧ I9 M u.2.2.2.2.1 T u.2.2.1 u.2.2.2.2.2.2.2.1 K R ∧ hpS t.heap + (260 * M + 2 * S9 M gc) ≤ (hpS s.heap) + (260 * M + 2 * S9 M u.2.2.1) ∧ 16 * t.heap.size + (256 * M + S9 M gc) ≤ 16 * s.heap.size + (256 * M + S9 M u.2.2.1) ∧ (n 0).toInt ≤ (u.2.2.2.2.1 0).toInt) A) ([.ref (ad 0), .ref (ad (50 + 16 * i))] : List Value).toArray s 1800 67000 A) (F0 m 61 ls []) := by
              intro fuel
              induction fuel with
              | zero => intro o_274 ws_280 ga_275 gc_276 n_277 f_278 G_279 ce se H locs ls hm; exact absurd hm (Nat.not_lt_zero _)
              | succ fuel_288 ih_287 =>
                intro o_274 ws_280 ga_275 gc_276 n_277 f_278 G_279 ce se H locs ls hm_281 v_282 v_283 v_284 v_285 hQ hI_286 hr1 hr2 hP hD hS hl
                obtain ⟨i1_289, i2_290, i3_291, i4_292, i5_293, i6_294, i7_295, i8_296, i9_297⟩ := id hI_286
                have q1_ := i1_289
                unfold i1 at q1_
                have hSl := S9_le i8_296 i9_297
                have hb0_ := i8_296.2.1 0 (by omega)
                have hb1_ := i8_296.2.1 1 (by omega)
                have hb2_ := i8_296.2.1 2 (by omega)
                rcases o_274 with _ | j_298
                · have hl : lv_has ls 5 [(4, .null), (3, .int 0), (2, .ref (ad (50 + 16 * j_2))), (0, .ref (ad 0)), (1, .ref (ad (50 + 16 * i)))] := hl
                  refine lv_aloadN hx hb dX9_tellUncaught_61 (lv_at hl 0 rfl) ?_
                  refine lv_ifnullN (tgt := 105) hx hb dX9_tellUncaught_63 (by decide) ?_
                  refine W_msr2 (fun hm1 hm2 hm3 => ?_)
                  have hSl := S9_le i8_296 i9_297
                  have hb0_ := i8_296.2.1 0 (by omega)
                  have hb1_ := i8_296.2.1 1 (by omega)
                  have hb2_ := i8_296.2.1 2 (by omega)
                  refine W.widen (k := 1800) (n := 67000) (by omega) (by omega) ?_
                  exact W.vret hx hb hr (fun t ht hW => ⟨⟨(ad, ga_275, gc_276, M, n_277, f_278, T, G_279, K, F), rfl, (by show S9 M gc_276 + gc 1 ≤ S9 M gc + gc_276 1 ∧ (n_277 0).toInt = (n 0).toInt; omega), ws_280, by rw [ht]; exact hP, hD, hQ, ⟨i1_289, i2_290, i3_291, i4_292, i5_293, i6_294, i7_295, i8_296, i9_297⟩, by rw [ht]; show hpS H + (260 * M + 2 * S9 M gc) ≤ hpS s.heap + (260 * M + 2 * S9 M gc_276); omega, by rw [ht]; show 16 * H.size + (256 * M + S9 M gc) ≤ 16 * s.heap.size + (256 * M + S9 M gc_276); omega, by show (n 0).toInt ≤ (n_277 0).toInt; omega⟩, hS.F ht⟩) hS.2.2 dX9_tellUncaught_105
                · have hl : lv_has ls 5 [(4, .ref (ad (50 + 16 * j_298))), (3, .int 0), (2, .ref (ad (50 + 16 * j_2))), (0, .ref (ad 0)), (1, .ref (ad (50 + 16 * i)))] := hl
                  have hj_298 : j_298 < M := v_282 _ rfl
                  refine lv_aload hx hb dX9_tellUncaught_61 (lv_at hl 0 rfl) ?_
                  refine lv_ifnull hx hb dX9_tellUncaught_63 ?_
                  refine lv_aload hx hb dX9_tellUncaught_66 (lv_at hl 0 rfl) ?_
                  refine va_get (D := (dC, dI)) (ci := 7) (v := .int (G_279 j_298 2)) (C := RX7) (T := TX7) (N := 15) hx hb hg gb_7 hown hK hP (50 + 16 * j_298) (hQ.b0 hj_298) rfl 2 (by decide) (hg _ gm_fieldLink_RX9_145_ErrandGuild_Run_state_I_) (fun _ h9 => h9) rfl dX9_tellUncaught_68 ?_
                  refine lv_iconst (v := 4) hx hb dX9_tellUncaught_71 (by decide) ?_
                  refine lv_icmp_ne (tgt := 92) hx hb dX9_tellUncaught_72 (by decide) (fun c_299 => ?_) (fun c_299 => ?_)
                  · simp only [i_lt, i_le, i_eq, ti_4] at c_299
                    refine lv_aload hx hb dX9_tellUncaught_92 (lv_at hl 0 rfl) ?_
                    refine va_get (D := (dC, dI)) (ci := 7) (v := .ref (ad (50 + 16 * j_298 + 1))) (C := RX7) (T := TX7) (N := 15) hx hb hg gb_7 hown hK hP (50 + 16 * j_298) (hQ.b0 hj_298) rfl 10 (by decide) (hg _ gm_fieldLink_RX9_151_ErrandGuild_Run_kin_LErrandGuild_Kin_) (fun _ h9 => h9) rfl dX9_tellUncaught_94 ?_
                    refine va_get (D := (dC, dI)) (ci := 4) (v := va_rf (rA9 ad (K j_298 4))) (C := RX4) (T := TX4) (N := 9) hx hb hg gb_4 hown hK hP (50 + 16 * j_298 + 1) (hQ.b1 hj_298) rfl 7 (by decide) (hg _ gm_fieldLink_RX9_228_ErrandGuild_Kin_nextSibling_LErrandGuild_Run_) (fun _ h9 => h9) rfl dX9_tellUncaught_97 ?_
                    rcases eo_300 : K j_298 4 with _ | j_301
                    · refine W.eq (g2 := F0 m 100 ls [.null]) (by first | rfl | (rw [eo_300]; rfl)) ?_
                      refine lv_astoreN (lv' := [(4, .null), (3, .int 0), (2, .ref (ad (50 + 16 * j_2))), (0, .ref (ad 0)), (1, .ref (ad (50 + 16 * i)))]) hx hb dX9_tellUncaught_100 hl (by decide) rfl (fun ls hl => ?_)
                      refine lv_goto (tgt := 61) hx hb dX9_tellUncaught_102 (by decide) ?_
                      exact ih_287  none  ws_280 ga_275 gc_276 n_277 f_278 G_279 ce se H locs ls (by simp only [chM] at *; omega) (fun _ h => by cases h) (by show S9 M gc_276 + gc 1 ≤ S9 M gc + gc_276 1; omega) (by show (n_277 0).toInt = (n 0).toInt; omega) (by show (n 0).toInt ≤ (n_277 0).toInt; omega) hQ ⟨i1_289, i2_290, i3_291, i4_292, i5_293, i6_294, i7_295, i8_296, i9_297⟩ hr1 hr2 hP hD hS (lv_sub hl [0, 1, 2, 3, 4] rfl)
                    · refine W.eq (g2 := F0 m 100 ls [.ref (ad (50 + 16 * j_301))]) (by first | rfl | (rw [eo_300]; rfl)) ?_
                      have hj_301 : j_301 < M := i3_291 _ _ _ hj_298 eo_300
                      refine lv_astore (lv' := [(4, .ref (ad (50 + 16 * j_301))), (3, .int 0), (2, .ref (ad (50 + 16 * j_2))), (0, .ref (ad 0)), (1, .ref (ad (50 + 16 * i)))]) hx hb dX9_tellUncaught_100 hl (by decide) rfl (fun ls hl => ?_)
                      refine lv_goto (tgt := 61) hx hb dX9_tellUncaught_102 (by decide) ?_
                      exact ih_287  (some j_301)  ws_280 ga_275 gc_276 n_277 f_278 G_279 ce se H locs ls (by have := i4_292 _ _ hj_298 eo_300; simp only [chM] at *; omega) (fun _ h => by cases h; exact hj_301) (by show S9 M gc_276 + gc 1 ≤ S9 M gc + gc_276 1; omega) (by show (n_277 0).toInt = (n 0).toInt; omega) (by show (n 0).toInt ≤ (n_277 0).toInt; omega) hQ ⟨i1_289, i2_290, i3_291, i4_292, i5_293, i6_294, i7_295, i8_296, i9_297⟩ hr1 hr2 hP hD hS (lv_sub hl [0, 1, 2, 3, 4] rfl)
                  · simp only [i_lt, i_le, i_eq, ti_4] at c_299
                    refine lv_aload hx hb dX9_tellUncaught_75 (lv_at hl 0 rfl) ?_
                    refine va_get (D := (dC, dI)) (ci := 7) (v := .ref (ad (50 + 16 * j_298 + 1))) (C := RX7) (T := TX7) (N := 15) hx hb hg gb_7 hown hK hP (50 + 16 * j_298) (hQ.b0 hj_298) rfl 10 (by decide) (hg _ gm_fieldLink_RX9_151_ErrandGuild_Run_kin_LErrandGuild_Kin_) (fun _ h9 => h9) rfl dX9_tellUncaught_77 ?_
                    refine va_get (D := (dC, dI)) (ci := 4) (v := .int (G_279 j_298 12)) (C := RX4) (T := TX4) (N := 9) hx hb hg gb_4 hown hK hP (50 + 16 * j_298 + 1) (hQ.b1 hj_298) rfl 4 (by decide) (hg _ gm_fieldLink_RX9_379_ErrandGuild_Kin_claim_I_) (fun _ h9 => h9) rfl dX9_tellUncaught_80 ?_
                    refine lv_if_ne (tgt := 92) hx hb dX9_tellUncaught_83 (by decide) (fun c_302 => ?_) (fun c_302 => ?_)
                    · simp only [i_lt, i_le, i_eq, ti_0] at c_302
                      refine lv_aload hx hb dX9_tellUncaught_92 (lv_at hl 0 rfl) ?_
                      refine va_get (D := (dC, dI)) (ci := 7) (v := .ref (ad (50 + 16 * j_298 + 1))) (C := RX7) (T := TX7) (N := 15) hx hb hg gb_7 hown hK hP (50 + 16 * j_298) (hQ.b0 hj_298) rfl 10 (by decide) (hg _ gm_fieldLink_RX9_151_ErrandGuild_Run_kin_LErrandGuild_Kin_) (fun _ h9 => h9) rfl dX9_tellUncaught_94 ?_
                      refine va_get (D := (dC, dI)) (ci := 4) (v := va_rf (rA9 ad (K j_298 4))) (C := RX4) (T := TX4) (N := 9) hx hb hg gb_4 hown hK hP (50 + 16 * j_298 + 1) (hQ.b1 hj_298) rfl 7 (by decide) (hg _ gm_fieldLink_RX9_228_ErrandGuild_Kin_nextSibling_LErrandGuild_Run_) (fun _ h9 => h9) rfl dX9_tellUncaught_97 ?_
                      rcases eo_303 : K j_298 4 with _ | j_304
                      · refine W.eq (g2 := F0 m 100 ls [.null]) (by first | rfl | (rw [eo_303]; rfl)) ?_
                        refine lv_astoreN (lv' := [(4, .null), (3, .int 0), (2, .ref (ad (50 + 16 * j_2))), (0, .ref (ad 0)), (1, .ref (ad (50 + 16 * i)))]) hx hb dX9_tellUncaught_100 hl (by decide) rfl (fun ls hl => ?_)
                        refine lv_goto (tgt := 61) hx hb dX9_tellUncaught_102 (by decide) ?_
                        exact ih_287  none  ws_280 ga_275 gc_276 n_277 f_278 G_279 ce se H locs ls (by simp only [chM] at *; omega) (fun _ h => by cases h) (by show S9 M gc_276 + gc 1 ≤ S9 M gc + gc_276 1; omega) (by show (n_277 0).toInt = (n 0).toInt; omega) (by show (n 0).toInt ≤ (n_277 0).toInt; omega) hQ ⟨i1_289, i2_290, i3_291, i4_292, i5_293, i6_294, i7_295, i8_296, i9_297⟩ hr1 hr2 hP hD hS (lv_sub hl [0, 1, 2, 3, 4] rfl)
                      · refine W.eq (g2 := F0 m 100 ls [.ref (ad (50 + 16 * j_304))]) (by first | rfl | (rw [eo_303]; rfl)) ?_
                        have hj_304 : j_304 < M := i3_291 _ _ _ hj_298 eo_303
                        refine lv_astore (lv' := [(4, .ref (ad (50 + 16 * j_304))), (3, .int 0), (2, .ref (ad (50 + 16 * j_2))), (0, .ref (ad 0)), (1, .ref (ad (50 + 16 * i)))]) hx hb dX9_tellUncaught_100 hl (by decide) rfl (fun ls hl => ?_)
                        refine lv_goto (tgt := 61) hx hb dX9_tellUncaught_102 (by decide) ?_
                        exact ih_287  (some j_304)  ws_280 ga_275 gc_276 n_277 f_278 G_279 ce se H locs ls (by have := i4_292 _ _ hj_298 eo_303; simp only [chM] at *; omega) (fun _ h => by cases h; exact hj_304) (by show S9 M gc_276 + gc 1 ≤ S9 M gc + gc_276 1; omega) (by show (n_277 0).toInt = (n 0).toInt; omega) (by show (n 0).toInt ≤ (n_277 0).toInt; omega) hQ ⟨i1_289, i2_290, i3_291, i4_292, i5_293, i6_294, i7_295, i8_296, i9_297⟩ hr1 hr2 hP hD hS (lv_sub hl [0, 1, 2, 3, 4] rfl)
                    · simp only [i_lt, i_le, i_eq, ti_0] at c_302
                      refine lv_aload_n hx hb dX9_tellUncaught_86 rfl (lv_at hl 3 rfl) ?_
                      refine lv_aload hx hb dX9_tellUncaught_87 (lv_at hl 0 rfl) ?_
                      have hFc := free_all hD hS hA
                      refine W_msr2 (fun hm1 hm2 hm3 => ?_)
                      refine va_callv (va_runV (As := [.ref (ad (50 + 16 * j_298))]) (rest := []) ⟨hx, hb, hml, hown, hg⟩ (c_X9_askHandlers l dC dI kc ws_280 ad ga_275 gc_276 M n_277 f_278 T G_279 K F R j_298 H.size (hpS H) hQ ⟨i1_289, i2_290, i3_291, i4_292, i5_293, i6_294, i7_295, i8_296, i9_297⟩ (by show j_298 < M; omega) (by show R ≤ 310000; omega)) (cwV 1 hg (gw_V gm_methodLink_RX9_388_yX9_askHandlers gm_instanceMethod_yX9_askHandlers gm_selects_RX9_yX9_askHandlers_yX9_askHandlers gm_initialized_RX9 gm_code_yX9_askHandlers_cX9_askHandlers_7_none) rfl rfl rfl (by decide +kernel) ⟨Nat.le_of_ble_eq_true rfl, Nat.le_of_ble_eq_true rfl⟩) ⟨fun a U g mk q => by obtain ⟨q0, q1, q2, qP, qK, qD, qN⟩ := q; exact ⟨q0, q1, q2, qP, va_K.moved (u := U) (U := U.calling g mk a) (Vm.Alike.refl U.vm) qK, qD, nx_same (u := U) (U := U.calling g mk a) rfl qN⟩, va_recv hK hP (ci := 9) (q0 := 0) rfl hQ.x0, fun U hU hW => ⟨rfl, by rw [hU], by rw [hU], by rw [hU]; exact hP, va_K.moved hW.alike hK, hD.weaken (fun _ _ _ _ => trivial), nx_warm hW hN⟩⟩ rfl rfl hl.1 rfl (lv_room (Nat.le_of_ble_eq_true rfl)) dX9_tellUncaught_89 ⟨by show ce + 1200 ≤ 1800; omega, by show se + 50000 ≤ 67000; omega⟩) hS (fun q _ h => hFc q h) hFc (fun u_306 t H1 locs ht hvm hw hB hz1 hk1 hS => ?_)
                      obtain ⟨ad_307, ga_308, gc_309, M_310, n_311, f_312, T_313, G_314, K_315, F_316⟩ := u_306
                      have hB : ∃ w : va_W, va_P (dC, dI) vwCl w t.heap ∧ va_D (va_A ws_280 H.size) w ∧ Pic9 kc w ad ga_308 gc_309 M n_311 f_312 T G_314 K F ∧ I9 M n_311 T gc_309 G_314 K R ∧ hpS t.heap + (260 * M + 2 * S9 M gc_276) ≤ hpS H + (260 * M + 2 * S9 M gc_309) ∧ 16 * t.heap.size + (256 * M + S9 M gc_276) ≤ 16 * H.size + (256 * M + S9 M gc_309) ∧ (n_277 0).toInt ≤ (n_311 0).toInt := hB
                      rw [ht] at hB
                      obtain ⟨ws_317, hP, hD, hQ, hI_319, hy1, hy2, hn_318⟩ := hB
                      have hD := hD.weaken (fun k q _ h => hFc _ h)
                      obtain ⟨i1_320, i2_321, i3_322, i4_323, i5_324, i6_325, i7_326, i8_327, i9_328⟩ := id hI_319
                      have q1_ := i1_320
                      unfold i1 at q1_
                      have hSl := S9_le i8_327 i9_328
                      have hb0_ := i8_327.2.1 0 (by omega)
                      have hb1_ := i8_327.2.1 1 (by omega)
                      have hb2_ := i8_327.2.1 2 (by omega)
                      refine W_msr2 (fun hn1 hn2 hn3 => ?_)
                      obtain ⟨ce2, se2, hk3, hk4, hr1, hr2⟩ : ∃ c2 s2 : Nat, H1.size ≤ s.heap.size + c2 ∧ hpS H1 ≤ hpS s.heap + s2 ∧ s2 + (260 * M + 2 * S9 M gc) ≤ (260 * M + 2 * S9 M gc_309) ∧ 16 * c2 + (256 * M + S9 M gc) ≤ (256 * M + S9 M gc_309) := ⟨H1.size - s.heap.size, hpS H1 - hpS s.heap, by omega, by omega, by have := hS.1; omega, by have := hS.1; omega⟩
                      refine W_tightP hk3 hk4 ?_
                      clear hm1 hm2 hm3 hn1 hn2 hn3 hk3 hk4
                      clear hk1 hz1
                      generalize ce2 = ce, se2 = se at hr1 hr2 ⊢
                      generalize H1 = H at hP hS ⊢
                      have w_329 : S9 M gc_309 + gc_276 1 ≤ S9 M gc_276 + gc_309 1 ∧ (n_311 0).toInt = (n_277 0).toInt := hw
                      refine lv_aload hx hb dX9_tellUncaught_92 (lv_at hl 0 rfl) ?_
                      refine va_get (D := (dC, dI)) (ci := 7) (v := .ref (ad (50 + 16 * j_298 + 1))) (C := RX7) (T := TX7) (N := 15) hx hb hg gb_7 hown hK hP (50 + 16 * j_298) (hQ.b0 hj_298) rfl 10 (by decide) (hg _ gm_fieldLink_RX9_151_ErrandGuild_Run_kin_LErrandGuild_Kin_) (fun _ h9 => h9) rfl dX9_tellUncaught_94 ?_
                      refine va_get (D := (dC, dI)) (ci := 4) (v := va_rf (rA9 ad (K j_298 4))) (C := RX4) (T := TX4) (N := 9) hx hb hg gb_4 hown hK hP (50 + 16 * j_298 + 1) (hQ.b1 hj_298) rfl 7 (by decide) (hg _ gm_fieldLink_RX9_228_ErrandGuild_Kin_nextSibling_LErrandGuild_Run_) (fun _ h9 => h9) rfl dX9_tellUncaught_97 ?_
                      rcases eo_330 : K j_298 4 with _ | j_331
                      · refine W.eq (g2 := F0 m 100 ls [.null]) (by first | rfl | (rw [eo_330]; rfl)) ?_
                        refine lv_astoreN (lv' := [(4, .null), (3, .int 0), (2, .ref (ad (50 + 16 * j_2))), (0, .ref (ad 0)), (1, .ref (ad (50 + 16 * i)))]) hx hb dX9_tellUncaught_100 hl (by decide) rfl (fun ls hl => ?_)
                        refine lv_goto (tgt := 61) hx hb dX9_tellUncaught_102 (by decide) ?_
                        exact ih_287  none  ws_317 ga_308 gc_309 n_311 f_312 G_314 ce se H locs ls (by simp only [chM] at *; omega) (fun _ h => by cases h) (by show S9 M gc_309 + gc 1 ≤ S9 M gc + gc_309 1; omega) (by show (n_311 0).toInt = (n 0).toInt; omega) (by show (n 0).toInt ≤ (n_311 0).toInt; omega) hQ ⟨i1_320, i2_321, i3_322, i4_323, i5_324, i6_325, i7_326, i8_327, i9_328⟩ hr1 hr2 hP hD hS (lv_sub hl [0, 1, 2, 3, 4] rfl)
                      · refine W.eq (g2 := F0 m 100 ls [.ref (ad (50 + 16 * j_331))]) (by first | rfl | (rw [eo_330]; rfl)) ?_
                        have hj_331 : j_331 < M := i3_322 _ _ _ hj_298 eo_330
                        refine lv_astore (lv' := [(4, .ref (ad (50 + 16 * j_331))), (3, .int 0), (2, .ref (ad (50 + 16 * j_2))), (0, .ref (ad 0)), (1, .ref (ad (50 + 16 * i)))]) hx hb dX9_tellUncaught_100 hl (by decide) rfl (fun ls hl => ?_)
                        refine lv_goto (tgt := 61) hx hb dX9_tellUncaught_102 (by decide) ?_
                        exact ih_287  (some j_331)  ws_317 ga_308 gc_309 n_311 f_312 G_314 ce se H locs ls (by have := i4_323 _ _ hj_298 eo_330; simp only [chM] at *; omega) (fun _ h => by cases h; exact hj_331) (by show S9 M gc_309 + gc 1 ≤ S9 M gc + gc_309 1; omega) (by show (n_311 0).toInt = (n 0).toInt; omega) (by show (n 0).toInt ≤ (n_311 0).toInt; omega) hQ ⟨i1_320, i2_321, i3_322, i4_323, i5_324, i6_325, i7_326, i8_327, i9_328⟩ hr1 hr2 hP hD hS (lv_sub hl [0, 1, 2, 3, 4] rfl)
            exact L61 _  none  ws ga gc n f G ce se _ _ _ (Nat.lt_succ_self _) (fun _ h => by cases h) (by show S9 M gc + gc 1 ≤ S9 M gc + gc 1; omega) (by show (n 0).toInt = (n 0).toInt; omega) (by show (n 0).toInt ≤ (n 0).toInt; omega) hQ ⟨h_i1, h_i2, h_i3, h_i4, h_i5, h_i6, h_i7, h_i8, h_i9⟩ hr1 hr2 hP hD hS (lv_sub hl [0, 1, 2, 3, 4] rfl)
          · refine W.eq (g2 := F0 m 59 ls [.ref (ad (50 + 16 * j_273))]) (by first | rfl | (rw [eo_272]; rfl)) ?_
            have hj_273 : j_273 < M := h_i3 _ _ _ hi eo_272
            refine lv_astore (lv' := [(4, .ref (ad (50 + 16 * j_273))), (3, .int 0), (2, .ref (ad (50 + 16 * j_2))), (0, .ref (ad 0)), (1, .ref (ad (50 + 16 * i)))]) hx hb dX9_tellUncaught_59 hl (by decide) rfl (fun ls hl => ?_)
            have L61 : ∀ (fuel : Nat)  (o_332 : Option Nat)  (ws_338 : va_W) (ga_333 : Nat → Nat) (gc_334 : Nat → Nat) (n_335 : Nat → Int32) (f_336 : Nat → Nat → Int32) (G_337 : Nat → Nat → Int32) (ce se : Nat) (H : Heap) (locs : List Loc) (ls : Array Slot), chM M o_332 < fuel → (∀ j : Nat, o_332 = some j → j < M) → (S9 M gc_334 + gc 1 ≤ S9 M gc + gc_334 1) → ((n_335 0).toInt = (n 0).toInt) → ((n 0).toInt ≤ (n_335 0).toInt) → Pic9 kc ws_338 ad ga_333 gc_334 M n_335 f_336 T G_337 K F → I9 M n_335 T gc_334 G_337 K R → (se + (260 * M + 2 * S9 M gc) ≤ (260 * M + 2 * S9 M gc_334)) → (16 * ce + (256 * M + S9 M gc) ≤ (256 * M + S9 M gc_334)) → va_P (dC, dI) vwCl ws_338 H → va_D A ws_338 → va_S A s.heap H locs → lv_has ls 5 [(4, va_rf (rA9 ad o_332)), (3, .int 0), (2, .ref (ad (50 + 16 * j_2))), (0, .ref (ad 0)), (1, .ref (ad (50 + 16 * i)))] → W p l e (headSpec (.code yX9_tellUncaught cX9_tellUncaught 5 none :: gw) ({ frames := 4, cells := 1800, slots := 67000, locals := 152 })).room s m ([.ref (ad 0), .ref (ad (50 + 16 * i))] : List Value).toArray below meth c H locs ce se (MQ below (va_Qv (fun (u : (Nat → Nat) × (Nat → Nat) × (Nat → Nat) × Nat × (Nat → Int32) × (Nat → Nat → Int32) × (Nat → Option Nat) × (Nat → Nat → Int32) × (Nat → Nat → Option Nat) × (Nat → Nat → Nat → Int32)) => S9 M u.2.2.1 + gc 1 ≤ S9 M gc + u.2.2.1 1 ∧ (u.2.2.2.2.1 0).toInt = (n 0).toInt) (fun u t => ∃ w : va_W, va_P (dC, dI) vwCl w t.heap ∧ va_D A w ∧ Pic9 kc w ad u.2.1 u.2.2.1 M u.2.2.2.2.1 u.2.2.2.2.2.1 T u.2.2.2.2.2.2.2.1 K F ∧ I9 M u.2.2.2.2.1 T u.2.2.1 u.2.2.2.2.2.2.2.1 K R ∧ hpS t.heap + (260 * M + 2 * S9 M gc) ≤ (hpS s.heap) + (260 * M + 2 * S9 M u.2.2.1) ∧ 16 * t.heap.size + (256 * M + S9 M gc) ≤ 16 * s.heap.size + (256 * M + S9 M u.2.2.1) ∧ (n 0).toInt ≤ (u.2.2.2.2.1 0).toInt) A) ([.ref (ad 0), .ref (ad (50 + 16 * i))] : List Value).toArray s 1800 67000 A) (F0 m 61 ls []) := by
              intro fuel
              induction fuel with
              | zero => intro o_332 ws_338 ga_333 gc_334 n_335 f_336 G_337 ce se H locs ls hm; exact absurd hm (Nat.not_lt_zero _)
              | succ fuel_346 ih_345 =>
                intro o_332 ws_338 ga_333 gc_334 n_335 f_336 G_337 ce se H locs ls hm_339 v_340 v_341 v_342 v_343 hQ hI_344 hr1 hr2 hP hD hS hl
                obtain ⟨i1_347, i2_348, i3_349, i4_350, i5_351, i6_352, i7_353, i8_354, i9_355⟩ := id hI_344
                have q1_ := i1_347
                unfold i1 at q1_
                have hSl := S9_le i8_354 i9_355
                have hb0_ := i8_354.2.1 0 (by omega)
                have hb1_ := i8_354.2.1 1 (by omega)
                have hb2_ := i8_354.2.1 2 (by omega)
                rcases o_332 with _ | j_356
                · have hl : lv_has ls 5 [(4, .null), (3, .int 0), (2, .ref (ad (50 + 16 * j_2))), (0, .ref (ad 0)), (1, .ref (ad (50 + 16 * i)))] := hl
                  refine lv_aloadN hx hb dX9_tellUncaught_61 (lv_at hl 0 rfl) ?_
                  refine lv_ifnullN (tgt := 105) hx hb dX9_tellUncaught_63 (by decide) ?_
                  refine W_msr2 (fun hm1 hm2 hm3 => ?_)
                  have hSl := S9_le i8_354 i9_355
                  have hb0_ := i8_354.2.1 0 (by omega)
                  have hb1_ := i8_354.2.1 1 (by omega)
                  have hb2_ := i8_354.2.1 2 (by omega)
                  refine W.widen (k := 1800) (n := 67000) (by omega) (by omega) ?_
                  exact W.vret hx hb hr (fun t ht hW => ⟨⟨(ad, ga_333, gc_334, M, n_335, f_336, T, G_337, K, F), rfl, (by show S9 M gc_334 + gc 1 ≤ S9 M gc + gc_334 1 ∧ (n_335 0).toInt = (n 0).toInt; omega), ws_338, by rw [ht]; exact hP, hD, hQ, ⟨i1_347, i2_348, i3_349, i4_350, i5_351, i6_352, i7_353, i8_354, i9_355⟩, by rw [ht]; show hpS H + (260 * M + 2 * S9 M gc) ≤ hpS s.heap + (260 * M + 2 * S9 M gc_334); omega, by rw [ht]; show 16 * H.size + (256 * M + S9 M gc) ≤ 16 * s.heap.size + (256 * M + S9 M gc_334); omega, by show (n 0).toInt ≤ (n_335 0).toInt; omega⟩, hS.F ht⟩) hS.2.2 dX9_tellUncaught_105
                · have hl : lv_has ls 5 [(4, .ref (ad (50 + 16 * j_356))), (3, .int 0), (2, .ref (ad (50 + 16 * j_2))), (0, .ref (ad 0)), (1, .ref (ad (50 + 16 * i)))] := hl
                  have hj_356 : j_356 < M := v_340 _ rfl
                  refine lv_aload hx hb dX9_tellUncaught_61 (lv_at hl 0 rfl) ?_
                  refine lv_ifnull hx hb dX9_tellUncaught_63 ?_
                  refine lv_aload hx hb dX9_tellUncaught_66 (lv_at hl 0 rfl) ?_
                  refine va_get (D := (dC, dI)) (ci := 7) (v := .int (G_337 j_356 2)) (C := RX7) (T := TX7) (N := 15) hx hb hg gb_7 hown hK hP (50 + 16 * j_356) (hQ.b0 hj_356) rfl 2 (by decide) (hg _ gm_fieldLink_RX9_145_ErrandGuild_Run_state_I_) (fun _ h9 => h9) rfl dX9_tellUncaught_68 ?_
                  refine lv_iconst (v := 4) hx hb dX9_tellUncaught_71 (by decide) ?_
                  refine lv_icmp_ne (tgt := 92) hx hb dX9_tellUncaught_72 (by decide) (fun c_357 => ?_) (fun c_357 => ?_)
                  · simp only [i_lt, i_le, i_eq, ti_4] at c_357
                    refine lv_aload hx hb dX9_tellUncaught_92 (lv_at hl 0 rfl) ?_
                    refine va_get (D := (dC, dI)) (ci := 7) (v := .ref (ad (50 + 16 * j_356 + 1))) (C := RX7) (T := TX7) (N := 15) hx hb hg gb_7 hown hK hP (50 + 16 * j_356) (hQ.b0 hj_356) rfl 10 (by decide) (hg _ gm_fieldLink_RX9_151_ErrandGuild_Run_kin_LErrandGuild_Kin_) (fun _ h9 => h9) rfl dX9_tellUncaught_94 ?_
                    refine va_get (D := (dC, dI)) (ci := 4) (v := va_rf (rA9 ad (K j_356 4))) (C := RX4) (T := TX4) (N := 9) hx hb hg gb_4 hown hK hP (50 + 16 * j_356 + 1) (hQ.b1 hj_356) rfl 7 (by decide) (hg _ gm_fieldLink_RX9_228_ErrandGuild_Kin_nextSibling_LErrandGuild_Run_) (fun _ h9 => h9) rfl dX9_tellUncaught_97 ?_
                    rcases eo_358 : K j_356 4 with _ | j_359
                    · refine W.eq (g2 := F0 m 100 ls [.null]) (by first | rfl | (rw [eo_358]; rfl)) ?_
                      refine lv_astoreN (lv' := [(4, .null), (3, .int 0), (2, .ref (ad (50 + 16 * j_2))), (0, .ref (ad 0)), (1, .ref (ad (50 + 16 * i)))]) hx hb dX9_tellUncaught_100 hl (by decide) rfl (fun ls hl => ?_)
                      refine lv_goto (tgt := 61) hx hb dX9_tellUncaught_102 (by decide) ?_
                      exact ih_345  none  ws_338 ga_333 gc_334 n_335 f_336 G_337 ce se H locs ls (by simp only [chM] at *; omega) (fun _ h => by cases h) (by show S9 M gc_334 + gc 1 ≤ S9 M gc + gc_334 1; omega) (by show (n_335 0).toInt = (n 0).toInt; omega) (by show (n 0).toInt ≤ (n_335 0).toInt; omega) hQ ⟨i1_347, i2_348, i3_349, i4_350, i5_351, i6_352, i7_353, i8_354, i9_355⟩ hr1 hr2 hP hD hS (lv_sub hl [0, 1, 2, 3, 4] rfl)
                    · refine W.eq (g2 := F0 m 100 ls [.ref (ad (50 + 16 * j_359))]) (by first | rfl | (rw [eo_358]; rfl)) ?_
                      have hj_359 : j_359 < M := i3_349 _ _ _ hj_356 eo_358
                      refine lv_astore (lv' := [(4, .ref (ad (50 + 16 * j_359))), (3, .int 0), (2, .ref (ad (50 + 16 * j_2))), (0, .ref (ad 0)), (1, .ref (ad (50 + 16 * i)))]) hx hb dX9_tellUncaught_100 hl (by decide) rfl (fun ls hl => ?_)
                      refine lv_goto (tgt := 61) hx hb dX9_tellUncaught_102 (by decide) ?_
                      exact ih_345  (some j_359)  ws_338 ga_333 gc_334 n_335 f_336 G_337 ce se H locs ls (by have := i4_350 _ _ hj_356 eo_358; simp only [chM] at *; omega) (fun _ h => by cases h; exact hj_359) (by show S9 M gc_334 + gc 1 ≤ S9 M gc + gc_334 1; omega) (by show (n_335 0).toInt = (n 0).toInt; omega) (by show (n 0).toInt ≤ (n_335 0).toInt; omega) hQ ⟨i1_347, i2_348, i3_349, i4_350, i5_351, i6_352, i7_353, i8_354, i9_355⟩ hr1 hr2 hP hD hS (lv_sub hl [0, 1, 2, 3, 4] rfl)
                  · simp only [i_lt, i_le, i_eq, ti_4] at c_357
                    refine lv_aload hx hb dX9_tellUncaught_75 (lv_at hl 0 rfl) ?_
                    refine va_get (D := (dC, dI)) (ci := 7) (v := .ref (ad (50 + 16 * j_356 + 1))) (C := RX7) (T := TX7) (N := 15) hx hb hg gb_7 hown hK hP (50 + 16 * j_356) (hQ.b0 hj_356) rfl 10 (by decide) (hg _ gm_fieldLink_RX9_151_ErrandGuild_Run_kin_LErrandGuild_Kin_) (fun _ h9 => h9) rfl dX9_tellUncaught_77 ?_
                    refine va_get (D := (dC, dI)) (ci := 4) (v := .int (G_337 j_356 12)) (C := RX4) (T := TX4) (N := 9) hx hb hg gb_4 hown hK hP (50 + 16 * j_356 + 1) (hQ.b1 hj_356) rfl 4 (by decide) (hg _ gm_fieldLink_RX9_379_ErrandGuild_Kin_claim_I_) (fun _ h9 => h9) rfl dX9_tellUncaught_80 ?_
                    refine lv_if_ne (tgt := 92) hx hb dX9_tellUncaught_83 (by decide) (fun c_360 => ?_) (fun c_360 => ?_)
                    · simp only [i_lt, i_le, i_eq, ti_0] at c_360
                      refine lv_aload hx hb dX9_tellUncaught_92 (lv_at hl 0 rfl) ?_
                      refine va_get (D := (dC, dI)) (ci := 7) (v := .ref (ad (50 + 16 * j_356 + 1))) (C := RX7) (T := TX7) (N := 15) hx hb hg gb_7 hown hK hP (50 + 16 * j_356) (hQ.b0 hj_356) rfl 10 (by decide) (hg _ gm_fieldLink_RX9_151_ErrandGuild_Run_kin_LErrandGuild_Kin_) (fun _ h9 => h9) rfl dX9_tellUncaught_94 ?_
                      refine va_get (D := (dC, dI)) (ci := 4) (v := va_rf (rA9 ad (K j_356 4))) (C := RX4) (T := TX4) (N := 9) hx hb hg gb_4 hown hK hP (50 + 16 * j_356 + 1) (hQ.b1 hj_356) rfl 7 (by decide) (hg _ gm_fieldLink_RX9_228_ErrandGuild_Kin_nextSibling_LErrandGuild_Run_) (fun _ h9 => h9) rfl dX9_tellUncaught_97 ?_
                      rcases eo_361 : K j_356 4 with _ | j_362
                      · refine W.eq (g2 := F0 m 100 ls [.null]) (by first | rfl | (rw [eo_361]; rfl)) ?_
                        refine lv_astoreN (lv' := [(4, .null), (3, .int 0), (2, .ref (ad (50 + 16 * j_2))), (0, .ref (ad 0)), (1, .ref (ad (50 + 16 * i)))]) hx hb dX9_tellUncaught_100 hl (by decide) rfl (fun ls hl => ?_)
                        refine lv_goto (tgt := 61) hx hb dX9_tellUncaught_102 (by decide) ?_
                        exact ih_345  none  ws_338 ga_333 gc_334 n_335 f_336 G_337 ce se H locs ls (by simp only [chM] at *; omega) (fun _ h => by cases h) (by show S9 M gc_334 + gc 1 ≤ S9 M gc + gc_334 1; omega) (by show (n_335 0).toInt = (n 0).toInt; omega) (by show (n 0).toInt ≤ (n_335 0).toInt; omega) hQ ⟨i1_347, i2_348, i3_349, i4_350, i5_351, i6_352, i7_353, i8_354, i9_355⟩ hr1 hr2 hP hD hS (lv_sub hl [0, 1, 2, 3, 4] rfl)
                      · refine W.eq (g2 := F0 m 100 ls [.ref (ad (50 + 16 * j_362))]) (by first | rfl | (rw [eo_361]; rfl)) ?_
                        have hj_362 : j_362 < M := i3_349 _ _ _ hj_356 eo_361
                        refine lv_astore (lv' := [(4, .ref (ad (50 + 16 * j_362))), (3, .int 0), (2, .ref (ad (50 + 16 * j_2))), (0, .ref (ad 0)), (1, .ref (ad (50 + 16 * i)))]) hx hb dX9_tellUncaught_100 hl (by decide) rfl (fun ls hl => ?_)
                        refine lv_goto (tgt := 61) hx hb dX9_tellUncaught_102 (by decide) ?_
                        exact ih_345  (some j_362)  ws_338 ga_333 gc_334 n_335 f_336 G_337 ce se H locs ls (by have := i4_350 _ _ hj_356 eo_361; simp only [chM] at *; omega) (fun _ h => by cases h; exact hj_362) (by show S9 M gc_334 + gc 1 ≤ S9 M gc + gc_334 1; omega) (by show (n_335 0).toInt = (n 0).toInt; omega) (by show (n 0).toInt ≤ (n_335 0).toInt; omega) hQ ⟨i1_347, i2_348, i3_349, i4_350, i5_351, i6_352, i7_353, i8_354, i9_355⟩ hr1 hr2 hP hD hS (lv_sub hl [0, 1, 2, 3, 4] rfl)
                    · simp only [i_lt, i_le, i_eq, ti_0] at c_360
                      refine lv_aload_n hx hb dX9_tellUncaught_86 rfl (lv_at hl 3 rfl) ?_
                      refine lv_aload hx hb dX9_tellUncaught_87 (lv_at hl 0 rfl) ?_
                      have hFc := free_all hD hS hA
                      refine W_msr2 (fun hm1 hm2 hm3 => ?_)
                      refine va_callv (va_runV (As := [.ref (ad (50 + 16 * j_356))]) (rest := []) ⟨hx, hb, hml, hown, hg⟩ (c_X9_askHandlers l dC dI kc ws_338 ad ga_333 gc_334 M n_335 f_336 T G_337 K F R j_356 H.size (hpS H) hQ ⟨i1_347, i2_348, i3_349, i4_350, i5_351, i6_352, i7_353, i8_354, i9_355⟩ (by show j_356 < M; omega) (by show R ≤ 310000; omega)) (cwV 1 hg (gw_V gm_methodLink_RX9_388_yX9_askHandlers gm_instanceMethod_yX9_askHandlers gm_selects_RX9_yX9_askHandlers_yX9_askHandlers gm_initialized_RX9 gm_code_yX9_askHandlers_cX9_askHandlers_7_none) rfl rfl rfl (by decide +kernel) ⟨Nat.le_of_ble_eq_true rfl, Nat.le_of_ble_eq_true rfl⟩) ⟨fun a U g mk q => by obtain ⟨q0, q1, q2, qP, qK, qD, qN⟩ := q; exact ⟨q0, q1, q2, qP, va_K.moved (u := U) (U := U.calling g mk a) (Vm.Alike.refl U.vm) qK, qD, nx_same (u := U) (U := U.calling g mk a) rfl qN⟩, va_recv hK hP (ci := 9) (q0 := 0) rfl hQ.x0, fun U hU hW => ⟨rfl, by rw [hU], by rw [hU], by rw [hU]; exact hP, va_K.moved hW.alike hK, hD.weaken (fun _ _ _ _ => trivial), nx_warm hW hN⟩⟩ rfl rfl hl.1 rfl (lv_room (Nat.le_of_ble_eq_true rfl)) dX9_tellUncaught_89 ⟨by show ce + 1200 ≤ 1800; omega, by show se + 50000 ≤ 67000; omega⟩) hS (fun q _ h => hFc q h) hFc (fun u_364 t H1 locs ht hvm hw hB hz1 hk1 hS => ?_)
                      obtain ⟨ad_365, ga_366, gc_367, M_368, n_369, f_370, T_371, G_372, K_373, F_374⟩ := u_364
                      have hB : ∃ w : va_W, va_P (dC, dI) vwCl w t.heap ∧ va_D (va_A ws_338 H.size) w ∧ Pic9 kc w ad ga_366 gc_367 M n_369 f_370 T G_372 K F ∧ I9 M n_369 T gc_367 G_372 K R ∧ hpS t.heap + (260 * M + 2 * S9 M gc_334) ≤ hpS H + (260 * M + 2 * S9 M gc_367) ∧ 16 * t.heap.size + (256 * M + S9 M gc_334) ≤ 16 * H.size + (256 * M + S9 M gc_367) ∧ (n_335 0).toInt ≤ (n_369 0).toInt := hB
                      rw [ht] at hB
                      obtain ⟨ws_375, hP, hD, hQ, hI_377, hy1, hy2, hn_376⟩ := hB
                      have hD := hD.weaken (fun k q _ h => hFc _ h)
                      obtain ⟨i1_378, i2_379, i3_380, i4_381, i5_382, i6_383, i7_384, i8_385, i9_386⟩ := id hI_377
                      have q1_ := i1_378
                      unfold i1 at q1_
                      have hSl := S9_le i8_385 i9_386
                      have hb0_ := i8_385.2.1 0 (by omega)
                      have hb1_ := i8_385.2.1 1 (by omega)
                      have hb2_ := i8_385.2.1 2 (by omega)
                      refine W_msr2 (fun hn1 hn2 hn3 => ?_)
                      obtain ⟨ce2, se2, hk3, hk4, hr1, hr2⟩ : ∃ c2 s2 : Nat, H1.size ≤ s.heap.size + c2 ∧ hpS H1 ≤ hpS s.heap + s2 ∧ s2 + (260 * M + 2 * S9 M gc) ≤ (260 * M + 2 * S9 M gc_367) ∧ 16 * c2 + (256 * M + S9 M gc) ≤ (256 * M + S9 M gc_367) := ⟨H1.size - s.heap.size, hpS H1 - hpS s.heap, by omega, by omega, by have := hS.1; omega, by have := hS.1; omega⟩
                      refine W_tightP hk3 hk4 ?_
                      clear hm1 hm2 hm3 hn1 hn2 hn3 hk3 hk4
                      clear hk1 hz1
                      generalize ce2 = ce, se2 = se at hr1 hr2 ⊢
                      generalize H1 = H at hP hS ⊢
                      have w_387 : S9 M gc_367 + gc_334 1 ≤ S9 M gc_334 + gc_367 1 ∧ (n_369 0).toInt = (n_335 0).toInt := hw
                      refine lv_aload hx hb dX9_tellUncaught_92 (lv_at hl 0 rfl) ?_
                      refine va_get (D := (dC, dI)) (ci := 7) (v := .ref (ad (50 + 16 * j_356 + 1))) (C := RX7) (T := TX7) (N := 15) hx hb hg gb_7 hown hK hP (50 + 16 * j_356) (hQ.b0 hj_356) rfl 10 (by decide) (hg _ gm_fieldLink_RX9_151_ErrandGuild_Run_kin_LErrandGuild_Kin_) (fun _ h9 => h9) rfl dX9_tellUncaught_94 ?_
                      refine va_get (D := (dC, dI)) (ci := 4) (v := va_rf (rA9 ad (K j_356 4))) (C := RX4) (T := TX4) (N := 9) hx hb hg gb_4 hown hK hP (50 + 16 * j_356 + 1) (hQ.b1 hj_356) rfl 7 (by decide) (hg _ gm_fieldLink_RX9_228_ErrandGuild_Kin_nextSibling_LErrandGuild_Run_) (fun _ h9 => h9) rfl dX9_tellUncaught_97 ?_
                      rcases eo_388 : K j_356 4 with _ | j_389
                      · refine W.eq (g2 := F0 m 100 ls [.null]) (by first | rfl | (rw [eo_388]; rfl)) ?_
                        refine lv_astoreN (lv' := [(4, .null), (3, .int 0), (2, .ref (ad (50 + 16 * j_2))), (0, .ref (ad 0)), (1, .ref (ad (50 + 16 * i)))]) hx hb dX9_tellUncaught_100 hl (by decide) rfl (fun ls hl => ?_)
                        refine lv_goto (tgt := 61) hx hb dX9_tellUncaught_102 (by decide) ?_
                        exact ih_345  none  ws_375 ga_366 gc_367 n_369 f_370 G_372 ce se H locs ls (by simp only [chM] at *; omega) (fun _ h => by cases h) (by show S9 M gc_367 + gc 1 ≤ S9 M gc + gc_367 1; omega) (by show (n_369 0).toInt = (n 0).toInt; omega) (by show (n 0).toInt ≤ (n_369 0).toInt; omega) hQ ⟨i1_378, i2_379, i3_380, i4_381, i5_382, i6_383, i7_384, i8_385, i9_386⟩ hr1 hr2 hP hD hS (lv_sub hl [0, 1, 2, 3, 4] rfl)
                      · refine W.eq (g2 := F0 m 100 ls [.ref (ad (50 + 16 * j_389))]) (by first | rfl | (rw [eo_388]; rfl)) ?_
                        have hj_389 : j_389 < M := i3_380 _ _ _ hj_356 eo_388
                        refine lv_astore (lv' := [(4, .ref (ad (50 + 16 * j_389))), (3, .int 0), (2, .ref (ad (50 + 16 * j_2))), (0, .ref (ad 0)), (1, .ref (ad (50 + 16 * i)))]) hx hb dX9_tellUncaught_100 hl (by decide) rfl (fun ls hl => ?_)
                        refine lv_goto (tgt := 61) hx hb dX9_tellUncaught_102 (by decide) ?_
                        exact ih_345  (some j_389)  ws_375 ga_366 gc_367 n_369 f_370 G_372 ce se H locs ls (by have := i4_381 _ _ hj_356 eo_388; simp only [chM] at *; omega) (fun _ h => by cases h; exact hj_389) (by show S9 M gc_367 + gc 1 ≤ S9 M gc + gc_367 1; omega) (by show (n_369 0).toInt = (n 0).toInt; omega) (by show (n 0).toInt ≤ (n_369 0).toInt; omega) hQ ⟨i1_378, i2_379, i3_380, i4_381, i5_382, i6_383, i7_384, i8_385, i9_386⟩ hr1 hr2 hP hD hS (lv_sub hl [0, 1, 2, 3, 4] rfl)
            exact L61 _  (some j_273)  ws ga gc n f G ce se _ _ _ (Nat.lt_succ_self _) (fun _ h => by cases h; exact hj_273) (by show S9 M gc + gc 1 ≤ S9 M gc + gc 1; omega) (by show (n 0).toInt = (n 0).toInt; omega) (by show (n 0).toInt ≤ (n 0).toInt; omega) hQ ⟨h_i1, h_i2, h_i3, h_i4, h_i5, h_i6, h_i7, h_i8, h_i9⟩ hr1 hr2 hP hD hS (lv_sub hl [0, 1, 2, 3, 4] rfl)
        · simp only [i_lt, i_le, i_eq, ti_4] at c_271
          refine lv_iload_n hx hb dX9_tellUncaught_43 rfl (lv_at hl 0 rfl) ?_
          refine lv_if_eq (tgt := 52) hx hb dX9_tellUncaught_44 (by decide) (fun _ => ?_) (fun c_390 => absurd c_390 (by decide))
          refine lv_aload_n hx hb dX9_tellUncaught_52 rfl (lv_at hl 3 rfl) ?_
          refine va_get (D := (dC, dI)) (ci := 7) (v := .ref (ad (50 + 16 * i + 1))) (C := RX7) (T := TX7) (N := 15) hx hb hg gb_7 hown hK hP (50 + 16 * i) (hQ.b0 hi) rfl 10 (by decide) (hg _ gm_fieldLink_RX9_151_ErrandGuild_Run_kin_LErrandGuild_Kin_) (fun _ h9 => h9) rfl dX9_tellUncaught_53 ?_
          refine va_get (D := (dC, dI)) (ci := 4) (v := va_rf (rA9 ad (K i 2))) (C := RX4) (T := TX4) (N := 9) hx hb hg gb_4 hown hK hP (50 + 16 * i + 1) (hQ.b1 hi) rfl 5 (by decide) (hg _ gm_fieldLink_RX9_225_ErrandGuild_Kin_firstChild_LErrandGuild_Run_) (fun _ h9 => h9) rfl dX9_tellUncaught_56 ?_
          rcases eo_391 : K i 2 with _ | j_392
          · refine W.eq (g2 := F0 m 59 ls [.null]) (by first | rfl | (rw [eo_391]; rfl)) ?_
            refine lv_astoreN (lv' := [(4, .null), (3, .int 0), (2, .ref (ad (50 + 16 * j_2))), (0, .ref (ad 0)), (1, .ref (ad (50 + 16 * i)))]) hx hb dX9_tellUncaught_59 hl (by decide) rfl (fun ls hl => ?_)
            have L61 : ∀ (fuel : Nat)  (o_393 : Option Nat)  (ws_399 : va_W) (ga_394 : Nat → Nat) (gc_395 : Nat → Nat) (n_396 : Nat → Int32) (f_397 : Nat → Nat → Int32) (G_398 : Nat → Nat → Int32) (ce se : Nat) (H : Heap) (locs : List Loc) (ls : Array Slot), chM M o_393 < fuel → (∀ j : Nat, o_393 = some j → j < M) → (S9 M gc_395 + gc 1 ≤ S9 M gc + gc_395 1) → ((n_396 0).toInt = (n 0).toInt) → ((n 0).toInt ≤ (n_396 0).toInt) → Pic9 kc ws_399 ad ga_394 gc_395 M n_396 f_397 T G_398 K F → I9 M n_396 T gc_395 G_398 K R → (se + (260 * M + 2 * S9 M gc) ≤ (260 * M + 2 * S9 M gc_395)) → (16 * ce + (256 * M + S9 M gc) ≤ (256 * M + S9 M gc_395)) → va_P (dC, dI) vwCl ws_399 H → va_D A ws_399 → va_S A s.heap H locs → lv_has ls 5 [(4, va_rf (rA9 ad o_393)), (3, .int 0), (2, .ref (ad (50 + 16 * j_2))), (0, .ref (ad 0)), (1, .ref (ad (50 + 16 * i)))] → W p l e (headSpec (.code yX9_tellUncaught cX9_tellUncaught 5 none :: gw) ({ frames := 4, cells := 1800, slots := 67000, locals := 152 })).room s m ([.ref (ad 0), .ref (ad (50 + 16 * i))] : List Value).toArray below meth c H locs ce se (MQ below (va_Qv (fun (u : (Nat → Nat) × (Nat → Nat) × (Nat → Nat) × Nat × (Nat → Int32) × (Nat → Nat → Int32) × (Nat → Option Nat) × (Nat → Nat → Int32) × (Nat → Nat → Option Nat) × (Nat → Nat → Nat → Int32)) => S9 M u.2.2.1 + gc 1 ≤ S9 M gc + u.2.2.1 1 ∧ (u.2.2.2.2.1 0).toInt = (n 0).toInt) (fun u t => ∃ w : va_W, va_P (dC, dI) vwCl w t.heap ∧ va_D A w ∧ Pic9 kc w ad u.2.1 u.2.2.1 M u.2.2.2.2.1 u.2.2.2.2.2.1 T u.2.2.2.2.2.2.2.1 K F ∧ I9 M u.2.2.2.2.1 T u.2.2.1 u.2.2.2.2.2.2.2.1 K R ∧ hpS t.heap + (260 * M + 2 * S9 M gc) ≤ (hpS s.heap) + (260 * M + 2 * S9 M u.2.2.1) ∧ 16 * t.heap.size + (256 * M + S9 M gc) ≤ 16 * s.heap.size + (256 * M + S9 M u.2.2.1) ∧ (n 0).toInt ≤ (u.2.2.2.2.1 0).toInt) A) ([.ref (ad 0), .ref (ad (50 + 16 * i))] : List Value).toArray s 1800 67000 A) (F0 m 61 ls []) := by
              intro fuel
              induction fuel with
              | zero => intro o_393 ws_399 ga_394 gc_395 n_396 f_397 G_398 ce se H locs ls hm; exact absurd hm (Nat.not_lt_zero _)
              | succ fuel_407 ih_406 =>
                intro o_393 ws_399 ga_394 gc_395 n_396 f_397 G_398 ce se H locs ls hm_400 v_401 v_402 v_403 v_404 hQ hI_405 hr1 hr2 hP hD hS hl
                obtain ⟨i1_408, i2_409, i3_410, i4_411, i5_412, i6_413, i7_414, i8_415, i9_416⟩ := id hI_405
                have q1_ := i1_408
                unfold i1 at q1_
                have hSl := S9_le i8_415 i9_416
                have hb0_ := i8_415.2.1 0 (by omega)
                have hb1_ := i8_415.2.1 1 (by omega)
                have hb2_ := i8_415.2.1 2 (by omega)
                rcases o_393 with _ | j_417
                · have hl : lv_has ls 5 [(4, .null), (3, .int 0), (2, .ref (ad (50 + 16 * j_2))), (0, .ref (ad 0)), (1, .ref (ad (50 + 16 * i)))] := hl
                  refine lv_aloadN hx hb dX9_tellUncaught_61 (lv_at hl 0 rfl) ?_
                  refine lv_ifnullN (tgt := 105) hx hb dX9_tellUncaught_63 (by decide) ?_
                  refine W_msr2 (fun hm1 hm2 hm3 => ?_)
                  have hSl := S9_le i8_415 i9_416
                  have hb0_ := i8_415.2.1 0 (by omega)
                  have hb1_ := i8_415.2.1 1 (by omega)
                  have hb2_ := i8_415.2.1 2 (by omega)
                  refine W.widen (k := 1800) (n := 67000) (by omega) (by omega) ?_
                  exact W.vret hx hb hr (fun t ht hW => ⟨⟨(ad, ga_394, gc_395, M, n_396, f_397, T, G_398, K, F), rfl, (by show S9 M gc_395 + gc 1 ≤ S9 M gc + gc_395 1 ∧ (n_396 0).toInt = (n 0).toInt; omega), ws_399, by rw [ht]; exact hP, hD, hQ, ⟨i1_408, i2_409, i3_410, i4_411, i5_412, i6_413, i7_414, i8_415, i9_416⟩, by rw [ht]; show hpS H + (260 * M + 2 * S9 M gc) ≤ hpS s.heap + (260 * M + 2 * S9 M gc_395); omega, by rw [ht]; show 16 * H.size + (256 * M + S9 M gc) ≤ 16 * s.heap.size + (256 * M + S9 M gc_395); omega, by show (n 0).toInt ≤ (n_396 0).toInt; omega⟩, hS.F ht⟩) hS.2.2 dX9_tellUncaught_105
                · have hl : lv_has ls 5 [(4, .ref (ad (50 + 16 * j_417))), (3, .int 0), (2, .ref (ad (50 + 16 * j_2))), (0, .ref (ad 0)), (1, .ref (ad (50 + 16 * i)))] := hl
                  have hj_417 : j_417 < M := v_401 _ rfl
                  refine lv_aload hx hb dX9_tellUncaught_61 (lv_at hl 0 rfl) ?_
                  refine lv_ifnull hx hb dX9_tellUncaught_63 ?_
                  refine lv_aload hx hb dX9_tellUncaught_66 (lv_at hl 0 rfl) ?_
                  refine va_get (D := (dC, dI)) (ci := 7) (v := .int (G_398 j_417 2)) (C := RX7) (T := TX7) (N := 15) hx hb hg gb_7 hown hK hP (50 + 16 * j_417) (hQ.b0 hj_417) rfl 2 (by decide) (hg _ gm_fieldLink_RX9_145_ErrandGuild_Run_state_I_) (fun _ h9 => h9) rfl dX9_tellUncaught_68 ?_
                  refine lv_iconst (v := 4) hx hb dX9_tellUncaught_71 (by decide) ?_
                  refine lv_icmp_ne (tgt := 92) hx hb dX9_tellUncaught_72 (by decide) (fun c_418 => ?_) (fun c_418 => ?_)
                  · simp only [i_lt, i_le, i_eq, ti_4] at c_418
                    refine lv_aload hx hb dX9_tellUncaught_92 (lv_at hl 0 rfl) ?_
                    refine va_get (D := (dC, dI)) (ci := 7) (v := .ref (ad (50 + 16 * j_417 + 1))) (C := RX7) (T := TX7) (N := 15) hx hb hg gb_7 hown hK hP (50 + 16 * j_417) (hQ.b0 hj_417) rfl 10 (by decide) (hg _ gm_fieldLink_RX9_151_ErrandGuild_Run_kin_LErrandGuild_Kin_) (fun _ h9 => h9) rfl dX9_tellUncaught_94 ?_
                    refine va_get (D := (dC, dI)) (ci := 4) (v := va_rf (rA9 ad (K j_417 4))) (C := RX4) (T := TX4) (N := 9) hx hb hg gb_4 hown hK hP (50 + 16 * j_417 + 1) (hQ.b1 hj_417) rfl 7 (by decide) (hg _ gm_fieldLink_RX9_228_ErrandGuild_Kin_nextSibling_LErrandGuild_Run_) (fun _ h9 => h9) rfl dX9_tellUncaught_97 ?_
                    rcases eo_419 : K j_417 4 with _ | j_420
                    · refine W.eq (g2 := F0 m 100 ls [.null]) (by first | rfl | (rw [eo_419]; rfl)) ?_
                      refine lv_astoreN (lv' := [(4, .null), (3, .int 0), (2, .ref (ad (50 + 16 * j_2))), (0, .ref (ad 0)), (1, .ref (ad (50 + 16 * i)))]) hx hb dX9_tellUncaught_100 hl (by decide) rfl (fun ls hl => ?_)
                      refine lv_goto (tgt := 61) hx hb dX9_tellUncaught_102 (by decide) ?_
                      exact ih_406  none  ws_399 ga_394 gc_395 n_396 f_397 G_398 ce se H locs ls (by simp only [chM] at *; omega) (fun _ h => by cases h) (by show S9 M gc_395 + gc 1 ≤ S9 M gc + gc_395 1; omega) (by show (n_396 0).toInt = (n 0).toInt; omega) (by show (n 0).toInt ≤ (n_396 0).toInt; omega) hQ ⟨i1_408, i2_409, i3_410, i4_411, i5_412, i6_413, i7_414, i8_415, i9_416⟩ hr1 hr2 hP hD hS (lv_sub hl [0, 1, 2, 3, 4] rfl)
                    · refine W.eq (g2 := F0 m 100 ls [.ref (ad (50 + 16 * j_420))]) (by first | rfl | (rw [eo_419]; rfl)) ?_
                      have hj_420 : j_420 < M := i3_410 _ _ _ hj_417 eo_419
                      refine lv_astore (lv' := [(4, .ref (ad (50 + 16 * j_420))), (3, .int 0), (2, .ref (ad (50 + 16 * j_2))), (0, .ref (ad 0)), (1, .ref (ad (50 + 16 * i)))]) hx hb dX9_tellUncaught_100 hl (by decide) rfl (fun ls hl => ?_)
                      refine lv_goto (tgt := 61) hx hb dX9_tellUncaught_102 (by decide) ?_
                      exact ih_406  (some j_420)  ws_399 ga_394 gc_395 n_396 f_397 G_398 ce se H locs ls (by have := i4_411 _ _ hj_417 eo_419; simp only [chM] at *; omega) (fun _ h => by cases h; exact hj_420) (by show S9 M gc_395 + gc 1 ≤ S9 M gc + gc_395 1; omega) (by show (n_396 0).toInt = (n 0).toInt; omega) (by show (n 0).toInt ≤ (n_396 0).toInt; omega) hQ ⟨i1_408, i2_409, i3_410, i4_411, i5_412, i6_413, i7_414, i8_415, i9_416⟩ hr1 hr2 hP hD hS (lv_sub hl [0, 1, 2, 3, 4] rfl)
                  · simp only [i_lt, i_le, i_eq, ti_4] at c_418
                    refine lv_aload hx hb dX9_tellUncaught_75 (lv_at hl 0 rfl) ?_
                    refine va_get (D := (dC, dI)) (ci := 7) (v := .ref (ad (50 + 16 * j_417 + 1))) (C := RX7) (T := TX7) (N := 15) hx hb hg gb_7 hown hK hP (50 + 16 * j_417) (hQ.b0 hj_417) rfl 10 (by decide) (hg _ gm_fieldLink_RX9_151_ErrandGuild_Run_kin_LErrandGuild_Kin_) (fun _ h9 => h9) rfl dX9_tellUncaught_77 ?_
                    refine va_get (D := (dC, dI)) (ci := 4) (v := .int (G_398 j_417 12)) (C := RX4) (T := TX4) (N := 9) hx hb hg gb_4 hown hK hP (50 + 16 * j_417 + 1) (hQ.b1 hj_417) rfl 4 (by decide) (hg _ gm_fieldLink_RX9_379_ErrandGuild_Kin_claim_I_) (fun _ h9 => h9) rfl dX9_tellUncaught_80 ?_
                    refine lv_if_ne (tgt := 92) hx hb dX9_tellUncaught_83 (by decide) (fun c_421 => ?_) (fun c_421 => ?_)
                    · simp only [i_lt, i_le, i_eq, ti_0] at c_421
                      refine lv_aload hx hb dX9_tellUncaught_92 (lv_at hl 0 rfl) ?_
                      refine va_get (D := (dC, dI)) (ci := 7) (v := .ref (ad (50 + 16 * j_417 + 1))) (C := RX7) (T := TX7) (N := 15) hx hb hg gb_7 hown hK hP (50 + 16 * j_417) (hQ.b0 hj_417) rfl 10 (by decide) (hg _ gm_fieldLink_RX9_151_ErrandGuild_Run_kin_LErrandGuild_Kin_) (fun _ h9 => h9) rfl dX9_tellUncaught_94 ?_
                      refine va_get (D := (dC, dI)) (ci := 4) (v := va_rf (rA9 ad (K j_417 4))) (C := RX4) (T := TX4) (N := 9) hx hb hg gb_4 hown hK hP (50 + 16 * j_417 + 1) (hQ.b1 hj_417) rfl 7 (by decide) (hg _ gm_fieldLink_RX9_228_ErrandGuild_Kin_nextSibling_LErrandGuild_Run_) (fun _ h9 => h9) rfl dX9_tellUncaught_97 ?_
                      rcases eo_422 : K j_417 4 with _ | j_423
                      · refine W.eq (g2 := F0 m 100 ls [.null]) (by first | rfl | (rw [eo_422]; rfl)) ?_
                        refine lv_astoreN (lv' := [(4, .null), (3, .int 0), (2, .ref (ad (50 + 16 * j_2))), (0, .ref (ad 0)), (1, .ref (ad (50 + 16 * i)))]) hx hb dX9_tellUncaught_100 hl (by decide) rfl (fun ls hl => ?_)
                        refine lv_goto (tgt := 61) hx hb dX9_tellUncaught_102 (by decide) ?_
                        exact ih_406  none  ws_399 ga_394 gc_395 n_396 f_397 G_398 ce se H locs ls (by simp only [chM] at *; omega) (fun _ h => by cases h) (by show S9 M gc_395 + gc 1 ≤ S9 M gc + gc_395 1; omega) (by show (n_396 0).toInt = (n 0).toInt; omega) (by show (n 0).toInt ≤ (n_396 0).toInt; omega) hQ ⟨i1_408, i2_409, i3_410, i4_411, i5_412, i6_413, i7_414, i8_415, i9_416⟩ hr1 hr2 hP hD hS (lv_sub hl [0, 1, 2, 3, 4] rfl)
                      · refine W.eq (g2 := F0 m 100 ls [.ref (ad (50 + 16 * j_423))]) (by first | rfl | (rw [eo_422]; rfl)) ?_
                        have hj_423 : j_423 < M := i3_410 _ _ _ hj_417 eo_422
                        refine lv_astore (lv' := [(4, .ref (ad (50 + 16 * j_423))), (3, .int 0), (2, .ref (ad (50 + 16 * j_2))), (0, .ref (ad 0)), (1, .ref (ad (50 + 16 * i)))]) hx hb dX9_tellUncaught_100 hl (by decide) rfl (fun ls hl => ?_)
                        refine lv_goto (tgt := 61) hx hb dX9_tellUncaught_102 (by decide) ?_
                        exact ih_406  (some j_423)  ws_399 ga_394 gc_395 n_396 f_397 G_398 ce se H locs ls (by have := i4_411 _ _ hj_417 eo_422; simp only [chM] at *; omega) (fun _ h => by cases h; exact hj_423) (by show S9 M gc_395 + gc 1 ≤ S9 M gc + gc_395 1; omega) (by show (n_396 0).toInt = (n 0).toInt; omega) (by show (n 0).toInt ≤ (n_396 0).toInt; omega) hQ ⟨i1_408, i2_409, i3_410, i4_411, i5_412, i6_413, i7_414, i8_415, i9_416⟩ hr1 hr2 hP hD hS (lv_sub hl [0, 1, 2, 3, 4] rfl)
                    · simp only [i_lt, i_le, i_eq, ti_0] at c_421
                      refine lv_aload_n hx hb dX9_tellUncaught_86 rfl (lv_at hl 3 rfl) ?_
                      refine lv_aload hx hb dX9_tellUncaught_87 (lv_at hl 0 rfl) ?_
                      have hFc := free_all hD hS hA
                      refine W_msr2 (fun hm1 hm2 hm3 => ?_)
                      refine va_callv (va_runV (As := [.ref (ad (50 + 16 * j_417))]) (rest := []) ⟨hx, hb, hml, hown, hg⟩ (c_X9_askHandlers l dC dI kc ws_399 ad ga_394 gc_395 M n_396 f_397 T G_398 K F R j_417 H.size (hpS H) hQ ⟨i1_408, i2_409, i3_410, i4_411, i5_412, i6_413, i7_414, i8_415, i9_416⟩ (by show j_417 < M; omega) (by show R ≤ 310000; omega)) (cwV 1 hg (gw_V gm_methodLink_RX9_388_yX9_askHandlers gm_instanceMethod_yX9_askHandlers gm_selects_RX9_yX9_askHandlers_yX9_askHandlers gm_initialized_RX9 gm_code_yX9_askHandlers_cX9_askHandlers_7_none) rfl rfl rfl (by decide +kernel) ⟨Nat.le_of_ble_eq_true rfl, Nat.le_of_ble_eq_true rfl⟩) ⟨fun a U g mk q => by obtain ⟨q0, q1, q2, qP, qK, qD, qN⟩ := q; exact ⟨q0, q1, q2, qP, va_K.moved (u := U) (U := U.calling g mk a) (Vm.Alike.refl U.vm) qK, qD, nx_same (u := U) (U := U.calling g mk a) rfl qN⟩, va_recv hK hP (ci := 9) (q0 := 0) rfl hQ.x0, fun U hU hW => ⟨rfl, by rw [hU], by rw [hU], by rw [hU]; exact hP, va_K.moved hW.alike hK, hD.weaken (fun _ _ _ _ => trivial), nx_warm hW hN⟩⟩ rfl rfl hl.1 rfl (lv_room (Nat.le_of_ble_eq_true rfl)) dX9_tellUncaught_89 ⟨by show ce + 1200 ≤ 1800; omega, by show se + 50000 ≤ 67000; omega⟩) hS (fun q _ h => hFc q h) hFc (fun u_425 t H1 locs ht hvm hw hB hz1 hk1 hS => ?_)
                      obtain ⟨ad_426, ga_427, gc_428, M_429, n_430, f_431, T_432, G_433, K_434, F_435⟩ := u_425
                      have hB : ∃ w : va_W, va_P (dC, dI) vwCl w t.heap ∧ va_D (va_A ws_399 H.size) w ∧ Pic9 kc w ad ga_427 gc_428 M n_430 f_431 T G_433 K F ∧ I9 M n_430 T gc_428 G_433 K R ∧ hpS t.heap + (260 * M + 2 * S9 M gc_395) ≤ hpS H + (260 * M + 2 * S9 M gc_428) ∧ 16 * t.heap.size + (256 * M + S9 M gc_395) ≤ 16 * H.size + (256 * M + S9 M gc_428) ∧ (n_396 0).toInt ≤ (n_430 0).toInt := hB
                      rw [ht] at hB
                      obtain ⟨ws_436, hP, hD, hQ, hI_438, hy1, hy2, hn_437⟩ := hB
                      have hD := hD.weaken (fun k q _ h => hFc _ h)
                      obtain ⟨i1_439, i2_440, i3_441, i4_442, i5_443, i6_444, i7_445, i8_446, i9_447⟩ := id hI_438
                      have q1_ := i1_439
                      unfold i1 at q1_
                      have hSl := S9_le i8_446 i9_447
                      have hb0_ := i8_446.2.1 0 (by omega)
                      have hb1_ := i8_446.2.1 1 (by omega)
                      have hb2_ := i8_446.2.1 2 (by omega)
                      refine W_msr2 (fun hn1 hn2 hn3 => ?_)
                      obtain ⟨ce2, se2, hk3, hk4, hr1, hr2⟩ : ∃ c2 s2 : Nat, H1.size ≤ s.heap.size + c2 ∧ hpS H1 ≤ hpS s.heap + s2 ∧ s2 + (260 * M + 2 * S9 M gc) ≤ (260 * M + 2 * S9 M gc_428) ∧ 16 * c2 + (256 * M + S9 M gc) ≤ (256 * M + S9 M gc_428) := ⟨H1.size - s.heap.size, hpS H1 - hpS s.heap, by omega, by omega, by have := hS.1; omega, by have := hS.1; omega⟩
                      refine W_tightP hk3 hk4 ?_
                      clear hm1 hm2 hm3 hn1 hn2 hn3 hk3 hk4
                      clear hk1 hz1
                      generalize ce2 = ce, se2 = se at hr1 hr2 ⊢
                      generalize H1 = H at hP hS ⊢
                      have w_448 : S9 M gc_428 + gc_395 1 ≤ S9 M gc_395 + gc_428 1 ∧ (n_430 0).toInt = (n_396 0).toInt := hw
                      refine lv_aload hx hb dX9_tellUncaught_92 (lv_at hl 0 rfl) ?_
                      refine va_get (D := (dC, dI)) (ci := 7) (v := .ref (ad (50 + 16 * j_417 + 1))) (C := RX7) (T := TX7) (N := 15) hx hb hg gb_7 hown hK hP (50 + 16 * j_417) (hQ.b0 hj_417) rfl 10 (by decide) (hg _ gm_fieldLink_RX9_151_ErrandGuild_Run_kin_LErrandGuild_Kin_) (fun _ h9 => h9) rfl dX9_tellUncaught_94 ?_
                      refine va_get (D := (dC, dI)) (ci := 4) (v := va_rf (rA9 ad (K j_417 4))) (C := RX4) (T := TX4) (N := 9) hx hb hg gb_4 hown hK hP (50 + 16 * j_417 + 1) (hQ.b1 hj_417) rfl 7 (by decide) (hg _ gm_fieldLink_RX9_228_ErrandGuild_Kin_nextSibling_LErrandGuild_Run_) (fun _ h9 => h9) rfl dX9_tellUncaught_97 ?_
                      rcases eo_449 : K j_417 4 with _ | j_450
                      · refine W.eq (g2 := F0 m 100 ls [.null]) (by first | rfl | (rw [eo_449]; rfl)) ?_
                        refine lv_astoreN (lv' := [(4, .null), (3, .int 0), (2, .ref (ad (50 + 16 * j_2))), (0, .ref (ad 0)), (1, .ref (ad (50 + 16 * i)))]) hx hb dX9_tellUncaught_100 hl (by decide) rfl (fun ls hl => ?_)
                        refine lv_goto (tgt := 61) hx hb dX9_tellUncaught_102 (by decide) ?_
                        exact ih_406  none  ws_436 ga_427 gc_428 n_430 f_431 G_433 ce se H locs ls (by simp only [chM] at *; omega) (fun _ h => by cases h) (by show S9 M gc_428 + gc 1 ≤ S9 M gc + gc_428 1; omega) (by show (n_430 0).toInt = (n 0).toInt; omega) (by show (n 0).toInt ≤ (n_430 0).toInt; omega) hQ ⟨i1_439, i2_440, i3_441, i4_442, i5_443, i6_444, i7_445, i8_446, i9_447⟩ hr1 hr2 hP hD hS (lv_sub hl [0, 1, 2, 3, 4] rfl)
                      · refine W.eq (g2 := F0 m 100 ls [.ref (ad (50 + 16 * j_450))]) (by first | rfl | (rw [eo_449]; rfl)) ?_
                        have hj_450 : j_450 < M := i3_441 _ _ _ hj_417 eo_449
                        refine lv_astore (lv' := [(4, .ref (ad (50 + 16 * j_450))), (3, .int 0), (2, .ref (ad (50 + 16 * j_2))), (0, .ref (ad 0)), (1, .ref (ad (50 + 16 * i)))]) hx hb dX9_tellUncaught_100 hl (by decide) rfl (fun ls hl => ?_)
                        refine lv_goto (tgt := 61) hx hb dX9_tellUncaught_102 (by decide) ?_
                        exact ih_406  (some j_450)  ws_436 ga_427 gc_428 n_430 f_431 G_433 ce se H locs ls (by have := i4_442 _ _ hj_417 eo_449; simp only [chM] at *; omega) (fun _ h => by cases h; exact hj_450) (by show S9 M gc_428 + gc 1 ≤ S9 M gc + gc_428 1; omega) (by show (n_430 0).toInt = (n 0).toInt; omega) (by show (n 0).toInt ≤ (n_430 0).toInt; omega) hQ ⟨i1_439, i2_440, i3_441, i4_442, i5_443, i6_444, i7_445, i8_446, i9_447⟩ hr1 hr2 hP hD hS (lv_sub hl [0, 1, 2, 3, 4] rfl)
            exact L61 _  none  ws ga gc n f G ce se _ _ _ (Nat.lt_succ_self _) (fun _ h => by cases h) (by show S9 M gc + gc 1 ≤ S9 M gc + gc 1; omega) (by show (n 0).toInt = (n 0).toInt; omega) (by show (n 0).toInt ≤ (n 0).toInt; omega) hQ ⟨h_i1, h_i2, h_i3, h_i4, h_i5, h_i6, h_i7, h_i8, h_i9⟩ hr1 hr2 hP hD hS (lv_sub hl [0, 1, 2, 3, 4] rfl)
          · refine W.eq (g2 := F0 m 59 ls [.ref (ad (50 + 16 * j_392))]) (by first | rfl | (rw [eo_391]; rfl)) ?_
            have hj_392 : j_392 < M := h_i3 _ _ _ hi eo_391
            refine lv_astore (lv' := [(4, .ref (ad (50 + 16 * j_392))), (3, .int 0), (2, .ref (ad (50 + 16 * j_2))), (0, .ref (ad 0)), (1, .ref (ad (50 + 16 * i)))]) hx hb dX9_tellUncaught_59 hl (by decide) rfl (fun ls hl => ?_)
            have L61 : ∀ (fuel : Nat)  (o_451 : Option Nat)  (ws_457 : va_W) (ga_452 : Nat → Nat) (gc_453 : Nat → Nat) (n_454 : Nat → Int32) (f_455 : Nat → Nat → Int32) (G_456 : Nat → Nat → Int32) (ce se : Nat) (H : Heap) (locs : List Loc) (ls : Array Slot), chM M o_451 < fuel → (∀ j : Nat, o_451 = some j → j < M) → (S9 M gc_453 + gc 1 ≤ S9 M gc + gc_453 1) → ((n_454 0).toInt = (n 0).toInt) → ((n 0).toInt ≤ (n_454 0).toInt) → Pic9 kc ws_457 ad ga_452 gc_453 M n_454 f_455 T G_456 K F → I9 M n_454 T gc_453 G_456 K R → (se + (260 * M + 2 * S9 M gc) ≤ (260 * M + 2 * S9 M gc_453)) → (16 * ce + (256 * M + S9 M gc) ≤ (256 * M + S9 M gc_453)) → va_P (dC, dI) vwCl ws_457 H → va_D A ws_457 → va_S A s.heap H locs → lv_has ls 5 [(4, va_rf (rA9 ad o_451)), (3, .int 0), (2, .ref (ad (50 + 16 * j_2))), (0, .ref (ad 0)), (1, .ref (ad (50 + 16 * i)))] → W p l e (headSpec (.code yX9_tellUncaught cX9_tellUncaught 5 none :: gw) ({ frames := 4, cells := 1800, slots := 67000, locals := 152 })).room s m ([.ref (ad 0), .ref (ad (50 + 16 * i))] : List Value).toArray below meth c H locs ce se (MQ below (va_Qv (fun (u : (Nat → Nat) × (Nat → Nat) × (Nat → Nat) × Nat × (Nat → Int32) × (Nat → Nat → Int32) × (Nat → Option Nat) × (Nat → Nat → Int32) × (Nat → Nat → Option Nat) × (Nat → Nat → Nat → Int32)) => S9 M u.2.2.1 + gc 1 ≤ S9 M gc + u.2.2.1 1 ∧ (u.2.2.2.2.1 0).toInt = (n 0).toInt) (fun u t => ∃ w : va_W, va_P (dC, dI) vwCl w t.heap ∧ va_D A w ∧ Pic9 kc w ad u.2.1 u.2.2.1 M u.2.2.2.2.1 u.2.2.2.2.2.1 T u.2.2.2.2.2.2.2.1 K F ∧ I9 M u.2.2.2.2.1 T u.2.2.1 u.2.2.2.2.2.2.2.1 K R ∧ hpS t.heap + (260 * M + 2 * S9 M gc) ≤ (hpS s.heap) + (260 * M + 2 * S9 M u.2.2.1) ∧ 16 * t.heap.size + (256 * M + S9 M gc) ≤ 16 * s.heap.size + (256 * M + S9 M u.2.2.1) ∧ (n 0).toInt ≤ (u.2.2.2.2.1 0).toInt) A) ([.ref (ad 0), .ref (ad (50 + 16 * i))] : List Value).toArray s 1800 67000 A) (F0 m 61 ls []) := by
              intro fuel
              induction fuel with
              | zero => intro o_451 ws_457 ga_452 gc_453 n_454 f_455 G_456 ce se H locs ls hm; exact absurd hm (Nat.not_lt_zero _)
              | succ fuel_465 ih_464 =>
                intro o_451 ws_457 ga_452 gc_453 n_454 f_455 G_456 ce se H locs ls hm_458 v_459 v_460 v_461 v_462 hQ hI_463 hr1 hr2 hP hD hS hl
                obtain ⟨i1_466, i2_467, i3_468, i4_469, i5_470, i6_471, i7_472, i8_473, i9_474⟩ := id hI_463
                have q1_ := i1_466
                unfold i1 at q1_
                have hSl := S9_le i8_473 i9_474
                have hb0_ := i8_473.2.1 0 (by omega)
                have hb1_ := i8_473.2.1 1 (by omega)
                have hb2_ := i8_473.2.1 2 (by omega)
                rcases o_451 with _ | j_475
                · have hl : lv_has ls 5 [(4, .null), (3, .int 0), (2, .ref (ad (50 + 16 * j_2))), (0, .ref (ad 0)), (1, .ref (ad (50 + 16 * i)))] := hl
                  refine lv_aloadN hx hb dX9_tellUncaught_61 (lv_at hl 0 rfl) ?_
                  refine lv_ifnullN (tgt := 105) hx hb dX9_tellUncaught_63 (by decide) ?_
                  refine W_msr2 (fun hm1 hm2 hm3 => ?_)
                  have hSl := S9_le i8_473 i9_474
                  have hb0_ := i8_473.2.1 0 (by omega)
                  have hb1_ := i8_473.2.1 1 (by omega)
                  have hb2_ := i8_473.2.1 2 (by omega)
                  refine W.widen (k := 1800) (n := 67000) (by omega) (by omega) ?_
                  exact W.vret hx hb hr (fun t ht hW => ⟨⟨(ad, ga_452, gc_453, M, n_454, f_455, T, G_456, K, F), rfl, (by show S9 M gc_453 + gc 1 ≤ S9 M gc + gc_453 1 ∧ (n_454 0).toInt = (n 0).toInt; omega), ws_457, by rw [ht]; exact hP, hD, hQ, ⟨i1_466, i2_467, i3_468, i4_469, i5_470, i6_471, i7_472, i8_473, i9_474⟩, by rw [ht]; show hpS H + (260 * M + 2 * S9 M gc) ≤ hpS s.heap + (260 * M + 2 * S9 M gc_453); omega, by rw [ht]; show 16 * H.size + (256 * M + S9 M gc) ≤ 16 * s.heap.size + (256 * M + S9 M gc_453); omega, by show (n 0).toInt ≤ (n_454 0).toInt; omega⟩, hS.F ht⟩) hS.2.2 dX9_tellUncaught_105
                · have hl : lv_has ls 5 [(4, .ref (ad (50 + 16 * j_475))), (3, .int 0), (2, .ref (ad (50 + 16 * j_2))), (0, .ref (ad 0)), (1, .ref (ad (50 + 16 * i)))] := hl
                  have hj_475 : j_475 < M := v_459 _ rfl
                  refine lv_aload hx hb dX9_tellUncaught_61 (lv_at hl 0 rfl) ?_
                  refine lv_ifnull hx hb dX9_tellUncaught_63 ?_
                  refine lv_aload hx hb dX9_tellUncaught_66 (lv_at hl 0 rfl) ?_
                  refine va_get (D := (dC, dI)) (ci := 7) (v := .int (G_456 j_475 2)) (C := RX7) (T := TX7) (N := 15) hx hb hg gb_7 hown hK hP (50 + 16 * j_475) (hQ.b0 hj_475) rfl 2 (by decide) (hg _ gm_fieldLink_RX9_145_ErrandGuild_Run_state_I_) (fun _ h9 => h9) rfl dX9_tellUncaught_68 ?_
                  refine lv_iconst (v := 4) hx hb dX9_tellUncaught_71 (by decide) ?_
                  refine lv_icmp_ne (tgt := 92) hx hb dX9_tellUncaught_72 (by decide) (fun c_476 => ?_) (fun c_476 => ?_)
                  · simp only [i_lt, i_le, i_eq, ti_4] at c_476
                    refine lv_aload hx hb dX9_tellUncaught_92 (lv_at hl 0 rfl) ?_
                    refine va_get (D := (dC, dI)) (ci := 7) (v := .ref (ad (50 + 16 * j_475 + 1))) (C := RX7) (T := TX7) (N := 15) hx hb hg gb_7 hown hK hP (50 + 16 * j_475) (hQ.b0 hj_475) rfl 10 (by decide) (hg _ gm_fieldLink_RX9_151_ErrandGuild_Run_kin_LErrandGuild_Kin_) (fun _ h9 => h9) rfl dX9_tellUncaught_94 ?_
                    refine va_get (D := (dC, dI)) (ci := 4) (v := va_rf (rA9 ad (K j_475 4))) (C := RX4) (T := TX4) (N := 9) hx hb hg gb_4 hown hK hP (50 + 16 * j_475 + 1) (hQ.b1 hj_475) rfl 7 (by decide) (hg _ gm_fieldLink_RX9_228_ErrandGuild_Kin_nextSibling_LErrandGuild_Run_) (fun _ h9 => h9) rfl dX9_tellUncaught_97 ?_
                    rcases eo_477 : K j_475 4 with _ | j_478
                    · refine W.eq (g2 := F0 m 100 ls [.null]) (by first | rfl | (rw [eo_477]; rfl)) ?_
                      refine lv_astoreN (lv' := [(4, .null), (3, .int 0), (2, .ref (ad (50 + 16 * j_2))), (0, .ref (ad 0)), (1, .ref (ad (50 + 16 * i)))]) hx hb dX9_tellUncaught_100 hl (by decide) rfl (fun ls hl => ?_)
                      refine lv_goto (tgt := 61) hx hb dX9_tellUncaught_102 (by decide) ?_
                      exact ih_464  none  ws_457 ga_452 gc_453 n_454 f_455 G_456 ce se H locs ls (by simp only [chM] at *; omega) (fun _ h => by cases h) (by show S9 M gc_453 + gc 1 ≤ S9 M gc + gc_453 1; omega) (by show (n_454 0).toInt = (n 0).toInt; omega) (by show (n 0).toInt ≤ (n_454 0).toInt; omega) hQ ⟨i1_466, i2_467, i3_468, i4_469, i5_470, i6_471, i7_472, i8_473, i9_474⟩ hr1 hr2 hP hD hS (lv_sub hl [0, 1, 2, 3, 4] rfl)
                    · refine W.eq (g2 := F0 m 100 ls [.ref (ad (50 + 16 * j_478))]) (by first | rfl | (rw [eo_477]; rfl)) ?_
                      have hj_478 : j_478 < M := i3_468 _ _ _ hj_475 eo_477
                      refine lv_astore (lv' := [(4, .ref (ad (50 + 16 * j_478))), (3, .int 0), (2, .ref (ad (50 + 16 * j_2))), (0, .ref (ad 0)), (1, .ref (ad (50 + 16 * i)))]) hx hb dX9_tellUncaught_100 hl (by decide) rfl (fun ls hl => ?_)
                      refine lv_goto (tgt := 61) hx hb dX9_tellUncaught_102 (by decide) ?_
                      exact ih_464  (some j_478)  ws_457 ga_452 gc_453 n_454 f_455 G_456 ce se H locs ls (by have := i4_469 _ _ hj_475 eo_477; simp only [chM] at *; omega) (fun _ h => by cases h; exact hj_478) (by show S9 M gc_453 + gc 1 ≤ S9 M gc + gc_453 1; omega) (by show (n_454 0).toInt = (n 0).toInt; omega) (by show (n 0).toInt ≤ (n_454 0).toInt; omega) hQ ⟨i1_466, i2_467, i3_468, i4_469, i5_470, i6_471, i7_472, i8_473, i9_474⟩ hr1 hr2 hP hD hS (lv_sub hl [0, 1, 2, 3, 4] rfl)
                  · simp only [i_lt, i_le, i_eq, ti_4] at c_476
                    refine lv_aload hx hb dX9_tellUncaught_75 (lv_at hl 0 rfl) ?_
                    refine va_get (D := (dC, dI)) (ci := 7) (v := .ref (ad (50 + 16 * j_475 + 1))) (C := RX7) (T := TX7) (N := 15) hx hb hg gb_7 hown hK hP (50 + 16 * j_475) (hQ.b0 hj_475) rfl 10 (by decide) (hg _ gm_fieldLink_RX9_151_ErrandGuild_Run_kin_LErrandGuild_Kin_) (fun _ h9 => h9) rfl dX9_tellUncaught_77 ?_
                    refine va_get (D := (dC, dI)) (ci := 4) (v := .int (G_456 j_475 12)) (C := RX4) (T := TX4) (N := 9) hx hb hg gb_4 hown hK hP (50 + 16 * j_475 + 1) (hQ.b1 hj_475) rfl 4 (by decide) (hg _ gm_fieldLink_RX9_379_ErrandGuild_Kin_claim_I_) (fun _ h9 => h9) rfl dX9_tellUncaught_80 ?_
                    refine lv_if_ne (tgt := 92) hx hb dX9_tellUncaught_83 (by decide) (fun c_479 => ?_) (fun c_479 => ?_)
                    · simp only [i_lt, i_le, i_eq, ti_0] at c_479
                      refine lv_aload hx hb dX9_tellUncaught_92 (lv_at hl 0 rfl) ?_
                      refine va_get (D := (dC, dI)) (ci := 7) (v := .ref (ad (50 + 16 * j_475 + 1))) (C := RX7) (T := TX7) (N := 15) hx hb hg gb_7 hown hK hP (50 + 16 * j_475) (hQ.b0 hj_475) rfl 10 (by decide) (hg _ gm_fieldLink_RX9_151_ErrandGuild_Run_kin_LErrandGuild_Kin_) (fun _ h9 => h9) rfl dX9_tellUncaught_94 ?_
                      refine va_get (D := (dC, dI)) (ci := 4) (v := va_rf (rA9 ad (K j_475 4))) (C := RX4) (T := TX4) (N := 9) hx hb hg gb_4 hown hK hP (50 + 16 * j_475 + 1) (hQ.b1 hj_475) rfl 7 (by decide) (hg _ gm_fieldLink_RX9_228_ErrandGuild_Kin_nextSibling_LErrandGuild_Run_) (fun _ h9 => h9) rfl dX9_tellUncaught_97 ?_
                      rcases eo_480 : K j_475 4 with _ | j_481
                      · refine W.eq (g2 := F0 m 100 ls [.null]) (by first | rfl | (rw [eo_480]; rfl)) ?_
                        refine lv_astoreN (lv' := [(4, .null), (3, .int 0), (2, .ref (ad (50 + 16 * j_2))), (0, .ref (ad 0)), (1, .ref (ad (50 + 16 * i)))]) hx hb dX9_tellUncaught_100 hl (by decide) rfl (fun ls hl => ?_)
                        refine lv_goto (tgt := 61) hx hb dX9_tellUncaught_102 (by decide) ?_
                        exact ih_464  none  ws_457 ga_452 gc_453 n_454 f_455 G_456 ce se H locs ls (by simp only [chM] at *; omega) (fun _ h => by cases h) (by show S9 M gc_453 + gc 1 ≤ S9 M gc + gc_453 1; omega) (by show (n_454 0).toInt = (n 0).toInt; omega) (by show (n 0).toInt ≤ (n_454 0).toInt; omega) hQ ⟨i1_466, i2_467, i3_468, i4_469, i5_470, i6_471, i7_472, i8_473, i9_474⟩ hr1 hr2 hP hD hS (lv_sub hl [0, 1, 2, 3, 4] rfl)
                      · refine W.eq (g2 := F0 m 100 ls [.ref (ad (50 + 16 * j_481))]) (by first | rfl | (rw [eo_480]; rfl)) ?_
                        have hj_481 : j_481 < M := i3_468 _ _ _ hj_475 eo_480
                        refine lv_astore (lv' := [(4, .ref (ad (50 + 16 * j_481))), (3, .int 0), (2, .ref (ad (50 + 16 * j_2))), (0, .ref (ad 0)), (1, .ref (ad (50 + 16 * i)))]) hx hb dX9_tellUncaught_100 hl (by decide) rfl (fun ls hl => ?_)
                        refine lv_goto (tgt := 61) hx hb dX9_tellUncaught_102 (by decide) ?_
                        exact ih_464  (some j_481)  ws_457 ga_452 gc_453 n_454 f_455 G_456 ce se H locs ls (by have := i4_469 _ _ hj_475 eo_480; simp only [chM] at *; omega) (fun _ h => by cases h; exact hj_481) (by show S9 M gc_453 + gc 1 ≤ S9 M gc + gc_453 1; omega) (by show (n_454 0).toInt = (n 0).toInt; omega) (by show (n 0).toInt ≤ (n_454 0).toInt; omega) hQ ⟨i1_466, i2_467, i3_468, i4_469, i5_470, i6_471, i7_472, i8_473, i9_474⟩ hr1 hr2 hP hD hS (lv_sub hl [0, 1, 2, 3, 4] rfl)
                    · simp only [i_lt, i_le, i_eq, ti_0] at c_479
                      refine lv_aload_n hx hb dX9_tellUncaught_86 rfl (lv_at hl 3 rfl) ?_
                      refine lv_aload hx hb dX9_tellUncaught_87 (lv_at hl 0 rfl) ?_
                      have hFc := free_all hD hS hA
                      refine W_msr2 (fun hm1 hm2 hm3 => ?_)
                      refine va_callv (va_runV (As := [.ref (ad (50 + 16 * j_475))]) (rest := []) ⟨hx, hb, hml, hown, hg⟩ (c_X9_askHandlers l dC dI kc ws_457 ad ga_452 gc_453 M n_454 f_455 T G_456 K F R j_475 H.size (hpS H) hQ ⟨i1_466, i2_467, i3_468, i4_469, i5_470, i6_471, i7_472, i8_473, i9_474⟩ (by show j_475 < M; omega) (by show R ≤ 310000; omega)) (cwV 1 hg (gw_V gm_methodLink_RX9_388_yX9_askHandlers gm_instanceMethod_yX9_askHandlers gm_selects_RX9_yX9_askHandlers_yX9_askHandlers gm_initialized_RX9 gm_code_yX9_askHandlers_cX9_askHandlers_7_none) rfl rfl rfl (by decide +kernel) ⟨Nat.le_of_ble_eq_true rfl, Nat.le_of_ble_eq_true rfl⟩) ⟨fun a U g mk q => by obtain ⟨q0, q1, q2, qP, qK, qD, qN⟩ := q; exact ⟨q0, q1, q2, qP, va_K.moved (u := U) (U := U.calling g mk a) (Vm.Alike.refl U.vm) qK, qD, nx_same (u := U) (U := U.calling g mk a) rfl qN⟩, va_recv hK hP (ci := 9) (q0 := 0) rfl hQ.x0, fun U hU hW => ⟨rfl, by rw [hU], by rw [hU], by rw [hU]; exact hP, va_K.moved hW.alike hK, hD.weaken (fun _ _ _ _ => trivial), nx_warm hW hN⟩⟩ rfl rfl hl.1 rfl (lv_room (Nat.le_of_ble_eq_true rfl)) dX9_tellUncaught_89 ⟨by show ce + 1200 ≤ 1800; omega, by show se + 50000 ≤ 67000; omega⟩) hS (fun q _ h => hFc q h) hFc (fun u_483 t H1 locs ht hvm hw hB hz1 hk1 hS => ?_)
                      obtain ⟨ad_484, ga_485, gc_486, M_487, n_488, f_489, T_490, G_491, K_492, F_493⟩ := u_483
                      have hB : ∃ w : va_W, va_P (dC, dI) vwCl w t.heap ∧ va_D (va_A ws_457 H.size) w ∧ Pic9 kc w ad ga_485 gc_486 M n_488 f_489 T G_491 K F ∧ I9 M n_488 T gc_486 G_491 K R ∧ hpS t.heap + (260 * M + 2 * S9 M gc_453) ≤ hpS H + (260 * M + 2 * S9 M gc_486) ∧ 16 * t.heap.size + (256 * M + S9 M gc_453) ≤ 16 * H.size + (256 * M + S9 M gc_486) ∧ (n_454 0).toInt ≤ (n_488 0).toInt := hB
                      rw [ht] at hB
                      obtain ⟨ws_494, hP, hD, hQ, hI_496, hy1, hy2, hn_495⟩ := hB
                      have hD := hD.weaken (fun k q _ h => hFc _ h)
                      obtain ⟨i1_497, i2_498, i3_499, i4_500, i5_501, i6_502, i7_503, i8_504, i9_505⟩ := id hI_496
                      have q1_ := i1_497
                      unfold i1 at q1_
                      have hSl := S9_le i8_504 i9_505
                      have hb0_ := i8_504.2.1 0 (by omega)
                      have hb1_ := i8_504.2.1 1 (by omega)
                      have hb2_ := i8_504.2.1 2 (by omega)
                      refine W_msr2 (fun hn1 hn2 hn3 => ?_)
                      obtain ⟨ce2, se2, hk3, hk4, hr1, hr2⟩ : ∃ c2 s2 : Nat, H1.size ≤ s.heap.size + c2 ∧ hpS H1 ≤ hpS s.heap + s2 ∧ s2 + (260 * M + 2 * S9 M gc) ≤ (260 * M + 2 * S9 M gc_486) ∧ 16 * c2 + (256 * M + S9 M gc) ≤ (256 * M + S9 M gc_486) := ⟨H1.size - s.heap.size, hpS H1 - hpS s.heap, by omega, by omega, by have := hS.1; omega, by have := hS.1; omega⟩
                      refine W_tightP hk3 hk4 ?_
                      clear hm1 hm2 hm3 hn1 hn2 hn3 hk3 hk4
                      clear hk1 hz1
                      generalize ce2 = ce, se2 = se at hr1 hr2 ⊢
                      generalize H1 = H at hP hS ⊢
                      have w_506 : S9 M gc_486 + gc_453 1 ≤ S9 M gc_453 + gc_486 1 ∧ (n_488 0).toInt = (n_454 0).toInt := hw
                      refine lv_aload hx hb dX9_tellUncaught_92 (lv_at hl 0 rfl) ?_
                      refine va_get (D := (dC, dI)) (ci := 7) (v := .ref (ad (50 + 16 * j_475 + 1))) (C := RX7) (T := TX7) (N := 15) hx hb hg gb_7 hown hK hP (50 + 16 * j_475) (hQ.b0 hj_475) rfl 10 (by decide) (hg _ gm_fieldLink_RX9_151_ErrandGuild_Run_kin_LErrandGuild_Kin_) (fun _ h9 => h9) rfl dX9_tellUncaught_94 ?_
                      refine va_get (D := (dC, dI)) (ci := 4) (v := va_rf (rA9 ad (K j_475 4))) (C := RX4) (T := TX4) (N := 9) hx hb hg gb_4 hown hK hP (50 + 16 * j_475 + 1) (hQ.b1 hj_475) rfl 7 (by decide) (hg _ gm_fieldLink_RX9_228_ErrandGuild_Kin_nextSibling_LErrandGuild_Run_) (fun _ h9 => h9) rfl dX9_tellUncaught_97 ?_
                      rcases eo_507 : K j_475 4 with _ | j_508
                      · refine W.eq (g2 := F0 m 100 ls [.null]) (by first | rfl | (rw [eo_507]; rfl)) ?_
                        refine lv_astoreN (lv' := [(4, .null), (3, .int 0), (2, .ref (ad (50 + 16 * j_2))), (0, .ref (ad 0)), (1, .ref (ad (50 + 16 * i)))]) hx hb dX9_tellUncaught_100 hl (by decide) rfl (fun ls hl => ?_)
                        refine lv_goto (tgt := 61) hx hb dX9_tellUncaught_102 (by decide) ?_
                        exact ih_464  none  ws_494 ga_485 gc_486 n_488 f_489 G_491 ce se H locs ls (by simp only [chM] at *; omega) (fun _ h => by cases h) (by show S9 M gc_486 + gc 1 ≤ S9 M gc + gc_486 1; omega) (by show (n_488 0).toInt = (n 0).toInt; omega) (by show (n 0).toInt ≤ (n_488 0).toInt; omega) hQ ⟨i1_497, i2_498, i3_499, i4_500, i5_501, i6_502, i7_503, i8_504, i9_505⟩ hr1 hr2 hP hD hS (lv_sub hl [0, 1, 2, 3, 4] rfl)
                      · refine W.eq (g2 := F0 m 100 ls [.ref (ad (50 + 16 * j_508))]) (by first | rfl | (rw [eo_507]; rfl)) ?_
                        have hj_508 : j_508 < M := i3_499 _ _ _ hj_475 eo_507
                        refine lv_astore (lv' := [(4, .ref (ad (50 + 16 * j_508))), (3, .int 0), (2, .ref (ad (50 + 16 * j_2))), (0, .ref (ad 0)), (1, .ref (ad (50 + 16 * i)))]) hx hb dX9_tellUncaught_100 hl (by decide) rfl (fun ls hl => ?_)
                        refine lv_goto (tgt := 61) hx hb dX9_tellUncaught_102 (by decide) ?_
                        exact ih_464  (some j_508)  ws_494 ga_485 gc_486 n_488 f_489 G_491 ce se H locs ls (by have := i4_500 _ _ hj_475 eo_507; simp only [chM] at *; omega) (fun _ h => by cases h; exact hj_508) (by show S9 M gc_486 + gc 1 ≤ S9 M gc + gc_486 1; omega) (by show (n_488 0).toInt = (n 0).toInt; omega) (by show (n 0).toInt ≤ (n_488 0).toInt; omega) hQ ⟨i1_497, i2_498, i3_499, i4_500, i5_501, i6_502, i7_503, i8_504, i9_505⟩ hr1 hr2 hP hD hS (lv_sub hl [0, 1, 2, 3, 4] rfl)
            exact L61 _  (some j_392)  ws ga gc n f G ce se _ _ _ (Nat.lt_succ_self _) (fun _ h => by cases h; exact hj_392) (by show S9 M gc + gc 1 ≤ S9 M gc + gc 1; omega) (by show (n 0).toInt = (n 0).toInt; omega) (by show (n 0).toInt ≤ (n 0).toInt; omega) hQ ⟨h_i1, h_i2, h_i3, h_i4, h_i5, h_i6, h_i7, h_i8, h_i9⟩ hr1 hr2 hP hD hS (lv_sub hl [0, 1, 2, 3, 4] rfl)
      · simp only [i_lt, i_le, i_eq, ti_0] at c_270
        refine lv_iconst (v := 1) hx hb dX9_tellUncaught_29 (by decide) ?_
        refine lv_goto (tgt := 34) hx hb dX9_tellUncaught_30 (by decide) ?_
        refine lv_istore_n (lv' := [(3, .int 1), (2, .ref (ad (50 + 16 * j_2))), (0, .ref (ad 0)), (1, .ref (ad (50 + 16 * i)))]) hx hb dX9_tellUncaught_34 rfl hl (by decide) rfl (fun ls hl => ?_)
        refine lv_aload_n hx hb dX9_tellUncaught_35 rfl (lv_at hl 3 rfl) ?_
        refine va_get (D := (dC, dI)) (ci := 7) (v := .int (G i 2)) (C := RX7) (T := TX7) (N := 15) hx hb hg gb_7 hown hK hP (50 + 16 * i) (hQ.b0 hi) rfl 2 (by decide) (hg _ gm_fieldLink_RX9_145_ErrandGuild_Run_state_I_) (fun _ h9 => h9) rfl dX9_tellUncaught_36 ?_
        refine lv_iconst (v := 4) hx hb dX9_tellUncaught_39 (by decide) ?_
        refine lv_icmp_ne (tgt := 52) hx hb dX9_tellUncaught_40 (by decide) (fun c_509 => ?_) (fun c_509 => ?_)
        · simp only [i_lt, i_le, i_eq, ti_4] at c_509
          refine lv_aload_n hx hb dX9_tellUncaught_52 rfl (lv_at hl 3 rfl) ?_
          refine va_get (D := (dC, dI)) (ci := 7) (v := .ref (ad (50 + 16 * i + 1))) (C := RX7) (T := TX7) (N := 15) hx hb hg gb_7 hown hK hP (50 + 16 * i) (hQ.b0 hi) rfl 10 (by decide) (hg _ gm_fieldLink_RX9_151_ErrandGuild_Run_kin_LErrandGuild_Kin_) (fun _ h9 => h9) rfl dX9_tellUncaught_53 ?_
          refine va_get (D := (dC, dI)) (ci := 4) (v := va_rf (rA9 ad (K i 2))) (C := RX4) (T := TX4) (N := 9) hx hb hg gb_4 hown hK hP (50 + 16 * i + 1) (hQ.b1 hi) rfl 5 (by decide) (hg _ gm_fieldLink_RX9_225_ErrandGuild_Kin_firstChild_LErrandGuild_Run_) (fun _ h9 => h9) rfl dX9_tellUncaught_56 ?_
          rcases eo_510 : K i 2 with _ | j_511
          · refine W.eq (g2 := F0 m 59 ls [.null]) (by first | rfl | (rw [eo_510]; rfl)) ?_
            refine lv_astoreN (lv' := [(4, .null), (3, .int 1), (2, .ref (ad (50 + 16 * j_2))), (0, .ref (ad 0)), (1, .ref (ad (50 + 16 * i)))]) hx hb dX9_tellUncaught_59 hl (by decide) rfl (fun ls hl => ?_)
            have L61 : ∀ (fuel : Nat)  (o_512 : Option Nat)  (ws_518 : va_W) (ga_513 : Nat → Nat) (gc_514 : Nat → Nat) (n_515 : Nat → Int32) (f_516 : Nat → Nat → Int32) (G_517 : Nat → Nat → Int32) (ce se : Nat) (H : Heap) (locs : List Loc) (ls : Array Slot), chM M o_512 < fuel → (∀ j : Nat, o_512 = some j → j < M) → (S9 M gc_514 + gc 1 ≤ S9 M gc + gc_514 1) → ((n_515 0).toInt = (n 0).toInt) → ((n 0).toInt ≤ (n_515 0).toInt) → Pic9 kc ws_518 ad ga_513 gc_514 M n_515 f_516 T G_517 K F → I9 M n_515 T gc_514 G_517 K R → (se + (260 * M + 2 * S9 M gc) ≤ (260 * M + 2 * S9 M gc_514)) → (16 * ce + (256 * M + S9 M gc) ≤ (256 * M + S9 M gc_514)) → va_P (dC, dI) vwCl ws_518 H → va_D A ws_518 → va_S A s.heap H locs → lv_has ls 5 [(4, va_rf (rA9 ad o_512)), (3, .int 1), (2, .ref (ad (50 + 16 * j_2))), (0, .ref (ad 0)), (1, .ref (ad (50 + 16 * i)))] → W p l e (headSpec (.code yX9_tellUncaught cX9_tellUncaught 5 none :: gw) ({ frames := 4, cells := 1800, slots := 67000, locals := 152 })).room s m ([.ref (ad 0), .ref (ad (50 + 16 * i))] : List Value).toArray below meth c H locs ce se (MQ below (va_Qv (fun (u : (Nat → Nat) × (Nat → Nat) × (Nat → Nat) × Nat × (Nat → Int32) × (Nat → Nat → Int32) × (Nat → Option Nat) × (Nat → Nat → Int32) × (Nat → Nat → Option Nat) × (Nat → Nat → Nat → Int32)) => S9 M u.2.2.1 + gc 1 ≤ S9 M gc + u.2.2.1 1 ∧ (u.2.2.2.2.1 0).toInt = (n 0).toInt) (fun u t => ∃ w : va_W, va_P (dC, dI) vwCl w t.heap ∧ va_D A w ∧ Pic9 kc w ad u.2.1 u.2.2.1 M u.2.2.2.2.1 u.2.2.2.2.2.1 T u.2.2.2.2.2.2.2.1 K F ∧ I9 M u.2.2.2.2.1 T u.2.2.1 u.2.2.2.2.2.2.2.1 K R ∧ hpS t.heap + (260 * M + 2 * S9 M gc) ≤ (hpS s.heap) + (260 * M + 2 * S9 M u.2.2.1) ∧ 16 * t.heap.size + (256 * M + S9 M gc) ≤ 16 * s.heap.size + (256 * M + S9 M u.2.2.1) ∧ (n 0).toInt ≤ (u.2.2.2.2.1 0).toInt) A) ([.ref (ad 0), .ref (ad (50 + 16 * i))] : List Value).toArray s 1800 67000 A) (F0 m 61 ls []) := by
              intro fuel
              induction fuel with
              | zero => intro o_512 ws_518 ga_513 gc_514 n_515 f_516 G_517 ce se H locs ls hm; exact absurd hm (Nat.not_lt_zero _)
              | succ fuel_526 ih_525 =>
                intro o_512 ws_518 ga_513 gc_514 n_515 f_516 G_517 ce se H locs ls hm_519 v_520 v_521 v_522 v_523 hQ hI_524 hr1 hr2 hP hD hS hl
                obtain ⟨i1_527, i2_528, i3_529, i4_530, i5_531, i6_532, i7_533, i8_534, i9_535⟩ := id hI_524
                have q1_ := i1_527
                unfold i1 at q1_
                have hSl := S9_le i8_534 i9_535
                have hb0_ := i8_534.2.1 0 (by omega)
                have hb1_ := i8_534.2.1 1 (by omega)
                have hb2_ := i8_534.2.1 2 (by omega)
                rcases o_512 with _ | j_536
                · have hl : lv_has ls 5 [(4, .null), (3, .int 1), (2, .ref (ad (50 + 16 * j_2))), (0, .ref (ad 0)), (1, .ref (ad (50 + 16 * i)))] := hl
                  refine lv_aloadN hx hb dX9_tellUncaught_61 (lv_at hl 0 rfl) ?_
                  refine lv_ifnullN (tgt := 105) hx hb dX9_tellUncaught_63 (by decide) ?_
                  refine W_msr2 (fun hm1 hm2 hm3 => ?_)
                  have hSl := S9_le i8_534 i9_535
                  have hb0_ := i8_534.2.1 0 (by omega)
                  have hb1_ := i8_534.2.1 1 (by omega)
                  have hb2_ := i8_534.2.1 2 (by omega)
                  refine W.widen (k := 1800) (n := 67000) (by omega) (by omega) ?_
                  exact W.vret hx hb hr (fun t ht hW => ⟨⟨(ad, ga_513, gc_514, M, n_515, f_516, T, G_517, K, F), rfl, (by show S9 M gc_514 + gc 1 ≤ S9 M gc + gc_514 1 ∧ (n_515 0).toInt = (n 0).toInt; omega), ws_518, by rw [ht]; exact hP, hD, hQ, ⟨i1_527, i2_528, i3_529, i4_530, i5_531, i6_532, i7_533, i8_534, i9_535⟩, by rw [ht]; show hpS H + (260 * M + 2 * S9 M gc) ≤ hpS s.heap + (260 * M + 2 * S9 M gc_514); omega, by rw [ht]; show 16 * H.size + (256 * M + S9 M gc) ≤ 16 * s.heap.size + (256 * M + S9 M gc_514); omega, by show (n 0).toInt ≤ (n_515 0).toInt; omega⟩, hS.F ht⟩) hS.2.2 dX9_tellUncaught_105
                · have hl : lv_has ls 5 [(4, .ref (ad (50 + 16 * j_536))), (3, .int 1), (2, .ref (ad (50 + 16 * j_2))), (0, .ref (ad 0)), (1, .ref (ad (50 + 16 * i)))] := hl
                  have hj_536 : j_536 < M := v_520 _ rfl
                  refine lv_aload hx hb dX9_tellUncaught_61 (lv_at hl 0 rfl) ?_
                  refine lv_ifnull hx hb dX9_tellUncaught_63 ?_
                  refine lv_aload hx hb dX9_tellUncaught_66 (lv_at hl 0 rfl) ?_
                  refine va_get (D := (dC, dI)) (ci := 7) (v := .int (G_517 j_536 2)) (C := RX7) (T := TX7) (N := 15) hx hb hg gb_7 hown hK hP (50 + 16 * j_536) (hQ.b0 hj_536) rfl 2 (by decide) (hg _ gm_fieldLink_RX9_145_ErrandGuild_Run_state_I_) (fun _ h9 => h9) rfl dX9_tellUncaught_68 ?_
                  refine lv_iconst (v := 4) hx hb dX9_tellUncaught_71 (by decide) ?_
                  refine lv_icmp_ne (tgt := 92) hx hb dX9_tellUncaught_72 (by decide) (fun c_537 => ?_) (fun c_537 => ?_)
                  · simp only [i_lt, i_le, i_eq, ti_4] at c_537
                    refine lv_aload hx hb dX9_tellUncaught_92 (lv_at hl 0 rfl) ?_
                    refine va_get (D := (dC, dI)) (ci := 7) (v := .ref (ad (50 + 16 * j_536 + 1))) (C := RX7) (T := TX7) (N := 15) hx hb hg gb_7 hown hK hP (50 + 16 * j_536) (hQ.b0 hj_536) rfl 10 (by decide) (hg _ gm_fieldLink_RX9_151_ErrandGuild_Run_kin_LErrandGuild_Kin_) (fun _ h9 => h9) rfl dX9_tellUncaught_94 ?_
                    refine va_get (D := (dC, dI)) (ci := 4) (v := va_rf (rA9 ad (K j_536 4))) (C := RX4) (T := TX4) (N := 9) hx hb hg gb_4 hown hK hP (50 + 16 * j_536 + 1) (hQ.b1 hj_536) rfl 7 (by decide) (hg _ gm_fieldLink_RX9_228_ErrandGuild_Kin_nextSibling_LErrandGuild_Run_) (fun _ h9 => h9) rfl dX9_tellUncaught_97 ?_
                    rcases eo_538 : K j_536 4 with _ | j_539
                    · refine W.eq (g2 := F0 m 100 ls [.null]) (by first | rfl | (rw [eo_538]; rfl)) ?_
                      refine lv_astoreN (lv' := [(4, .null), (3, .int 1), (2, .ref (ad (50 + 16 * j_2))), (0, .ref (ad 0)), (1, .ref (ad (50 + 16 * i)))]) hx hb dX9_tellUncaught_100 hl (by decide) rfl (fun ls hl => ?_)
                      refine lv_goto (tgt := 61) hx hb dX9_tellUncaught_102 (by decide) ?_
                      exact ih_525  none  ws_518 ga_513 gc_514 n_515 f_516 G_517 ce se H locs ls (by simp only [chM] at *; omega) (fun _ h => by cases h) (by show S9 M gc_514 + gc 1 ≤ S9 M gc + gc_514 1; omega) (by show (n_515 0).toInt = (n 0).toInt; omega) (by show (n 0).toInt ≤ (n_515 0).toInt; omega) hQ ⟨i1_527, i2_528, i3_529, i4_530, i5_531, i6_532, i7_533, i8_534, i9_535⟩ hr1 hr2 hP hD hS (lv_sub hl [0, 1, 2, 3, 4] rfl)
                    · refine W.eq (g2 := F0 m 100 ls [.ref (ad (50 + 16 * j_539))]) (by first | rfl | (rw [eo_538]; rfl)) ?_
                      have hj_539 : j_539 < M := i3_529 _ _ _ hj_536 eo_538
                      refine lv_astore (lv' := [(4, .ref (ad (50 + 16 * j_539))), (3, .int 1), (2, .ref (ad (50 + 16 * j_2))), (0, .ref (ad 0)), (1, .ref (ad (50 + 16 * i)))]) hx hb dX9_tellUncaught_100 hl (by decide) rfl (fun ls hl => ?_)
                      refine lv_goto (tgt := 61) hx hb dX9_tellUncaught_102 (by decide) ?_
                      exact ih_525  (some j_539)  ws_518 ga_513 gc_514 n_515 f_516 G_517 ce se H locs ls (by have := i4_530 _ _ hj_536 eo_538; simp only [chM] at *; omega) (fun _ h => by cases h; exact hj_539) (by show S9 M gc_514 + gc 1 ≤ S9 M gc + gc_514 1; omega) (by show (n_515 0).toInt = (n 0).toInt; omega) (by show (n 0).toInt ≤ (n_515 0).toInt; omega) hQ ⟨i1_527, i2_528, i3_529, i4_530, i5_531, i6_532, i7_533, i8_534, i9_535⟩ hr1 hr2 hP hD hS (lv_sub hl [0, 1, 2, 3, 4] rfl)
                  · simp only [i_lt, i_le, i_eq, ti_4] at c_537
                    refine lv_aload hx hb dX9_tellUncaught_75 (lv_at hl 0 rfl) ?_
                    refine va_get (D := (dC, dI)) (ci := 7) (v := .ref (ad (50 + 16 * j_536 + 1))) (C := RX7) (T := TX7) (N := 15) hx hb hg gb_7 hown hK hP (50 + 16 * j_536) (hQ.b0 hj_536) rfl 10 (by decide) (hg _ gm_fieldLink_RX9_151_ErrandGuild_Run_kin_LErrandGuild_Kin_) (fun _ h9 => h9) rfl dX9_tellUncaught_77 ?_
                    refine va_get (D := (dC, dI)) (ci := 4) (v := .int (G_517 j_536 12)) (C := RX4) (T := TX4) (N := 9) hx hb hg gb_4 hown hK hP (50 + 16 * j_536 + 1) (hQ.b1 hj_536) rfl 4 (by decide) (hg _ gm_fieldLink_RX9_379_ErrandGuild_Kin_claim_I_) (fun _ h9 => h9) rfl dX9_tellUncaught_80 ?_
                    refine lv_if_ne (tgt := 92) hx hb dX9_tellUncaught_83 (by decide) (fun c_540 => ?_) (fun c_540 => ?_)
                    · simp only [i_lt, i_le, i_eq, ti_0] at c_540
                      refine lv_aload hx hb dX9_tellUncaught_92 (lv_at hl 0 rfl) ?_
                      refine va_get (D := (dC, dI)) (ci := 7) (v := .ref (ad (50 + 16 * j_536 + 1))) (C := RX7) (T := TX7) (N := 15) hx hb hg gb_7 hown hK hP (50 + 16 * j_536) (hQ.b0 hj_536) rfl 10 (by decide) (hg _ gm_fieldLink_RX9_151_ErrandGuild_Run_kin_LErrandGuild_Kin_) (fun _ h9 => h9) rfl dX9_tellUncaught_94 ?_
                      refine va_get (D := (dC, dI)) (ci := 4) (v := va_rf (rA9 ad (K j_536 4))) (C := RX4) (T := TX4) (N := 9) hx hb hg gb_4 hown hK hP (50 + 16 * j_536 + 1) (hQ.b1 hj_536) rfl 7 (by decide) (hg _ gm_fieldLink_RX9_228_ErrandGuild_Kin_nextSibling_LErrandGuild_Run_) (fun _ h9 => h9) rfl dX9_tellUncaught_97 ?_
                      rcases eo_541 : K j_536 4 with _ | j_542
                      · refine W.eq (g2 := F0 m 100 ls [.null]) (by first | rfl | (rw [eo_541]; rfl)) ?_
                        refine lv_astoreN (lv' := [(4, .null), (3, .int 1), (2, .ref (ad (50 + 16 * j_2))), (0, .ref (ad 0)), (1, .ref (ad (50 + 16 * i)))]) hx hb dX9_tellUncaught_100 hl (by decide) rfl (fun ls hl => ?_)
                        refine lv_goto (tgt := 61) hx hb dX9_tellUncaught_102 (by decide) ?_
                        exact ih_525  none  ws_518 ga_513 gc_514 n_515 f_516 G_517 ce se H locs ls (by simp only [chM] at *; omega) (fun _ h => by cases h) (by show S9 M gc_514 + gc 1 ≤ S9 M gc + gc_514 1; omega) (by show (n_515 0).toInt = (n 0).toInt; omega) (by show (n 0).toInt ≤ (n_515 0).toInt; omega) hQ ⟨i1_527, i2_528, i3_529, i4_530, i5_531, i6_532, i7_533, i8_534, i9_535⟩ hr1 hr2 hP hD hS (lv_sub hl [0, 1, 2, 3, 4] rfl)
                      · refine W.eq (g2 := F0 m 100 ls [.ref (ad (50 + 16 * j_542))]) (by first | rfl | (rw [eo_541]; rfl)) ?_
                        have hj_542 : j_542 < M := i3_529 _ _ _ hj_536 eo_541
                        refine lv_astore (lv' := [(4, .ref (ad (50 + 16 * j_542))), (3, .int 1), (2, .ref (ad (50 + 16 * j_2))), (0, .ref (ad 0)), (1, .ref (ad (50 + 16 * i)))]) hx hb dX9_tellUncaught_100 hl (by decide) rfl (fun ls hl => ?_)
                        refine lv_goto (tgt := 61) hx hb dX9_tellUncaught_102 (by decide) ?_
                        exact ih_525  (some j_542)  ws_518 ga_513 gc_514 n_515 f_516 G_517 ce se H locs ls (by have := i4_530 _ _ hj_536 eo_541; simp only [chM] at *; omega) (fun _ h => by cases h; exact hj_542) (by show S9 M gc_514 + gc 1 ≤ S9 M gc + gc_514 1; omega) (by show (n_515 0).toInt = (n 0).toInt; omega) (by show (n 0).toInt ≤ (n_515 0).toInt; omega) hQ ⟨i1_527, i2_528, i3_529, i4_530, i5_531, i6_532, i7_533, i8_534, i9_535⟩ hr1 hr2 hP hD hS (lv_sub hl [0, 1, 2, 3, 4] rfl)
                    · simp only [i_lt, i_le, i_eq, ti_0] at c_540
                      refine lv_aload_n hx hb dX9_tellUncaught_86 rfl (lv_at hl 3 rfl) ?_
                      refine lv_aload hx hb dX9_tellUncaught_87 (lv_at hl 0 rfl) ?_
                      have hFc := free_all hD hS hA
                      refine W_msr2 (fun hm1 hm2 hm3 => ?_)
                      refine va_callv (va_runV (As := [.ref (ad (50 + 16 * j_536))]) (rest := []) ⟨hx, hb, hml, hown, hg⟩ (c_X9_askHandlers l dC dI kc ws_518 ad ga_513 gc_514 M n_515 f_516 T G_517 K F R j_536 H.size (hpS H) hQ ⟨i1_527, i2_528, i3_529, i4_530, i5_531, i6_532, i7_533, i8_534, i9_535⟩ (by show j_536 < M; omega) (by show R ≤ 310000; omega)) (cwV 1 hg (gw_V gm_methodLink_RX9_388_yX9_askHandlers gm_instanceMethod_yX9_askHandlers gm_selects_RX9_yX9_askHandlers_yX9_askHandlers gm_initialized_RX9 gm_code_yX9_askHandlers_cX9_askHandlers_7_none) rfl rfl rfl (by decide +kernel) ⟨Nat.le_of_ble_eq_true rfl, Nat.le_of_ble_eq_true rfl⟩) ⟨fun a U g mk q => by obtain ⟨q0, q1, q2, qP, qK, qD, qN⟩ := q; exact ⟨q0, q1, q2, qP, va_K.moved (u := U) (U := U.calling g mk a) (Vm.Alike.refl U.vm) qK, qD, nx_same (u := U) (U := U.calling g mk a) rfl qN⟩, va_recv hK hP (ci := 9) (q0 := 0) rfl hQ.x0, fun U hU hW => ⟨rfl, by rw [hU], by rw [hU], by rw [hU]; exact hP, va_K.moved hW.alike hK, hD.weaken (fun _ _ _ _ => trivial), nx_warm hW hN⟩⟩ rfl rfl hl.1 rfl (lv_room (Nat.le_of_ble_eq_true rfl)) dX9_tellUncaught_89 ⟨by show ce + 1200 ≤ 1800; omega, by show se + 50000 ≤ 67000; omega⟩) hS (fun q _ h => hFc q h) hFc (fun u_544 t H1 locs ht hvm hw hB hz1 hk1 hS => ?_)
                      obtain ⟨ad_545, ga_546, gc_547, M_548, n_549, f_550, T_551, G_552, K_553, F_554⟩ := u_544
                      have hB : ∃ w : va_W, va_P (dC, dI) vwCl w t.heap ∧ va_D (va_A ws_518 H.size) w ∧ Pic9 kc w ad ga_546 gc_547 M n_549 f_550 T G_552 K F ∧ I9 M n_549 T gc_547 G_552 K R ∧ hpS t.heap + (260 * M + 2 * S9 M gc_514) ≤ hpS H + (260 * M + 2 * S9 M gc_547) ∧ 16 * t.heap.size + (256 * M + S9 M gc_514) ≤ 16 * H.size + (256 * M + S9 M gc_547) ∧ (n_515 0).toInt ≤ (n_549 0).toInt := hB
                      rw [ht] at hB
                      obtain ⟨ws_555, hP, hD, hQ, hI_557, hy1, hy2, hn_556⟩ := hB
                      have hD := hD.weaken (fun k q _ h => hFc _ h)
                      obtain ⟨i1_558, i2_559, i3_560, i4_561, i5_562, i6_563, i7_564, i8_565, i9_566⟩ := id hI_557
                      have q1_ := i1_558
                      unfold i1 at q1_
                      have hSl := S9_le i8_565 i9_566
                      have hb0_ := i8_565.2.1 0 (by omega)
                      have hb1_ := i8_565.2.1 1 (by omega)
                      have hb2_ := i8_565.2.1 2 (by omega)
                      refine W_msr2 (fun hn1 hn2 hn3 => ?_)
                      obtain ⟨ce2, se2, hk3, hk4, hr1, hr2⟩ : ∃ c2 s2 : Nat, H1.size ≤ s.heap.size + c2 ∧ hpS H1 ≤ hpS s.heap + s2 ∧ s2 + (260 * M + 2 * S9 M gc) ≤ (260 * M + 2 * S9 M gc_547) ∧ 16 * c2 + (256 * M + S9 M gc) ≤ (256 * M + S9 M gc_547) := ⟨H1.size - s.heap.size, hpS H1 - hpS s.heap, by omega, by omega, by have := hS.1; omega, by have := hS.1; omega⟩
                      refine W_tightP hk3 hk4 ?_
                      clear hm1 hm2 hm3 hn1 hn2 hn3 hk3 hk4
                      clear hk1 hz1
                      generalize ce2 = ce, se2 = se at hr1 hr2 ⊢
                      generalize H1 = H at hP hS ⊢
                      have w_567 : S9 M gc_547 + gc_514 1 ≤ S9 M gc_514 + gc_547 1 ∧ (n_549 0).toInt = (n_515 0).toInt := hw
                      refine lv_aload hx hb dX9_tellUncaught_92 (lv_at hl 0 rfl) ?_
                      refine va_get (D := (dC, dI)) (ci := 7) (v := .ref (ad (50 + 16 * j_536 + 1))) (C := RX7) (T := TX7) (N := 15) hx hb hg gb_7 hown hK hP (50 + 16 * j_536) (hQ.b0 hj_536) rfl 10 (by decide) (hg _ gm_fieldLink_RX9_151_ErrandGuild_Run_kin_LErrandGuild_Kin_) (fun _ h9 => h9) rfl dX9_tellUncaught_94 ?_
                      refine va_get (D := (dC, dI)) (ci := 4) (v := va_rf (rA9 ad (K j_536 4))) (C := RX4) (T := TX4) (N := 9) hx hb hg gb_4 hown hK hP (50 + 16 * j_536 + 1) (hQ.b1 hj_536) rfl 7 (by decide) (hg _ gm_fieldLink_RX9_228_ErrandGuild_Kin_nextSibling_LErrandGuild_Run_) (fun _ h9 => h9) rfl dX9_tellUncaught_97 ?_
                      rcases eo_568 : K j_536 4 with _ | j_569
                      · refine W.eq (g2 := F0 m 100 ls [.null]) (by first | rfl | (rw [eo_568]; rfl)) ?_
                        refine lv_astoreN (lv' := [(4, .null), (3, .int 1), (2, .ref (ad (50 + 16 * j_2))), (0, .ref (ad 0)), (1, .ref (ad (50 + 16 * i)))]) hx hb dX9_tellUncaught_100 hl (by decide) rfl (fun ls hl => ?_)
                        refine lv_goto (tgt := 61) hx hb dX9_tellUncaught_102 (by decide) ?_
                        exact ih_525  none  ws_555 ga_546 gc_547 n_549 f_550 G_552 ce se H locs ls (by simp only [chM] at *; omega) (fun _ h => by cases h) (by show S9 M gc_547 + gc 1 ≤ S9 M gc + gc_547 1; omega) (by show (n_549 0).toInt = (n 0).toInt; omega) (by show (n 0).toInt ≤ (n_549 0).toInt; omega) hQ ⟨i1_558, i2_559, i3_560, i4_561, i5_562, i6_563, i7_564, i8_565, i9_566⟩ hr1 hr2 hP hD hS (lv_sub hl [0, 1, 2, 3, 4] rfl)
                      · refine W.eq (g2 := F0 m 100 ls [.ref (ad (50 + 16 * j_569))]) (by first | rfl | (rw [eo_568]; rfl)) ?_
                        have hj_569 : j_569 < M := i3_560 _ _ _ hj_536 eo_568
                        refine lv_astore (lv' := [(4, .ref (ad (50 + 16 * j_569))), (3, .int 1), (2, .ref (ad (50 + 16 * j_2))), (0, .ref (ad 0)), (1, .ref (ad (50 + 16 * i)))]) hx hb dX9_tellUncaught_100 hl (by decide) rfl (fun ls hl => ?_)
                        refine lv_goto (tgt := 61) hx hb dX9_tellUncaught_102 (by decide) ?_
                        exact ih_525  (some j_569)  ws_555 ga_546 gc_547 n_549 f_550 G_552 ce se H locs ls (by have := i4_561 _ _ hj_536 eo_568; simp only [chM] at *; omega) (fun _ h => by cases h; exact hj_569) (by show S9 M gc_547 + gc 1 ≤ S9 M gc + gc_547 1; omega) (by show (n_549 0).toInt = (n 0).toInt; omega) (by show (n 0).toInt ≤ (n_549 0).toInt; omega) hQ ⟨i1_558, i2_559, i3_560, i4_561, i5_562, i6_563, i7_564, i8_565, i9_566⟩ hr1 hr2 hP hD hS (lv_sub hl [0, 1, 2, 3, 4] rfl)
            exact L61 _  none  ws ga gc n f G ce se _ _ _ (Nat.lt_succ_self _) (fun _ h => by cases h) (by show S9 M gc + gc 1 ≤ S9 M gc + gc 1; omega) (by show (n 0).toInt = (n 0).toInt; omega) (by show (n 0).toInt ≤ (n 0).toInt; omega) hQ ⟨h_i1, h_i2, h_i3, h_i4, h_i5, h_i6, h_i7, h_i8, h_i9⟩ hr1 hr2 hP hD hS (lv_sub hl [0, 1, 2, 3, 4] rfl)
          · refine W.eq (g2 := F0 m 59 ls [.ref (ad (50 + 16 * j_511))]) (by first | rfl | (rw [eo_510]; rfl)) ?_
            have hj_511 : j_511 < M := h_i3 _ _ _ hi eo_510
            refine lv_astore (lv' := [(4, .ref (ad (50 + 16 * j_511))), (3, .int 1), (2, .ref (ad (50 + 16 * j_2))), (0, .ref (ad 0)), (1, .ref (ad (50 + 16 * i)))]) hx hb dX9_tellUncaught_59 hl (by decide) rfl (fun ls hl => ?_)
            have L61 : ∀ (fuel : Nat)  (o_570 : Option Nat)  (ws_576 : va_W) (ga_571 : Nat → Nat) (gc_572 : Nat → Nat) (n_573 : Nat → Int32) (f_574 : Nat → Nat → Int32) (G_575 : Nat → Nat → Int32) (ce se : Nat) (H : Heap) (locs : List Loc) (ls : Array Slot), chM M o_570 < fuel → (∀ j : Nat, o_570 = some j → j < M) → (S9 M gc_572 + gc 1 ≤ S9 M gc + gc_572 1) → ((n_573 0).toInt = (n 0).toInt) → ((n 0).toInt ≤ (n_573 0).toInt) → Pic9 kc ws_576 ad ga_571 gc_572 M n_573 f_574 T G_575 K F → I9 M n_573 T gc_572 G_575 K R → (se + (260 * M + 2 * S9 M gc) ≤ (260 * M + 2 * S9 M gc_572)) → (16 * ce + (256 * M + S9 M gc) ≤ (256 * M + S9 M gc_572)) → va_P (dC, dI) vwCl ws_576 H → va_D A ws_576 → va_S A s.heap H locs → lv_has ls 5 [(4, va_rf (rA9 ad o_570)), (3, .int 1), (2, .ref (ad (50 + 16 * j_2))), (0, .ref (ad 0)), (1, .ref (ad (50 + 16 * i)))] → W p l e (headSpec (.code yX9_tellUncaught cX9_tellUncaught 5 none :: gw) ({ frames := 4, cells := 1800, slots := 67000, locals := 152 })).room s m ([.ref (ad 0), .ref (ad (50 + 16 * i))] : List Value).toArray below meth c H locs ce se (MQ below (va_Qv (fun (u : (Nat → Nat) × (Nat → Nat) × (Nat → Nat) × Nat × (Nat → Int32) × (Nat → Nat → Int32) × (Nat → Option Nat) × (Nat → Nat → Int32) × (Nat → Nat → Option Nat) × (Nat → Nat → Nat → Int32)) => S9 M u.2.2.1 + gc 1 ≤ S9 M gc + u.2.2.1 1 ∧ (u.2.2.2.2.1 0).toInt = (n 0).toInt) (fun u t => ∃ w : va_W, va_P (dC, dI) vwCl w t.heap ∧ va_D A w ∧ Pic9 kc w ad u.2.1 u.2.2.1 M u.2.2.2.2.1 u.2.2.2.2.2.1 T u.2.2.2.2.2.2.2.1 K F ∧ I9 M u.2.2.2.2.1 T u.2.2.1 u.2.2.2.2.2.2.2.1 K R ∧ hpS t.heap + (260 * M + 2 * S9 M gc) ≤ (hpS s.heap) + (260 * M + 2 * S9 M u.2.2.1) ∧ 16 * t.heap.size + (256 * M + S9 M gc) ≤ 16 * s.heap.size + (256 * M + S9 M u.2.2.1) ∧ (n 0).toInt ≤ (u.2.2.2.2.1 0).toInt) A) ([.ref (ad 0), .ref (ad (50 + 16 * i))] : List Value).toArray s 1800 67000 A) (F0 m 61 ls []) := by
              intro fuel
              induction fuel with
              | zero => intro o_570 ws_576 ga_571 gc_572 n_573 f_574 G_575 ce se H locs ls hm; exact absurd hm (Nat.not_lt_zero _)
              | succ fuel_584 ih_583 =>
                intro o_570 ws_576 ga_571 gc_572 n_573 f_574 G_575 ce se H locs ls hm_577 v_578 v_579 v_580 v_581 hQ hI_582 hr1 hr2 hP hD hS hl
                obtain ⟨i1_585, i2_586, i3_587, i4_588, i5_589, i6_590, i7_591, i8_592, i9_593⟩ := id hI_582
                have q1_ := i1_585
                unfold i1 at q1_
                have hSl := S9_le i8_592 i9_593
                have hb0_ := i8_592.2.1 0 (by omega)
                have hb1_ := i8_592.2.1 1 (by omega)
                have hb2_ := i8_592.2.1 2 (by omega)
                rcases o_570 with _ | j_594
                · have hl : lv_has ls 5 [(4, .null), (3, .int 1), (2, .ref (ad (50 + 16 * j_2))), (0, .ref (ad 0)), (1, .ref (ad (50 + 16 * i)))] := hl
                  refine lv_aloadN hx hb dX9_tellUncaught_61 (lv_at hl 0 rfl) ?_
                  refine lv_ifnullN (tgt := 105) hx hb dX9_tellUncaught_63 (by decide) ?_
                  refine W_msr2 (fun hm1 hm2 hm3 => ?_)
                  have hSl := S9_le i8_592 i9_593
                  have hb0_ := i8_592.2.1 0 (by omega)
                  have hb1_ := i8_592.2.1 1 (by omega)
                  have hb2_ := i8_592.2.1 2 (by omega)
                  refine W.widen (k := 1800) (n := 67000) (by omega) (by omega) ?_
                  exact W.vret hx hb hr (fun t ht hW => ⟨⟨(ad, ga_571, gc_572, M, n_573, f_574, T, G_575, K, F), rfl, (by show S9 M gc_572 + gc 1 ≤ S9 M gc + gc_572 1 ∧ (n_573 0).toInt = (n 0).toInt; omega), ws_576, by rw [ht]; exact hP, hD, hQ, ⟨i1_585, i2_586, i3_587, i4_588, i5_589, i6_590, i7_591, i8_592, i9_593⟩, by rw [ht]; show hpS H + (260 * M + 2 * S9 M gc) ≤ hpS s.heap + (260 * M + 2 * S9 M gc_572); omega, by rw [ht]; show 16 * H.size + (256 * M + S9 M gc) ≤ 16 * s.heap.size + (256 * M + S9 M gc_572); omega, by show (n 0).toInt ≤ (n_573 0).toInt; omega⟩, hS.F ht⟩) hS.2.2 dX9_tellUncaught_105
                · have hl : lv_has ls 5 [(4, .ref (ad (50 + 16 * j_594))), (3, .int 1), (2, .ref (ad (50 + 16 * j_2))), (0, .ref (ad 0)), (1, .ref (ad (50 + 16 * i)))] := hl
                  have hj_594 : j_594 < M := v_578 _ rfl
                  refine lv_aload hx hb dX9_tellUncaught_61 (lv_at hl 0 rfl) ?_
                  refine lv_ifnull hx hb dX9_tellUncaught_63 ?_
                  refine lv_aload hx hb dX9_tellUncaught_66 (lv_at hl 0 rfl) ?_
                  refine va_get (D := (dC, dI)) (ci := 7) (v := .int (G_575 j_594 2)) (C := RX7) (T := TX7) (N := 15) hx hb hg gb_7 hown hK hP (50 + 16 * j_594) (hQ.b0 hj_594) rfl 2 (by decide) (hg _ gm_fieldLink_RX9_145_ErrandGuild_Run_state_I_) (fun _ h9 => h9) rfl dX9_tellUncaught_68 ?_
                  refine lv_iconst (v := 4) hx hb dX9_tellUncaught_71 (by decide) ?_
                  refine lv_icmp_ne (tgt := 92) hx hb dX9_tellUncaught_72 (by decide) (fun c_595 => ?_) (fun c_595 => ?_)
                  · simp only [i_lt, i_le, i_eq, ti_4] at c_595
                    refine lv_aload hx hb dX9_tellUncaught_92 (lv_at hl 0 rfl) ?_
                    refine va_get (D := (dC, dI)) (ci := 7) (v := .ref (ad (50 + 16 * j_594 + 1))) (C := RX7) (T := TX7) (N := 15) hx hb hg gb_7 hown hK hP (50 + 16 * j_594) (hQ.b0 hj_594) rfl 10 (by decide) (hg _ gm_fieldLink_RX9_151_ErrandGuild_Run_kin_LErrandGuild_Kin_) (fun _ h9 => h9) rfl dX9_tellUncaught_94 ?_
                    refine va_get (D := (dC, dI)) (ci := 4) (v := va_rf (rA9 ad (K j_594 4))) (C := RX4) (T := TX4) (N := 9) hx hb hg gb_4 hown hK hP (50 + 16 * j_594 + 1) (hQ.b1 hj_594) rfl 7 (by decide) (hg _ gm_fieldLink_RX9_228_ErrandGuild_Kin_nextSibling_LErrandGuild_Run_) (fun _ h9 => h9) rfl dX9_tellUncaught_97 ?_
                    rcases eo_596 : K j_594 4 with _ | j_597
                    · refine W.eq (g2 := F0 m 100 ls [.null]) (by first | rfl | (rw [eo_596]; rfl)) ?_
                      refine lv_astoreN (lv' := [(4, .null), (3, .int 1), (2, .ref (ad (50 + 16 * j_2))), (0, .ref (ad 0)), (1, .ref (ad (50 + 16 * i)))]) hx hb dX9_tellUncaught_100 hl (by decide) rfl (fun ls hl => ?_)
                      refine lv_goto (tgt := 61) hx hb dX9_tellUncaught_102 (by decide) ?_
                      exact ih_583  none  ws_576 ga_571 gc_572 n_573 f_574 G_575 ce se H locs ls (by simp only [chM] at *; omega) (fun _ h => by cases h) (by show S9 M gc_572 + gc 1 ≤ S9 M gc + gc_572 1; omega) (by show (n_573 0).toInt = (n 0).toInt; omega) (by show (n 0).toInt ≤ (n_573 0).toInt; omega) hQ ⟨i1_585, i2_586, i3_587, i4_588, i5_589, i6_590, i7_591, i8_592, i9_593⟩ hr1 hr2 hP hD hS (lv_sub hl [0, 1, 2, 3, 4] rfl)
                    · refine W.eq (g2 := F0 m 100 ls [.ref (ad (50 + 16 * j_597))]) (by first | rfl | (rw [eo_596]; rfl)) ?_
                      have hj_597 : j_597 < M := i3_587 _ _ _ hj_594 eo_596
                      refine lv_astore (lv' := [(4, .ref (ad (50 + 16 * j_597))), (3, .int 1), (2, .ref (ad (50 + 16 * j_2))), (0, .ref (ad 0)), (1, .ref (ad (50 + 16 * i)))]) hx hb dX9_tellUncaught_100 hl (by decide) rfl (fun ls hl => ?_)
                      refine lv_goto (tgt := 61) hx hb dX9_tellUncaught_102 (by decide) ?_
                      exact ih_583  (some j_597)  ws_576 ga_571 gc_572 n_573 f_574 G_575 ce se H locs ls (by have := i4_588 _ _ hj_594 eo_596; simp only [chM] at *; omega) (fun _ h => by cases h; exact hj_597) (by show S9 M gc_572 + gc 1 ≤ S9 M gc + gc_572 1; omega) (by show (n_573 0).toInt = (n 0).toInt; omega) (by show (n 0).toInt ≤ (n_573 0).toInt; omega) hQ ⟨i1_585, i2_586, i3_587, i4_588, i5_589, i6_590, i7_591, i8_592, i9_593⟩ hr1 hr2 hP hD hS (lv_sub hl [0, 1, 2, 3, 4] rfl)
                  · simp only [i_lt, i_le, i_eq, ti_4] at c_595
                    refine lv_aload hx hb dX9_tellUncaught_75 (lv_at hl 0 rfl) ?_
                    refine va_get (D := (dC, dI)) (ci := 7) (v := .ref (ad (50 + 16 * j_594 + 1))) (C := RX7) (T := TX7) (N := 15) hx hb hg gb_7 hown hK hP (50 + 16 * j_594) (hQ.b0 hj_594) rfl 10 (by decide) (hg _ gm_fieldLink_RX9_151_ErrandGuild_Run_kin_LErrandGuild_Kin_) (fun _ h9 => h9) rfl dX9_tellUncaught_77 ?_
                    refine va_get (D := (dC, dI)) (ci := 4) (v := .int (G_575 j_594 12)) (C := RX4) (T := TX4) (N := 9) hx hb hg gb_4 hown hK hP (50 + 16 * j_594 + 1) (hQ.b1 hj_594) rfl 4 (by decide) (hg _ gm_fieldLink_RX9_379_ErrandGuild_Kin_claim_I_) (fun _ h9 => h9) rfl dX9_tellUncaught_80 ?_
                    refine lv_if_ne (tgt := 92) hx hb dX9_tellUncaught_83 (by decide) (fun c_598 => ?_) (fun c_598 => ?_)
                    · simp only [i_lt, i_le, i_eq, ti_0] at c_598
                      refine lv_aload hx hb dX9_tellUncaught_92 (lv_at hl 0 rfl) ?_
                      refine va_get (D := (dC, dI)) (ci := 7) (v := .ref (ad (50 + 16 * j_594 + 1))) (C := RX7) (T := TX7) (N := 15) hx hb hg gb_7 hown hK hP (50 + 16 * j_594) (hQ.b0 hj_594) rfl 10 (by decide) (hg _ gm_fieldLink_RX9_151_ErrandGuild_Run_kin_LErrandGuild_Kin_) (fun _ h9 => h9) rfl dX9_tellUncaught_94 ?_
                      refine va_get (D := (dC, dI)) (ci := 4) (v := va_rf (rA9 ad (K j_594 4))) (C := RX4) (T := TX4) (N := 9) hx hb hg gb_4 hown hK hP (50 + 16 * j_594 + 1) (hQ.b1 hj_594) rfl 7 (by decide) (hg _ gm_fieldLink_RX9_228_ErrandGuild_Kin_nextSibling_LErrandGuild_Run_) (fun _ h9 => h9) rfl dX9_tellUncaught_97 ?_
                      rcases eo_599 : K j_594 4 with _ | j_600
                      · refine W.eq (g2 := F0 m 100 ls [.null]) (by first | rfl | (rw [eo_599]; rfl)) ?_
                        refine lv_astoreN (lv' := [(4, .null), (3, .int 1), (2, .ref (ad (50 + 16 * j_2))), (0, .ref (ad 0)), (1, .ref (ad (50 + 16 * i)))]) hx hb dX9_tellUncaught_100 hl (by decide) rfl (fun ls hl => ?_)
                        refine lv_goto (tgt := 61) hx hb dX9_tellUncaught_102 (by decide) ?_
                        exact ih_583  none  ws_576 ga_571 gc_572 n_573 f_574 G_575 ce se H locs ls (by simp only [chM] at *; omega) (fun _ h => by cases h) (by show S9 M gc_572 + gc 1 ≤ S9 M gc + gc_572 1; omega) (by show (n_573 0).toInt = (n 0).toInt; omega) (by show (n 0).toInt ≤ (n_573 0).toInt; omega) hQ ⟨i1_585, i2_586, i3_587, i4_588, i5_589, i6_590, i7_591, i8_592, i9_593⟩ hr1 hr2 hP hD hS (lv_sub hl [0, 1, 2, 3, 4] rfl)
                      · refine W.eq (g2 := F0 m 100 ls [.ref (ad (50 + 16 * j_600))]) (by first | rfl | (rw [eo_599]; rfl)) ?_
                        have hj_600 : j_600 < M := i3_587 _ _ _ hj_594 eo_599
                        refine lv_astore (lv' := [(4, .ref (ad (50 + 16 * j_600))), (3, .int 1), (2, .ref (ad (50 + 16 * j_2))), (0, .ref (ad 0)), (1, .ref (ad (50 + 16 * i)))]) hx hb dX9_tellUncaught_100 hl (by decide) rfl (fun ls hl => ?_)
                        refine lv_goto (tgt := 61) hx hb dX9_tellUncaught_102 (by decide) ?_
                        exact ih_583  (some j_600)  ws_576 ga_571 gc_572 n_573 f_574 G_575 ce se H locs ls (by have := i4_588 _ _ hj_594 eo_599; simp only [chM] at *; omega) (fun _ h => by cases h; exact hj_600) (by show S9 M gc_572 + gc 1 ≤ S9 M gc + gc_572 1; omega) (by show (n_573 0).toInt = (n 0).toInt; omega) (by show (n 0).toInt ≤ (n_573 0).toInt; omega) hQ ⟨i1_585, i2_586, i3_587, i4_588, i5_589, i6_590, i7_591, i8_592, i9_593⟩ hr1 hr2 hP hD hS (lv_sub hl [0, 1, 2, 3, 4] rfl)
                    · simp only [i_lt, i_le, i_eq, ti_0] at c_598
                      refine lv_aload_n hx hb dX9_tellUncaught_86 rfl (lv_at hl 3 rfl) ?_
                      refine lv_aload hx hb dX9_tellUncaught_87 (lv_at hl 0 rfl) ?_
                      have hFc := free_all hD hS hA
                      refine W_msr2 (fun hm1 hm2 hm3 => ?_)
                      refine va_callv (va_runV (As := [.ref (ad (50 + 16 * j_594))]) (rest := []) ⟨hx, hb, hml, hown, hg⟩ (c_X9_askHandlers l dC dI kc ws_576 ad ga_571 gc_572 M n_573 f_574 T G_575 K F R j_594 H.size (hpS H) hQ ⟨i1_585, i2_586, i3_587, i4_588, i5_589, i6_590, i7_591, i8_592, i9_593⟩ (by show j_594 < M; omega) (by show R ≤ 310000; omega)) (cwV 1 hg (gw_V gm_methodLink_RX9_388_yX9_askHandlers gm_instanceMethod_yX9_askHandlers gm_selects_RX9_yX9_askHandlers_yX9_askHandlers gm_initialized_RX9 gm_code_yX9_askHandlers_cX9_askHandlers_7_none) rfl rfl rfl (by decide +kernel) ⟨Nat.le_of_ble_eq_true rfl, Nat.le_of_ble_eq_true rfl⟩) ⟨fun a U g mk q => by obtain ⟨q0, q1, q2, qP, qK, qD, qN⟩ := q; exact ⟨q0, q1, q2, qP, va_K.moved (u := U) (U := U.calling g mk a) (Vm.Alike.refl U.vm) qK, qD, nx_same (u := U) (U := U.calling g mk a) rfl qN⟩, va_recv hK hP (ci := 9) (q0 := 0) rfl hQ.x0, fun U hU hW => ⟨rfl, by rw [hU], by rw [hU], by rw [hU]; exact hP, va_K.moved hW.alike hK, hD.weaken (fun _ _ _ _ => trivial), nx_warm hW hN⟩⟩ rfl rfl hl.1 rfl (lv_room (Nat.le_of_ble_eq_true rfl)) dX9_tellUncaught_89 ⟨by show ce + 1200 ≤ 1800; omega, by show se + 50000 ≤ 67000; omega⟩) hS (fun q _ h => hFc q h) hFc (fun u_602 t H1 locs ht hvm hw hB hz1 hk1 hS => ?_)
                      obtain ⟨ad_603, ga_604, gc_605, M_606, n_607, f_608, T_609, G_610, K_611, F_612⟩ := u_602
                      have hB : ∃ w : va_W, va_P (dC, dI) vwCl w t.heap ∧ va_D (va_A ws_576 H.size) w ∧ Pic9 kc w ad ga_604 gc_605 M n_607 f_608 T G_610 K F ∧ I9 M n_607 T gc_605 G_610 K R ∧ hpS t.heap + (260 * M + 2 * S9 M gc_572) ≤ hpS H + (260 * M + 2 * S9 M gc_605) ∧ 16 * t.heap.size + (256 * M + S9 M gc_572) ≤ 16 * H.size + (256 * M + S9 M gc_605) ∧ (n_573 0).toInt ≤ (n_607 0).toInt := hB
                      rw [ht] at hB
                      obtain ⟨ws_613, hP, hD, hQ, hI_615, hy1, hy2, hn_614⟩ := hB
                      have hD := hD.weaken (fun k q _ h => hFc _ h)
                      obtain ⟨i1_616, i2_617, i3_618, i4_619, i5_620, i6_621, i7_622, i8_623, i9_624⟩ := id hI_615
                      have q1_ := i1_616
                      unfold i1 at q1_
                      have hSl := S9_le i8_623 i9_624
                      have hb0_ := i8_623.2.1 0 (by omega)
                      have hb1_ := i8_623.2.1 1 (by omega)
                      have hb2_ := i8_623.2.1 2 (by omega)
                      refine W_msr2 (fun hn1 hn2 hn3 => ?_)
                      obtain ⟨ce2, se2, hk3, hk4, hr1, hr2⟩ : ∃ c2 s2 : Nat, H1.size ≤ s.heap.size + c2 ∧ hpS H1 ≤ hpS s.heap + s2 ∧ s2 + (260 * M + 2 * S9 M gc) ≤ (260 * M + 2 * S9 M gc_605) ∧ 16 * c2 + (256 * M + S9 M gc) ≤ (256 * M + S9 M gc_605) := ⟨H1.size - s.heap.size, hpS H1 - hpS s.heap, by omega, by omega, by have := hS.1; omega, by have := hS.1; omega⟩
                      refine W_tightP hk3 hk4 ?_
                      clear hm1 hm2 hm3 hn1 hn2 hn3 hk3 hk4
                      clear hk1 hz1
                      generalize ce2 = ce, se2 = se at hr1 hr2 ⊢
                      generalize H1 = H at hP hS ⊢
                      have w_625 : S9 M gc_605 + gc_572 1 ≤ S9 M gc_572 + gc_605 1 ∧ (n_607 0).toInt = (n_573 0).toInt := hw
                      refine lv_aload hx hb dX9_tellUncaught_92 (lv_at hl 0 rfl) ?_
                      refine va_get (D := (dC, dI)) (ci := 7) (v := .ref (ad (50 + 16 * j_594 + 1))) (C := RX7) (T := TX7) (N := 15) hx hb hg gb_7 hown hK hP (50 + 16 * j_594) (hQ.b0 hj_594) rfl 10 (by decide) (hg _ gm_fieldLink_RX9_151_ErrandGuild_Run_kin_LErrandGuild_Kin_) (fun _ h9 => h9) rfl dX9_tellUncaught_94 ?_
                      refine va_get (D := (dC, dI)) (ci := 4) (v := va_rf (rA9 ad (K j_594 4))) (C := RX4) (T := TX4) (N := 9) hx hb hg gb_4 hown hK hP (50 + 16 * j_594 + 1) (hQ.b1 hj_594) rfl 7 (by decide) (hg _ gm_fieldLink_RX9_228_ErrandGuild_Kin_nextSibling_LErrandGuild_Run_) (fun _ h9 => h9) rfl dX9_tellUncaught_97 ?_
                      rcases eo_626 : K j_594 4 with _ | j_627
                      · refine W.eq (g2 := F0 m 100 ls [.null]) (by first | rfl | (rw [eo_626]; rfl)) ?_
                        refine lv_astoreN (lv' := [(4, .null), (3, .int 1), (2, .ref (ad (50 + 16 * j_2))), (0, .ref (ad 0)), (1, .ref (ad (50 + 16 * i)))]) hx hb dX9_tellUncaught_100 hl (by decide) rfl (fun ls hl => ?_)
                        refine lv_goto (tgt := 61) hx hb dX9_tellUncaught_102 (by decide) ?_
                        exact ih_583  none  ws_613 ga_604 gc_605 n_607 f_608 G_610 ce se H locs ls (by simp only [chM] at *; omega) (fun _ h => by cases h) (by show S9 M gc_605 + gc 1 ≤ S9 M gc + gc_605 1; omega) (by show (n_607 0).toInt = (n 0).toInt; omega) (by show (n 0).toInt ≤ (n_607 0).toInt; omega) hQ ⟨i1_616, i2_617, i3_618, i4_619, i5_620, i6_621, i7_622, i8_623, i9_624⟩ hr1 hr2 hP hD hS (lv_sub hl [0, 1, 2, 3, 4] rfl)
                      · refine W.eq (g2 := F0 m 100 ls [.ref (ad (50 + 16 * j_627))]) (by first | rfl | (rw [eo_626]; rfl)) ?_
                        have hj_627 : j_627 < M := i3_618 _ _ _ hj_594 eo_626
                        refine lv_astore (lv' := [(4, .ref (ad (50 + 16 * j_627))), (3, .int 1), (2, .ref (ad (50 + 16 * j_2))), (0, .ref (ad 0)), (1, .ref (ad (50 + 16 * i)))]) hx hb dX9_tellUncaught_100 hl (by decide) rfl (fun ls hl => ?_)
                        refine lv_goto (tgt := 61) hx hb dX9_tellUncaught_102 (by decide) ?_
                        exact ih_583  (some j_627)  ws_613 ga_604 gc_605 n_607 f_608 G_610 ce se H locs ls (by have := i4_619 _ _ hj_594 eo_626; simp only [chM] at *; omega) (fun _ h => by cases h; exact hj_627) (by show S9 M gc_605 + gc 1 ≤ S9 M gc + gc_605 1; omega) (by show (n_607 0).toInt = (n 0).toInt; omega) (by show (n 0).toInt ≤ (n_607 0).toInt; omega) hQ ⟨i1_616, i2_617, i3_618, i4_619, i5_620, i6_621, i7_622, i8_623, i9_624⟩ hr1 hr2 hP hD hS (lv_sub hl [0, 1, 2, 3, 4] rfl)
            exact L61 _  (some j_511)  ws ga gc n f G ce se _ _ _ (Nat.lt_succ_self _) (fun _ h => by cases h; exact hj_511) (by show S9 M gc + gc 1 ≤ S9 M gc + gc 1; omega) (by show (n 0).toInt = (n 0).toInt; omega) (by show (n 0).toInt ≤ (n 0).toInt; omega) hQ ⟨h_i1, h_i2, h_i3, h_i4, h_i5, h_i6, h_i7, h_i8, h_i9⟩ hr1 hr2 hP hD hS (lv_sub hl [0, 1, 2, 3, 4] rfl)
        · simp only [i_lt, i_le, i_eq, ti_4] at c_509
          refine lv_iload_n hx hb dX9_tellUncaught_43 rfl (lv_at hl 0 rfl) ?_
          refine lv_if_eq (tgt := 52) hx hb dX9_tellUncaught_44 (by decide) (fun c_628 => absurd c_628 (by decide)) (fun _ => ?_)
          refine lv_aload_n hx hb dX9_tellUncaught_47 rfl (lv_at hl 2 rfl) ?_
          refine lv_aload_n hx hb dX9_tellUncaught_48 rfl (lv_at hl 3 rfl) ?_
          have hFc := free_all hD hS hA
          refine W_msr2 (fun hm1 hm2 hm3 => ?_)
          refine va_callv (va_runV (As := [.ref (ad (50 + 16 * i))]) (rest := []) ⟨hx, hb, hml, hown, hg⟩ (c_X9_askHandlers l dC dI kc ws ad ga gc M n f T G K F R i H.size (hpS H) hQ ⟨h_i1, h_i2, h_i3, h_i4, h_i5, h_i6, h_i7, h_i8, h_i9⟩ (by show i < M; omega) (by show R ≤ 310000; omega)) (cwV 1 hg (gw_V gm_methodLink_RX9_388_yX9_askHandlers gm_instanceMethod_yX9_askHandlers gm_selects_RX9_yX9_askHandlers_yX9_askHandlers gm_initialized_RX9 gm_code_yX9_askHandlers_cX9_askHandlers_7_none) rfl rfl rfl (by decide +kernel) ⟨Nat.le_of_ble_eq_true rfl, Nat.le_of_ble_eq_true rfl⟩) ⟨fun a U g mk q => by obtain ⟨q0, q1, q2, qP, qK, qD, qN⟩ := q; exact ⟨q0, q1, q2, qP, va_K.moved (u := U) (U := U.calling g mk a) (Vm.Alike.refl U.vm) qK, qD, nx_same (u := U) (U := U.calling g mk a) rfl qN⟩, va_recv hK hP (ci := 9) (q0 := 0) rfl hQ.x0, fun U hU hW => ⟨rfl, by rw [hU], by rw [hU], by rw [hU]; exact hP, va_K.moved hW.alike hK, hD.weaken (fun _ _ _ _ => trivial), nx_warm hW hN⟩⟩ rfl rfl hl.1 rfl (lv_room (Nat.le_of_ble_eq_true rfl)) dX9_tellUncaught_49 ⟨by show ce + 1200 ≤ 1800; omega, by show se + 50000 ≤ 67000; omega⟩) hS (fun q _ h => hFc q h) hFc (fun u_630 t H1 locs ht hvm hw hB hz1 hk1 hS => ?_)
          obtain ⟨ad_631, ga_632, gc_633, M_634, n_635, f_636, T_637, G_638, K_639, F_640⟩ := u_630
          have hB : ∃ w : va_W, va_P (dC, dI) vwCl w t.heap ∧ va_D (va_A ws H.size) w ∧ Pic9 kc w ad ga_632 gc_633 M n_635 f_636 T G_638 K F ∧ I9 M n_635 T gc_633 G_638 K R ∧ hpS t.heap + (260 * M + 2 * S9 M gc) ≤ hpS H + (260 * M + 2 * S9 M gc_633) ∧ 16 * t.heap.size + (256 * M + S9 M gc) ≤ 16 * H.size + (256 * M + S9 M gc_633) ∧ (n 0).toInt ≤ (n_635 0).toInt := hB
          rw [ht] at hB
          obtain ⟨ws_641, hP, hD, hQ, hI_643, hy1, hy2, hn_642⟩ := hB
          have hD := hD.weaken (fun k q _ h => hFc _ h)
          obtain ⟨i1_644, i2_645, i3_646, i4_647, i5_648, i6_649, i7_650, i8_651, i9_652⟩ := id hI_643
          have q1_ := i1_644
          unfold i1 at q1_
          have hSl := S9_le i8_651 i9_652
          have hb0_ := i8_651.2.1 0 (by omega)
          have hb1_ := i8_651.2.1 1 (by omega)
          have hb2_ := i8_651.2.1 2 (by omega)
          refine W_msr2 (fun hn1 hn2 hn3 => ?_)
          obtain ⟨ce2, se2, hk3, hk4, hr1, hr2⟩ : ∃ c2 s2 : Nat, H1.size ≤ s.heap.size + c2 ∧ hpS H1 ≤ hpS s.heap + s2 ∧ s2 + (260 * M + 2 * S9 M gc) ≤ (260 * M + 2 * S9 M gc_633) ∧ 16 * c2 + (256 * M + S9 M gc) ≤ (256 * M + S9 M gc_633) := ⟨H1.size - s.heap.size, hpS H1 - hpS s.heap, by omega, by omega, by have := hS.1; omega, by have := hS.1; omega⟩
          refine W_tightP hk3 hk4 ?_
          clear hm1 hm2 hm3 hn1 hn2 hn3 hk3 hk4
          clear hk1 hz1
          generalize ce2 = ce, se2 = se at hr1 hr2 ⊢
          generalize H1 = H at hP hS ⊢
          have w_653 : S9 M gc_633 + gc 1 ≤ S9 M gc + gc_633 1 ∧ (n_635 0).toInt = (n 0).toInt := hw
          refine lv_aload_n hx hb dX9_tellUncaught_52 rfl (lv_at hl 3 rfl) ?_
          refine va_get (D := (dC, dI)) (ci := 7) (v := .ref (ad (50 + 16 * i + 1))) (C := RX7) (T := TX7) (N := 15) hx hb hg gb_7 hown hK hP (50 + 16 * i) (hQ.b0 hi) rfl 10 (by decide) (hg _ gm_fieldLink_RX9_151_ErrandGuild_Run_kin_LErrandGuild_Kin_) (fun _ h9 => h9) rfl dX9_tellUncaught_53 ?_
          refine va_get (D := (dC, dI)) (ci := 4) (v := va_rf (rA9 ad (K i 2))) (C := RX4) (T := TX4) (N := 9) hx hb hg gb_4 hown hK hP (50 + 16 * i + 1) (hQ.b1 hi) rfl 5 (by decide) (hg _ gm_fieldLink_RX9_225_ErrandGuild_Kin_firstChild_LErrandGuild_Run_) (fun _ h9 => h9) rfl dX9_tellUncaught_56 ?_
          rcases eo_654 : K i 2 with _ | j_655
          · refine W.eq (g2 := F0 m 59 ls [.null]) (by first | rfl | (rw [eo_654]; rfl)) ?_
            refine lv_astoreN (lv' := [(4, .null), (3, .int 1), (2, .ref (ad (50 + 16 * j_2))), (0, .ref (ad 0)), (1, .ref (ad (50 + 16 * i)))]) hx hb dX9_tellUncaught_59 hl (by decide) rfl (fun ls hl => ?_)
            have L61 : ∀ (fuel : Nat)  (o_656 : Option Nat)  (ws_662 : va_W) (ga_657 : Nat → Nat) (gc_658 : Nat → Nat) (n_659 : Nat → Int32) (f_660 : Nat → Nat → Int32) (G_661 : Nat → Nat → Int32) (ce se : Nat) (H : Heap) (locs : List Loc) (ls : Array Slot), chM M o_656 < fuel → (∀ j : Nat, o_656 = some j → j < M) → (S9 M gc_658 + gc 1 ≤ S9 M gc + gc_658 1) → ((n_659 0).toInt = (n 0).toInt) → ((n 0).toInt ≤ (n_659 0).toInt) → Pic9 kc ws_662 ad ga_657 gc_658 M n_659 f_660 T G_661 K F → I9 M n_659 T gc_658 G_661 K R → (se + (260 * M + 2 * S9 M gc) ≤ (260 * M + 2 * S9 M gc_658)) → (16 * ce + (256 * M + S9 M gc) ≤ (256 * M + S9 M gc_658)) → va_P (dC, dI) vwCl ws_662 H → va_D A ws_662 → va_S A s.heap H locs → lv_has ls 5 [(4, va_rf (rA9 ad o_656)), (3, .int 1), (2, .ref (ad (50 + 16 * j_2))), (0, .ref (ad 0)), (1, .ref (ad (50 + 16 * i)))] → W p l e (headSpec (.code yX9_tellUncaught cX9_tellUncaught 5 none :: gw) ({ frames := 4, cells := 1800, slots := 67000, locals := 152 })).room s m ([.ref (ad 0), .ref (ad (50 + 16 * i))] : List Value).toArray below meth c H locs ce se (MQ below (va_Qv (fun (u : (Nat → Nat) × (Nat → Nat) × (Nat → Nat) × Nat × (Nat → Int32) × (Nat → Nat → Int32) × (Nat → Option Nat) × (Nat → Nat → Int32) × (Nat → Nat → Option Nat) × (Nat → Nat → Nat → Int32)) => S9 M u.2.2.1 + gc 1 ≤ S9 M gc + u.2.2.1 1 ∧ (u.2.2.2.2.1 0).toInt = (n 0).toInt) (fun u t => ∃ w : va_W, va_P (dC, dI) vwCl w t.heap ∧ va_D A w ∧ Pic9 kc w ad u.2.1 u.2.2.1 M u.2.2.2.2.1 u.2.2.2.2.2.1 T u.2.2.2.2.2.2.2.1 K F ∧ I9 M u.2.2.2.2.1 T u.2.2.1 u.2.2.2.2.2.2.2.1 K R ∧ hpS t.heap + (260 * M + 2 * S9 M gc) ≤ (hpS s.heap) + (260 * M + 2 * S9 M u.2.2.1) ∧ 16 * t.heap.size + (256 * M + S9 M gc) ≤ 16 * s.heap.size + (256 * M + S9 M u.2.2.1) ∧ (n 0).toInt ≤ (u.2.2.2.2.1 0).toInt) A) ([.ref (ad 0), .ref (ad (50 + 16 * i))] : List Value).toArray s 1800 67000 A) (F0 m 61 ls []) := by
              intro fuel
              induction fuel with
              | zero => intro o_656 ws_662 ga_657 gc_658 n_659 f_660 G_661 ce se H locs ls hm; exact absurd hm (Nat.not_lt_zero _)
              | succ fuel_670 ih_669 =>
                intro o_656 ws_662 ga_657 gc_658 n_659 f_660 G_661 ce se H locs ls hm_663 v_664 v_665 v_666 v_667 hQ hI_668 hr1 hr2 hP hD hS hl
                obtain ⟨i1_671, i2_672, i3_673, i4_674, i5_675, i6_676, i7_677, i8_678, i9_679⟩ := id hI_668
                have q1_ := i1_671
                unfold i1 at q1_
                have hSl := S9_le i8_678 i9_679
                have hb0_ := i8_678.2.1 0 (by omega)
                have hb1_ := i8_678.2.1 1 (by omega)
                have hb2_ := i8_678.2.1 2 (by omega)
                rcases o_656 with _ | j_680
                · have hl : lv_has ls 5 [(4, .null), (3, .int 1), (2, .ref (ad (50 + 16 * j_2))), (0, .ref (ad 0)), (1, .ref (ad (50 + 16 * i)))] := hl
                  refine lv_aloadN hx hb dX9_tellUncaught_61 (lv_at hl 0 rfl) ?_
                  refine lv_ifnullN (tgt := 105) hx hb dX9_tellUncaught_63 (by decide) ?_
                  refine W_msr2 (fun hm1 hm2 hm3 => ?_)
                  have hSl := S9_le i8_678 i9_679
                  have hb0_ := i8_678.2.1 0 (by omega)
                  have hb1_ := i8_678.2.1 1 (by omega)
                  have hb2_ := i8_678.2.1 2 (by omega)
                  refine W.widen (k := 1800) (n := 67000) (by omega) (by omega) ?_
                  exact W.vret hx hb hr (fun t ht hW => ⟨⟨(ad, ga_657, gc_658, M, n_659, f_660, T, G_661, K, F), rfl, (by show S9 M gc_658 + gc 1 ≤ S9 M gc + gc_658 1 ∧ (n_659 0).toInt = (n 0).toInt; omega), ws_662, by rw [ht]; exact hP, hD, hQ, ⟨i1_671, i2_672, i3_673, i4_674, i5_675, i6_676, i7_677, i8_678, i9_679⟩, by rw [ht]; show hpS H + (260 * M + 2 * S9 M gc) ≤ hpS s.heap + (260 * M + 2 * S9 M gc_658); omega, by rw [ht]; show 16 * H.size + (256 * M + S9 M gc) ≤ 16 * s.heap.size + (256 * M + S9 M gc_658); omega, by show (n 0).toInt ≤ (n_659 0).toInt; omega⟩, hS.F ht⟩) hS.2.2 dX9_tellUncaught_105
                · have hl : lv_has ls 5 [(4, .ref (ad (50 + 16 * j_680))), (3, .int 1), (2, .ref (ad (50 + 16 * j_2))), (0, .ref (ad 0)), (1, .ref (ad (50 + 16 * i)))] := hl
                  have hj_680 : j_680 < M := v_664 _ rfl
                  refine lv_aload hx hb dX9_tellUncaught_61 (lv_at hl 0 rfl) ?_
                  refine lv_ifnull hx hb dX9_tellUncaught_63 ?_
                  refine lv_aload hx hb dX9_tellUncaught_66 (lv_at hl 0 rfl) ?_
                  refine va_get (D := (dC, dI)) (ci := 7) (v := .int (G_661 j_680 2)) (C := RX7) (T := TX7) (N := 15) hx hb hg gb_7 hown hK hP (50 + 16 * j_680) (hQ.b0 hj_680) rfl 2 (by decide) (hg _ gm_fieldLink_RX9_145_ErrandGuild_Run_state_I_) (fun _ h9 => h9) rfl dX9_tellUncaught_68 ?_
                  refine lv_iconst (v := 4) hx hb dX9_tellUncaught_71 (by decide) ?_
                  refine lv_icmp_ne (tgt := 92) hx hb dX9_tellUncaught_72 (by decide) (fun c_681 => ?_) (fun c_681 => ?_)
                  · simp only [i_lt, i_le, i_eq, ti_4] at c_681
                    refine lv_aload hx hb dX9_tellUncaught_92 (lv_at hl 0 rfl) ?_
                    refine va_get (D := (dC, dI)) (ci := 7) (v := .ref (ad (50 + 16 * j_680 + 1))) (C := RX7) (T := TX7) (N := 15) hx hb hg gb_7 hown hK hP (50 + 16 * j_680) (hQ.b0 hj_680) rfl 10 (by decide) (hg _ gm_fieldLink_RX9_151_ErrandGuild_Run_kin_LErrandGuild_Kin_) (fun _ h9 => h9) rfl dX9_tellUncaught_94 ?_
                    refine va_get (D := (dC, dI)) (ci := 4) (v := va_rf (rA9 ad (K j_680 4))) (C := RX4) (T := TX4) (N := 9) hx hb hg gb_4 hown hK hP (50 + 16 * j_680 + 1) (hQ.b1 hj_680) rfl 7 (by decide) (hg _ gm_fieldLink_RX9_228_ErrandGuild_Kin_nextSibling_LErrandGuild_Run_) (fun _ h9 => h9) rfl dX9_tellUncaught_97 ?_
                    rcases eo_682 : K j_680 4 with _ | j_683
                    · refine W.eq (g2 := F0 m 100 ls [.null]) (by first | rfl | (rw [eo_682]; rfl)) ?_
                      refine lv_astoreN (lv' := [(4, .null), (3, .int 1), (2, .ref (ad (50 + 16 * j_2))), (0, .ref (ad 0)), (1, .ref (ad (50 + 16 * i)))]) hx hb dX9_tellUncaught_100 hl (by decide) rfl (fun ls hl => ?_)
                      refine lv_goto (tgt := 61) hx hb dX9_tellUncaught_102 (by decide) ?_
                      exact ih_669  none  ws_662 ga_657 gc_658 n_659 f_660 G_661 ce se H locs ls (by simp only [chM] at *; omega) (fun _ h => by cases h) (by show S9 M gc_658 + gc 1 ≤ S9 M gc + gc_658 1; omega) (by show (n_659 0).toInt = (n 0).toInt; omega) (by show (n 0).toInt ≤ (n_659 0).toInt; omega) hQ ⟨i1_671, i2_672, i3_673, i4_674, i5_675, i6_676, i7_677, i8_678, i9_679⟩ hr1 hr2 hP hD hS (lv_sub hl [0, 1, 2, 3, 4] rfl)
                    · refine W.eq (g2 := F0 m 100 ls [.ref (ad (50 + 16 * j_683))]) (by first | rfl | (rw [eo_682]; rfl)) ?_
                      have hj_683 : j_683 < M := i3_673 _ _ _ hj_680 eo_682
                      refine lv_astore (lv' := [(4, .ref (ad (50 + 16 * j_683))), (3, .int 1), (2, .ref (ad (50 + 16 * j_2))), (0, .ref (ad 0)), (1, .ref (ad (50 + 16 * i)))]) hx hb dX9_tellUncaught_100 hl (by decide) rfl (fun ls hl => ?_)
                      refine lv_goto (tgt := 61) hx hb dX9_tellUncaught_102 (by decide) ?_
                      exact ih_669  (some j_683)  ws_662 ga_657 gc_658 n_659 f_660 G_661 ce se H locs ls (by have := i4_674 _ _ hj_680 eo_682; simp only [chM] at *; omega) (fun _ h => by cases h; exact hj_683) (by show S9 M gc_658 + gc 1 ≤ S9 M gc + gc_658 1; omega) (by show (n_659 0).toInt = (n 0).toInt; omega) (by show (n 0).toInt ≤ (n_659 0).toInt; omega) hQ ⟨i1_671, i2_672, i3_673, i4_674, i5_675, i6_676, i7_677, i8_678, i9_679⟩ hr1 hr2 hP hD hS (lv_sub hl [0, 1, 2, 3, 4] rfl)
                  · simp only [i_lt, i_le, i_eq, ti_4] at c_681
                    refine lv_aload hx hb dX9_tellUncaught_75 (lv_at hl 0 rfl) ?_
                    refine va_get (D := (dC, dI)) (ci := 7) (v := .ref (ad (50 + 16 * j_680 + 1))) (C := RX7) (T := TX7) (N := 15) hx hb hg gb_7 hown hK hP (50 + 16 * j_680) (hQ.b0 hj_680) rfl 10 (by decide) (hg _ gm_fieldLink_RX9_151_ErrandGuild_Run_kin_LErrandGuild_Kin_) (fun _ h9 => h9) rfl dX9_tellUncaught_77 ?_
                    refine va_get (D := (dC, dI)) (ci := 4) (v := .int (G_661 j_680 12)) (C := RX4) (T := TX4) (N := 9) hx hb hg gb_4 hown hK hP (50 + 16 * j_680 + 1) (hQ.b1 hj_680) rfl 4 (by decide) (hg _ gm_fieldLink_RX9_379_ErrandGuild_Kin_claim_I_) (fun _ h9 => h9) rfl dX9_tellUncaught_80 ?_
                    refine lv_if_ne (tgt := 92) hx hb dX9_tellUncaught_83 (by decide) (fun c_684 => ?_) (fun c_684 => ?_)
                    · simp only [i_lt, i_le, i_eq, ti_0] at c_684
                      refine lv_aload hx hb dX9_tellUncaught_92 (lv_at hl 0 rfl) ?_
                      refine va_get (D := (dC, dI)) (ci := 7) (v := .ref (ad (50 + 16 * j_680 + 1))) (C := RX7) (T := TX7) (N := 15) hx hb hg gb_7 hown hK hP (50 + 16 * j_680) (hQ.b0 hj_680) rfl 10 (by decide) (hg _ gm_fieldLink_RX9_151_ErrandGuild_Run_kin_LErrandGuild_Kin_) (fun _ h9 => h9) rfl dX9_tellUncaught_94 ?_
                      refine va_get (D := (dC, dI)) (ci := 4) (v := va_rf (rA9 ad (K j_680 4))) (C := RX4) (T := TX4) (N := 9) hx hb hg gb_4 hown hK hP (50 + 16 * j_680 + 1) (hQ.b1 hj_680) rfl 7 (by decide) (hg _ gm_fieldLink_RX9_228_ErrandGuild_Kin_nextSibling_LErrandGuild_Run_) (fun _ h9 => h9) rfl dX9_tellUncaught_97 ?_
                      rcases eo_685 : K j_680 4 with _ | j_686
                      · refine W.eq (g2 := F0 m 100 ls [.null]) (by first | rfl | (rw [eo_685]; rfl)) ?_
                        refine lv_astoreN (lv' := [(4, .null), (3, .int 1), (2, .ref (ad (50 + 16 * j_2))), (0, .ref (ad 0)), (1, .ref (ad (50 + 16 * i)))]) hx hb dX9_tellUncaught_100 hl (by decide) rfl (fun ls hl => ?_)
                        refine lv_goto (tgt := 61) hx hb dX9_tellUncaught_102 (by decide) ?_
                        exact ih_669  none  ws_662 ga_657 gc_658 n_659 f_660 G_661 ce se H locs ls (by simp only [chM] at *; omega) (fun _ h => by cases h) (by show S9 M gc_658 + gc 1 ≤ S9 M gc + gc_658 1; omega) (by show (n_659 0).toInt = (n 0).toInt; omega) (by show (n 0).toInt ≤ (n_659 0).toInt; omega) hQ ⟨i1_671, i2_672, i3_673, i4_674, i5_675, i6_676, i7_677, i8_678, i9_679⟩ hr1 hr2 hP hD hS (lv_sub hl [0, 1, 2, 3, 4] rfl)
                      · refine W.eq (g2 := F0 m 100 ls [.ref (ad (50 + 16 * j_686))]) (by first | rfl | (rw [eo_685]; rfl)) ?_
                        have hj_686 : j_686 < M := i3_673 _ _ _ hj_680 eo_685
                        refine lv_astore (lv' := [(4, .ref (ad (50 + 16 * j_686))), (3, .int 1), (2, .ref (ad (50 + 16 * j_2))), (0, .ref (ad 0)), (1, .ref (ad (50 + 16 * i)))]) hx hb dX9_tellUncaught_100 hl (by decide) rfl (fun ls hl => ?_)
                        refine lv_goto (tgt := 61) hx hb dX9_tellUncaught_102 (by decide) ?_
                        exact ih_669  (some j_686)  ws_662 ga_657 gc_658 n_659 f_660 G_661 ce se H locs ls (by have := i4_674 _ _ hj_680 eo_685; simp only [chM] at *; omega) (fun _ h => by cases h; exact hj_686) (by show S9 M gc_658 + gc 1 ≤ S9 M gc + gc_658 1; omega) (by show (n_659 0).toInt = (n 0).toInt; omega) (by show (n 0).toInt ≤ (n_659 0).toInt; omega) hQ ⟨i1_671, i2_672, i3_673, i4_674, i5_675, i6_676, i7_677, i8_678, i9_679⟩ hr1 hr2 hP hD hS (lv_sub hl [0, 1, 2, 3, 4] rfl)
                    · simp only [i_lt, i_le, i_eq, ti_0] at c_684
                      refine lv_aload_n hx hb dX9_tellUncaught_86 rfl (lv_at hl 3 rfl) ?_
                      refine lv_aload hx hb dX9_tellUncaught_87 (lv_at hl 0 rfl) ?_
                      have hFc := free_all hD hS hA
                      refine W_msr2 (fun hm1 hm2 hm3 => ?_)
                      refine va_callv (va_runV (As := [.ref (ad (50 + 16 * j_680))]) (rest := []) ⟨hx, hb, hml, hown, hg⟩ (c_X9_askHandlers l dC dI kc ws_662 ad ga_657 gc_658 M n_659 f_660 T G_661 K F R j_680 H.size (hpS H) hQ ⟨i1_671, i2_672, i3_673, i4_674, i5_675, i6_676, i7_677, i8_678, i9_679⟩ (by show j_680 < M; omega) (by show R ≤ 310000; omega)) (cwV 1 hg (gw_V gm_methodLink_RX9_388_yX9_askHandlers gm_instanceMethod_yX9_askHandlers gm_selects_RX9_yX9_askHandlers_yX9_askHandlers gm_initialized_RX9 gm_code_yX9_askHandlers_cX9_askHandlers_7_none) rfl rfl rfl (by decide +kernel) ⟨Nat.le_of_ble_eq_true rfl, Nat.le_of_ble_eq_true rfl⟩) ⟨fun a U g mk q => by obtain ⟨q0, q1, q2, qP, qK, qD, qN⟩ := q; exact ⟨q0, q1, q2, qP, va_K.moved (u := U) (U := U.calling g mk a) (Vm.Alike.refl U.vm) qK, qD, nx_same (u := U) (U := U.calling g mk a) rfl qN⟩, va_recv hK hP (ci := 9) (q0 := 0) rfl hQ.x0, fun U hU hW => ⟨rfl, by rw [hU], by rw [hU], by rw [hU]; exact hP, va_K.moved hW.alike hK, hD.weaken (fun _ _ _ _ => trivial), nx_warm hW hN⟩⟩ rfl rfl hl.1 rfl (lv_room (Nat.le_of_ble_eq_true rfl)) dX9_tellUncaught_89 ⟨by show ce + 1200 ≤ 1800; omega, by show se + 50000 ≤ 67000; omega⟩) hS (fun q _ h => hFc q h) hFc (fun u_688 t H1 locs ht hvm hw hB hz1 hk1 hS => ?_)
                      obtain ⟨ad_689, ga_690, gc_691, M_692, n_693, f_694, T_695, G_696, K_697, F_698⟩ := u_688
                      have hB : ∃ w : va_W, va_P (dC, dI) vwCl w t.heap ∧ va_D (va_A ws_662 H.size) w ∧ Pic9 kc w ad ga_690 gc_691 M n_693 f_694 T G_696 K F ∧ I9 M n_693 T gc_691 G_696 K R ∧ hpS t.heap + (260 * M + 2 * S9 M gc_658) ≤ hpS H + (260 * M + 2 * S9 M gc_691) ∧ 16 * t.heap.size + (256 * M + S9 M gc_658) ≤ 16 * H.size + (256 * M + S9 M gc_691) ∧ (n_659 0).toInt ≤ (n_693 0).toInt := hB
                      rw [ht] at hB
                      obtain ⟨ws_699, hP, hD, hQ, hI_701, hy1, hy2, hn_700⟩ := hB
                      have hD := hD.weaken (fun k q _ h => hFc _ h)
                      obtain ⟨i1_702, i2_703, i3_704, i4_705, i5_706, i6_707, i7_708, i8_709, i9_710⟩ := id hI_701
                      have q1_ := i1_702
                      unfold i1 at q1_
                      have hSl := S9_le i8_709 i9_710
                      have hb0_ := i8_709.2.1 0 (by omega)
                      have hb1_ := i8_709.2.1 1 (by omega)
                      have hb2_ := i8_709.2.1 2 (by omega)
                      refine W_msr2 (fun hn1 hn2 hn3 => ?_)
                      obtain ⟨ce2, se2, hk3, hk4, hr1, hr2⟩ : ∃ c2 s2 : Nat, H1.size ≤ s.heap.size + c2 ∧ hpS H1 ≤ hpS s.heap + s2 ∧ s2 + (260 * M + 2 * S9 M gc) ≤ (260 * M + 2 * S9 M gc_691) ∧ 16 * c2 + (256 * M + S9 M gc) ≤ (256 * M + S9 M gc_691) := ⟨H1.size - s.heap.size, hpS H1 - hpS s.heap, by omega, by omega, by have := hS.1; omega, by have := hS.1; omega⟩
                      refine W_tightP hk3 hk4 ?_
                      clear hm1 hm2 hm3 hn1 hn2 hn3 hk3 hk4
                      clear hk1 hz1
                      generalize ce2 = ce, se2 = se at hr1 hr2 ⊢
                      generalize H1 = H at hP hS ⊢
                      have w_711 : S9 M gc_691 + gc_658 1 ≤ S9 M gc_658 + gc_691 1 ∧ (n_693 0).toInt = (n_659 0).toInt := hw
                      refine lv_aload hx hb dX9_tellUncaught_92 (lv_at hl 0 rfl) ?_
                      refine va_get (D := (dC, dI)) (ci := 7) (v := .ref (ad (50 + 16 * j_680 + 1))) (C := RX7) (T := TX7) (N := 15) hx hb hg gb_7 hown hK hP (50 + 16 * j_680) (hQ.b0 hj_680) rfl 10 (by decide) (hg _ gm_fieldLink_RX9_151_ErrandGuild_Run_kin_LErrandGuild_Kin_) (fun _ h9 => h9) rfl dX9_tellUncaught_94 ?_
                      refine va_get (D := (dC, dI)) (ci := 4) (v := va_rf (rA9 ad (K j_680 4))) (C := RX4) (T := TX4) (N := 9) hx hb hg gb_4 hown hK hP (50 + 16 * j_680 + 1) (hQ.b1 hj_680) rfl 7 (by decide) (hg _ gm_fieldLink_RX9_228_ErrandGuild_Kin_nextSibling_LErrandGuild_Run_) (fun _ h9 => h9) rfl dX9_tellUncaught_97 ?_
                      rcases eo_712 : K j_680 4 with _ | j_713
                      · refine W.eq (g2 := F0 m 100 ls [.null]) (by first | rfl | (rw [eo_712]; rfl)) ?_
                        refine lv_astoreN (lv' := [(4, .null), (3, .int 1), (2, .ref (ad (50 + 16 * j_2))), (0, .ref (ad 0)), (1, .ref (ad (50 + 16 * i)))]) hx hb dX9_tellUncaught_100 hl (by decide) rfl (fun ls hl => ?_)
                        refine lv_goto (tgt := 61) hx hb dX9_tellUncaught_102 (by decide) ?_
                        exact ih_669  none  ws_699 ga_690 gc_691 n_693 f_694 G_696 ce se H locs ls (by simp only [chM] at *; omega) (fun _ h => by cases h) (by show S9 M gc_691 + gc 1 ≤ S9 M gc + gc_691 1; omega) (by show (n_693 0).toInt = (n 0).toInt; omega) (by show (n 0).toInt ≤ (n_693 0).toInt; omega) hQ ⟨i1_702, i2_703, i3_704, i4_705, i5_706, i6_707, i7_708, i8_709, i9_710⟩ hr1 hr2 hP hD hS (lv_sub hl [0, 1, 2, 3, 4] rfl)
                      · refine W.eq (g2 := F0 m 100 ls [.ref (ad (50 + 16 * j_713))]) (by first | rfl | (rw [eo_712]; rfl)) ?_
                        have hj_713 : j_713 < M := i3_704 _ _ _ hj_680 eo_712
                        refine lv_astore (lv' := [(4, .ref (ad (50 + 16 * j_713))), (3, .int 1), (2, .ref (ad (50 + 16 * j_2))), (0, .ref (ad 0)), (1, .ref (ad (50 + 16 * i)))]) hx hb dX9_tellUncaught_100 hl (by decide) rfl (fun ls hl => ?_)
                        refine lv_goto (tgt := 61) hx hb dX9_tellUncaught_102 (by decide) ?_
                        exact ih_669  (some j_713)  ws_699 ga_690 gc_691 n_693 f_694 G_696 ce se H locs ls (by have := i4_705 _ _ hj_680 eo_712; simp only [chM] at *; omega) (fun _ h => by cases h; exact hj_713) (by show S9 M gc_691 + gc 1 ≤ S9 M gc + gc_691 1; omega) (by show (n_693 0).toInt = (n 0).toInt; omega) (by show (n 0).toInt ≤ (n_693 0).toInt; omega) hQ ⟨i1_702, i2_703, i3_704, i4_705, i5_706, i6_707, i7_708, i8_709, i9_710⟩ hr1 hr2 hP hD hS (lv_sub hl [0, 1, 2, 3, 4] rfl)
            exact L61 _  none  ws_641 ga_632 gc_633 n_635 f_636 G_638 ce se _ _ _ (Nat.lt_succ_self _) (fun _ h => by cases h) (by show S9 M gc_633 + gc 1 ≤ S9 M gc + gc_633 1; omega) (by show (n_635 0).toInt = (n 0).toInt; omega) (by show (n 0).toInt ≤ (n_635 0).toInt; omega) hQ ⟨i1_644, i2_645, i3_646, i4_647, i5_648, i6_649, i7_650, i8_651, i9_652⟩ hr1 hr2 hP hD hS (lv_sub hl [0, 1, 2, 3, 4] rfl)
          · refine W.eq (g2 := F0 m 59 ls [.ref (ad (50 + 16 * j_655))]) (by first | rfl | (rw [eo_654]; rfl)) ?_
            have hj_655 : j_655 < M := i3_646 _ _ _ hi eo_654
            refine lv_astore (lv' := [(4, .ref (ad (50 + 16 * j_655))), (3, .int 1), (2, .ref (ad (50 + 16 * j_2))), (0, .ref (ad 0)), (1, .ref (ad (50 + 16 * i)))]) hx hb dX9_tellUncaught_59 hl (by decide) rfl (fun ls hl => ?_)
            have L61 : ∀ (fuel : Nat)  (o_714 : Option Nat)  (ws_720 : va_W) (ga_715 : Nat → Nat) (gc_716 : Nat → Nat) (n_717 : Nat → Int32) (f_718 : Nat → Nat → Int32) (G_719 : Nat → Nat → Int32) (ce se : Nat) (H : Heap) (locs : List Loc) (ls : Array Slot), chM M o_714 < fuel → (∀ j : Nat, o_714 = some j → j < M) → (S9 M gc_716 + gc 1 ≤ S9 M gc + gc_716 1) → ((n_717 0).toInt = (n 0).toInt) → ((n 0).toInt ≤ (n_717 0).toInt) → Pic9 kc ws_720 ad ga_715 gc_716 M n_717 f_718 T G_719 K F → I9 M n_717 T gc_716 G_719 K R → (se + (260 * M + 2 * S9 M gc) ≤ (260 * M + 2 * S9 M gc_716)) → (16 * ce + (256 * M + S9 M gc) ≤ (256 * M + S9 M gc_716)) → va_P (dC, dI) vwCl ws_720 H → va_D A ws_720 → va_S A s.heap H locs → lv_has ls 5 [(4, va_rf (rA9 ad o_714)), (3, .int 1), (2, .ref (ad (50 + 16 * j_2))), (0, .ref (ad 0)), (1, .ref (ad (50 + 16 * i)))] → W p l e (headSpec (.code yX9_tellUncaught cX9_tellUncaught 5 none :: gw) ({ frames := 4, cells := 1800, slots := 67000, locals := 152 })).room s m ([.ref (ad 0), .ref (ad (50 + 16 * i))] : List Value).toArray below meth c H locs ce se (MQ below (va_Qv (fun (u : (Nat → Nat) × (Nat → Nat) × (Nat → Nat) × Nat × (Nat → Int32) × (Nat → Nat → Int32) × (Nat → Option Nat) × (Nat → Nat → Int32) × (Nat → Nat → Option Nat) × (Nat → Nat → Nat → Int32)) => S9 M u.2.2.1 + gc 1 ≤ S9 M gc + u.2.2.1 1 ∧ (u.2.2.2.2.1 0).toInt = (n 0).toInt) (fun u t => ∃ w : va_W, va_P (dC, dI) vwCl w t.heap ∧ va_D A w ∧ Pic9 kc w ad u.2.1 u.2.2.1 M u.2.2.2.2.1 u.2.2.2.2.2.1 T u.2.2.2.2.2.2.2.1 K F ∧ I9 M u.2.2.2.2.1 T u.2.2.1 u.2.2.2.2.2.2.2.1 K R ∧ hpS t.heap + (260 * M + 2 * S9 M gc) ≤ (hpS s.heap) + (260 * M + 2 * S9 M u.2.2.1) ∧ 16 * t.heap.size + (256 * M + S9 M gc) ≤ 16 * s.heap.size + (256 * M + S9 M u.2.2.1) ∧ (n 0).toInt ≤ (u.2.2.2.2.1 0).toInt) A) ([.ref (ad 0), .ref (ad (50 + 16 * i))] : List Value).toArray s 1800 67000 A) (F0 m 61 ls []) := by
              intro fuel
              induction fuel with
              | zero => intro o_714 ws_720 ga_715 gc_716 n_717 f_718 G_719 ce se H locs ls hm; exact absurd hm (Nat.not_lt_zero _)
              | succ fuel_728 ih_727 =>
                intro o_714 ws_720 ga_715 gc_716 n_717 f_718 G_719 ce se H locs ls hm_721 v_722 v_723 v_724 v_725 hQ hI_726 hr1 hr2 hP hD hS hl
                obtain ⟨i1_729, i2_730, i3_731, i4_732, i5_733, i6_734, i7_735, i8_736, i9_737⟩ := id hI_726
                have q1_ := i1_729
                unfold i1 at q1_
                have hSl := S9_le i8_736 i9_737
                have hb0_ := i8_736.2.1 0 (by omega)
                have hb1_ := i8_736.2.1 1 (by omega)
                have hb2_ := i8_736.2.1 2 (by omega)
                rcases o_714 with _ | j_738
                · have hl : lv_has ls 5 [(4, .null), (3, .int 1), (2, .ref (ad (50 + 16 * j_2))), (0, .ref (ad 0)), (1, .ref (ad (50 + 16 * i)))] := hl
                  refine lv_aloadN hx hb dX9_tellUncaught_61 (lv_at hl 0 rfl) ?_
                  refine lv_ifnullN (tgt := 105) hx hb dX9_tellUncaught_63 (by decide) ?_
                  refine W_msr2 (fun hm1 hm2 hm3 => ?_)
                  have hSl := S9_le i8_736 i9_737
                  have hb0_ := i8_736.2.1 0 (by omega)
                  have hb1_ := i8_736.2.1 1 (by omega)
                  have hb2_ := i8_736.2.1 2 (by omega)
                  refine W.widen (k := 1800) (n := 67000) (by omega) (by omega) ?_
                  exact W.vret hx hb hr (fun t ht hW => ⟨⟨(ad, ga_715, gc_716, M, n_717, f_718, T, G_719, K, F), rfl, (by show S9 M gc_716 + gc 1 ≤ S9 M gc + gc_716 1 ∧ (n_717 0).toInt = (n 0).toInt; omega), ws_720, by rw [ht]; exact hP, hD, hQ, ⟨i1_729, i2_730, i3_731, i4_732, i5_733, i6_734, i7_735, i8_736, i9_737⟩, by rw [ht]; show hpS H + (260 * M + 2 * S9 M gc) ≤ hpS s.heap + (260 * M + 2 * S9 M gc_716); omega, by rw [ht]; show 16 * H.size + (256 * M + S9 M gc) ≤ 16 * s.heap.size + (256 * M + S9 M gc_716); omega, by show (n 0).toInt ≤ (n_717 0).toInt; omega⟩, hS.F ht⟩) hS.2.2 dX9_tellUncaught_105
                · have hl : lv_has ls 5 [(4, .ref (ad (50 + 16 * j_738))), (3, .int 1), (2, .ref (ad (50 + 16 * j_2))), (0, .ref (ad 0)), (1, .ref (ad (50 + 16 * i)))] := hl
                  have hj_738 : j_738 < M := v_722 _ rfl
                  refine lv_aload hx hb dX9_tellUncaught_61 (lv_at hl 0 rfl) ?_
                  refine lv_ifnull hx hb dX9_tellUncaught_63 ?_
                  refine lv_aload hx hb dX9_tellUncaught_66 (lv_at hl 0 rfl) ?_
                  refine va_get (D := (dC, dI)) (ci := 7) (v := .int (G_719 j_738 2)) (C := RX7) (T := TX7) (N := 15) hx hb hg gb_7 hown hK hP (50 + 16 * j_738) (hQ.b0 hj_738) rfl 2 (by decide) (hg _ gm_fieldLink_RX9_145_ErrandGuild_Run_state_I_) (fun _ h9 => h9) rfl dX9_tellUncaught_68 ?_
                  refine lv_iconst (v := 4) hx hb dX9_tellUncaught_71 (by decide) ?_
                  refine lv_icmp_ne (tgt := 92) hx hb dX9_tellUncaught_72 (by decide) (fun c_739 => ?_) (fun c_739 => ?_)
                  · simp only [i_lt, i_le, i_eq, ti_4] at c_739
                    refine lv_aload hx hb dX9_tellUncaught_92 (lv_at hl 0 rfl) ?_
                    refine va_get (D := (dC, dI)) (ci := 7) (v := .ref (ad (50 + 16 * j_738 + 1))) (C := RX7) (T := TX7) (N := 15) hx hb hg gb_7 hown hK hP (50 + 16 * j_738) (hQ.b0 hj_738) rfl 10 (by decide) (hg _ gm_fieldLink_RX9_151_ErrandGuild_Run_kin_LErrandGuild_Kin_) (fun _ h9 => h9) rfl dX9_tellUncaught_94 ?_
                    refine va_get (D := (dC, dI)) (ci := 4) (v := va_rf (rA9 ad (K j_738 4))) (C := RX4) (T := TX4) (N := 9) hx hb hg gb_4 hown hK hP (50 + 16 * j_738 + 1) (hQ.b1 hj_738) rfl 7 (by decide) (hg _ gm_fieldLink_RX9_228_ErrandGuild_Kin_nextSibling_LErrandGuild_Run_) (fun _ h9 => h9) rfl dX9_tellUncaught_97 ?_
                    rcases eo_740 : K j_738 4 with _ | j_741
                    · refine W.eq (g2 := F0 m 100 ls [.null]) (by first | rfl | (rw [eo_740]; rfl)) ?_
                      refine lv_astoreN (lv' := [(4, .null), (3, .int 1), (2, .ref (ad (50 + 16 * j_2))), (0, .ref (ad 0)), (1, .ref (ad (50 + 16 * i)))]) hx hb dX9_tellUncaught_100 hl (by decide) rfl (fun ls hl => ?_)
                      refine lv_goto (tgt := 61) hx hb dX9_tellUncaught_102 (by decide) ?_
                      exact ih_727  none  ws_720 ga_715 gc_716 n_717 f_718 G_719 ce se H locs ls (by simp only [chM] at *; omega) (fun _ h => by cases h) (by show S9 M gc_716 + gc 1 ≤ S9 M gc + gc_716 1; omega) (by show (n_717 0).toInt = (n 0).toInt; omega) (by show (n 0).toInt ≤ (n_717 0).toInt; omega) hQ ⟨i1_729, i2_730, i3_731, i4_732, i5_733, i6_734, i7_735, i8_736, i9_737⟩ hr1 hr2 hP hD hS (lv_sub hl [0, 1, 2, 3, 4] rfl)
                    · refine W.eq (g2 := F0 m 100 ls [.ref (ad (50 + 16 * j_741))]) (by first | rfl | (rw [eo_740]; rfl)) ?_
                      have hj_741 : j_741 < M := i3_731 _ _ _ hj_738 eo_740
                      refine lv_astore (lv' := [(4, .ref (ad (50 + 16 * j_741))), (3, .int 1), (2, .ref (ad (50 + 16 * j_2))), (0, .ref (ad 0)), (1, .ref (ad (50 + 16 * i)))]) hx hb dX9_tellUncaught_100 hl (by decide) rfl (fun ls hl => ?_)
                      refine lv_goto (tgt := 61) hx hb dX9_tellUncaught_102 (by decide) ?_
                      exact ih_727  (some j_741)  ws_720 ga_715 gc_716 n_717 f_718 G_719 ce se H locs ls (by have := i4_732 _ _ hj_738 eo_740; simp only [chM] at *; omega) (fun _ h => by cases h; exact hj_741) (by show S9 M gc_716 + gc 1 ≤ S9 M gc + gc_716 1; omega) (by show (n_717 0).toInt = (n 0).toInt; omega) (by show (n 0).toInt ≤ (n_717 0).toInt; omega) hQ ⟨i1_729, i2_730, i3_731, i4_732, i5_733, i6_734, i7_735, i8_736, i9_737⟩ hr1 hr2 hP hD hS (lv_sub hl [0, 1, 2, 3, 4] rfl)
                  · simp only [i_lt, i_le, i_eq, ti_4] at c_739
                    refine lv_aload hx hb dX9_tellUncaught_75 (lv_at hl 0 rfl) ?_
                    refine va_get (D := (dC, dI)) (ci := 7) (v := .ref (ad (50 + 16 * j_738 + 1))) (C := RX7) (T := TX7) (N := 15) hx hb hg gb_7 hown hK hP (50 + 16 * j_738) (hQ.b0 hj_738) rfl 10 (by decide) (hg _ gm_fieldLink_RX9_151_ErrandGuild_Run_kin_LErrandGuild_Kin_) (fun _ h9 => h9) rfl dX9_tellUncaught_77 ?_
                    refine va_get (D := (dC, dI)) (ci := 4) (v := .int (G_719 j_738 12)) (C := RX4) (T := TX4) (N := 9) hx hb hg gb_4 hown hK hP (50 + 16 * j_738 + 1) (hQ.b1 hj_738) rfl 4 (by decide) (hg _ gm_fieldLink_RX9_379_ErrandGuild_Kin_claim_I_) (fun _ h9 => h9) rfl dX9_tellUncaught_80 ?_
                    refine lv_if_ne (tgt := 92) hx hb dX9_tellUncaught_83 (by decide) (fun c_742 => ?_) (fun c_742 => ?_)
                    · simp only [i_lt, i_le, i_eq, ti_0] at c_742
                      refine lv_aload hx hb dX9_tellUncaught_92 (lv_at hl 0 rfl) ?_
                      refine va_get (D := (dC, dI)) (ci := 7) (v := .ref (ad (50 + 16 * j_738 + 1))) (C := RX7) (T := TX7) (N := 15) hx hb hg gb_7 hown hK hP (50 + 16 * j_738) (hQ.b0 hj_738) rfl 10 (by decide) (hg _ gm_fieldLink_RX9_151_ErrandGuild_Run_kin_LErrandGuild_Kin_) (fun _ h9 => h9) rfl dX9_tellUncaught_94 ?_
                      refine va_get (D := (dC, dI)) (ci := 4) (v := va_rf (rA9 ad (K j_738 4))) (C := RX4) (T := TX4) (N := 9) hx hb hg gb_4 hown hK hP (50 + 16 * j_738 + 1) (hQ.b1 hj_738) rfl 7 (by decide) (hg _ gm_fieldLink_RX9_228_ErrandGuild_Kin_nextSibling_LErrandGuild_Run_) (fun _ h9 => h9) rfl dX9_tellUncaught_97 ?_
                      rcases eo_743 : K j_738 4 with _ | j_744
                      · refine W.eq (g2 := F0 m 100 ls [.null]) (by first | rfl | (rw [eo_743]; rfl)) ?_
                        refine lv_astoreN (lv' := [(4, .null), (3, .int 1), (2, .ref (ad (50 + 16 * j_2))), (0, .ref (ad 0)), (1, .ref (ad (50 + 16 * i)))]) hx hb dX9_tellUncaught_100 hl (by decide) rfl (fun ls hl => ?_)
                        refine lv_goto (tgt := 61) hx hb dX9_tellUncaught_102 (by decide) ?_
                        exact ih_727  none  ws_720 ga_715 gc_716 n_717 f_718 G_719 ce se H locs ls (by simp only [chM] at *; omega) (fun _ h => by cases h) (by show S9 M gc_716 + gc 1 ≤ S9 M gc + gc_716 1; omega) (by show (n_717 0).toInt = (n 0).toInt; omega) (by show (n 0).toInt ≤ (n_717 0).toInt; omega) hQ ⟨i1_729, i2_730, i3_731, i4_732, i5_733, i6_734, i7_735, i8_736, i9_737⟩ hr1 hr2 hP hD hS (lv_sub hl [0, 1, 2, 3, 4] rfl)
                      · refine W.eq (g2 := F0 m 100 ls [.ref (ad (50 + 16 * j_744))]) (by first | rfl | (rw [eo_743]; rfl)) ?_
                        have hj_744 : j_744 < M := i3_731 _ _ _ hj_738 eo_743
                        refine lv_astore (lv' := [(4, .ref (ad (50 + 16 * j_744))), (3, .int 1), (2, .ref (ad (50 + 16 * j_2))), (0, .ref (ad 0)), (1, .ref (ad (50 + 16 * i)))]) hx hb dX9_tellUncaught_100 hl (by decide) rfl (fun ls hl => ?_)
                        refine lv_goto (tgt := 61) hx hb dX9_tellUncaught_102 (by decide) ?_
                        exact ih_727  (some j_744)  ws_720 ga_715 gc_716 n_717 f_718 G_719 ce se H locs ls (by have := i4_732 _ _ hj_738 eo_743; simp only [chM] at *; omega) (fun _ h => by cases h; exact hj_744) (by show S9 M gc_716 + gc 1 ≤ S9 M gc + gc_716 1; omega) (by show (n_717 0).toInt = (n 0).toInt; omega) (by show (n 0).toInt ≤ (n_717 0).toInt; omega) hQ ⟨i1_729, i2_730, i3_731, i4_732, i5_733, i6_734, i7_735, i8_736, i9_737⟩ hr1 hr2 hP hD hS (lv_sub hl [0, 1, 2, 3, 4] rfl)
                    · simp only [i_lt, i_le, i_eq, ti_0] at c_742
                      refine lv_aload_n hx hb dX9_tellUncaught_86 rfl (lv_at hl 3 rfl) ?_
                      refine lv_aload hx hb dX9_tellUncaught_87 (lv_at hl 0 rfl) ?_
                      have hFc := free_all hD hS hA
                      refine W_msr2 (fun hm1 hm2 hm3 => ?_)
                      refine va_callv (va_runV (As := [.ref (ad (50 + 16 * j_738))]) (rest := []) ⟨hx, hb, hml, hown, hg⟩ (c_X9_askHandlers l dC dI kc ws_720 ad ga_715 gc_716 M n_717 f_718 T G_719 K F R j_738 H.size (hpS H) hQ ⟨i1_729, i2_730, i3_731, i4_732, i5_733, i6_734, i7_735, i8_736, i9_737⟩ (by show j_738 < M; omega) (by show R ≤ 310000; omega)) (cwV 1 hg (gw_V gm_methodLink_RX9_388_yX9_askHandlers gm_instanceMethod_yX9_askHandlers gm_selects_RX9_yX9_askHandlers_yX9_askHandlers gm_initialized_RX9 gm_code_yX9_askHandlers_cX9_askHandlers_7_none) rfl rfl rfl (by decide +kernel) ⟨Nat.le_of_ble_eq_true rfl, Nat.le_of_ble_eq_true rfl⟩) ⟨fun a U g mk q => by obtain ⟨q0, q1, q2, qP, qK, qD, qN⟩ := q; exact ⟨q0, q1, q2, qP, va_K.moved (u := U) (U := U.calling g mk a) (Vm.Alike.refl U.vm) qK, qD, nx_same (u := U) (U := U.calling g mk a) rfl qN⟩, va_recv hK hP (ci := 9) (q0 := 0) rfl hQ.x0, fun U hU hW => ⟨rfl, by rw [hU], by rw [hU], by rw [hU]; exact hP, va_K.moved hW.alike hK, hD.weaken (fun _ _ _ _ => trivial), nx_warm hW hN⟩⟩ rfl rfl hl.1 rfl (lv_room (Nat.le_of_ble_eq_true rfl)) dX9_tellUncaught_89 ⟨by show ce + 1200 ≤ 1800; omega, by show se + 50000 ≤ 67000; omega⟩) hS (fun q _ h => hFc q h) hFc (fun u_746 t H1 locs ht hvm hw hB hz1 hk1 hS => ?_)
                      obtain ⟨ad_747, ga_748, gc_749, M_750, n_751, f_752, T_753, G_754, K_755, F_756⟩ := u_746
                      have hB : ∃ w : va_W, va_P (dC, dI) vwCl w t.heap ∧ va_D (va_A ws_720 H.size) w ∧ Pic9 kc w ad ga_748 gc_749 M n_751 f_752 T G_754 K F ∧ I9 M n_751 T gc_749 G_754 K R ∧ hpS t.heap + (260 * M + 2 * S9 M gc_716) ≤ hpS H + (260 * M + 2 * S9 M gc_749) ∧ 16 * t.heap.size + (256 * M + S9 M gc_716) ≤ 16 * H.size + (256 * M + S9 M gc_749) ∧ (n_717 0).toInt ≤ (n_751 0).toInt := hB
                      rw [ht] at hB
                      obtain ⟨ws_757, hP, hD, hQ, hI_759, hy1, hy2, hn_758⟩ := hB
                      have hD := hD.weaken (fun k q _ h => hFc _ h)
                      obtain ⟨i1_760, i2_761, i3_762, i4_763, i5_764, i6_765, i7_766, i8_767, i9_768⟩ := id hI_759
                      have q1_ := i1_760
                      unfold i1 at q1_
                      have hSl := S9_le i8_767 i9_768
                      have hb0_ := i8_767.2.1 0 (by omega)
                      have hb1_ := i8_767.2.1 1 (by omega)
                      have hb2_ := i8_767.2.1 2 (by omega)
                      refine W_msr2 (fun hn1 hn2 hn3 => ?_)
                      obtain ⟨ce2, se2, hk3, hk4, hr1, hr2⟩ : ∃ c2 s2 : Nat, H1.size ≤ s.heap.size + c2 ∧ hpS H1 ≤ hpS s.heap + s2 ∧ s2 + (260 * M + 2 * S9 M gc) ≤ (260 * M + 2 * S9 M gc_749) ∧ 16 * c2 + (256 * M + S9 M gc) ≤ (256 * M + S9 M gc_749) := ⟨H1.size - s.heap.size, hpS H1 - hpS s.heap, by omega, by omega, by have := hS.1; omega, by have := hS.1; omega⟩
                      refine W_tightP hk3 hk4 ?_
                      clear hm1 hm2 hm3 hn1 hn2 hn3 hk3 hk4
                      clear hk1 hz1
                      generalize ce2 = ce, se2 = se at hr1 hr2 ⊢
                      generalize H1 = H at hP hS ⊢
                      have w_769 : S9 M gc_749 + gc_716 1 ≤ S9 M gc_716 + gc_749 1 ∧ (n_751 0).toInt = (n_717 0).toInt := hw
                      refine lv_aload hx hb dX9_tellUncaught_92 (lv_at hl 0 rfl) ?_
                      refine va_get (D := (dC, dI)) (ci := 7) (v := .ref (ad (50 + 16 * j_738 + 1))) (C := RX7) (T := TX7) (N := 15) hx hb hg gb_7 hown hK hP (50 + 16 * j_738) (hQ.b0 hj_738) rfl 10 (by decide) (hg _ gm_fieldLink_RX9_151_ErrandGuild_Run_kin_LErrandGuild_Kin_) (fun _ h9 => h9) rfl dX9_tellUncaught_94 ?_
                      refine va_get (D := (dC, dI)) (ci := 4) (v := va_rf (rA9 ad (K j_738 4))) (C := RX4) (T := TX4) (N := 9) hx hb hg gb_4 hown hK hP (50 + 16 * j_738 + 1) (hQ.b1 hj_738) rfl 7 (by decide) (hg _ gm_fieldLink_RX9_228_ErrandGuild_Kin_nextSibling_LErrandGuild_Run_) (fun _ h9 => h9) rfl dX9_tellUncaught_97 ?_
                      rcases eo_770 : K j_738 4 with _ | j_771
                      · refine W.eq (g2 := F0 m 100 ls [.null]) (by first | rfl | (rw [eo_770]; rfl)) ?_
                        refine lv_astoreN (lv' := [(4, .null), (3, .int 1), (2, .ref (ad (50 + 16 * j_2))), (0, .ref (ad 0)), (1, .ref (ad (50 + 16 * i)))]) hx hb dX9_tellUncaught_100 hl (by decide) rfl (fun ls hl => ?_)
                        refine lv_goto (tgt := 61) hx hb dX9_tellUncaught_102 (by decide) ?_
                        exact ih_727  none  ws_757 ga_748 gc_749 n_751 f_752 G_754 ce se H locs ls (by simp only [chM] at *; omega) (fun _ h => by cases h) (by show S9 M gc_749 + gc 1 ≤ S9 M gc + gc_749 1; omega) (by show (n_751 0).toInt = (n 0).toInt; omega) (by show (n 0).toInt ≤ (n_751 0).toInt; omega) hQ ⟨i1_760, i2_761, i3_762, i4_763, i5_764, i6_765, i7_766, i8_767, i9_768⟩ hr1 hr2 hP hD hS (lv_sub hl [0, 1, 2, 3, 4] rfl)
                      · refine W.eq (g2 := F0 m 100 ls [.ref (ad (50 + 16 * j_771))]) (by first | rfl | (rw [eo_770]; rfl)) ?_
                        have hj_771 : j_771 < M := i3_762 _ _ _ hj_738 eo_770
                        refine lv_astore (lv' := [(4, .ref (ad (50 + 16 * j_771))), (3, .int 1), (2, .ref (ad (50 + 16 * j_2))), (0, .ref (ad 0)), (1, .ref (ad (50 + 16 * i)))]) hx hb dX9_tellUncaught_100 hl (by decide) rfl (fun ls hl => ?_)
                        refine lv_goto (tgt := 61) hx hb dX9_tellUncaught_102 (by decide) ?_
                        exact ih_727  (some j_771)  ws_757 ga_748 gc_749 n_751 f_752 G_754 ce se H locs ls (by have := i4_763 _ _ hj_738 eo_770; simp only [chM] at *; omega) (fun _ h => by cases h; exact hj_771) (by show S9 M gc_749 + gc 1 ≤ S9 M gc + gc_749 1; omega) (by show (n_751 0).toInt = (n 0).toInt; omega) (by show (n 0).toInt ≤ (n_751 0).toInt; omega) hQ ⟨i1_760, i2_761, i3_762, i4_763, i5_764, i6_765, i7_766, i8_767, i9_768⟩ hr1 hr2 hP hD hS (lv_sub hl [0, 1, 2, 3, 4] rfl)
            exact L61 _  (some j_655)  ws_641 ga_632 gc_633 n_635 f_636 G_638 ce se _ _ _ (Nat.lt_succ_self _) (fun _ h => by cases h; exact hj_655) (by show S9 M gc_633 + gc 1 ≤ S9 M gc + gc_633 1; omega) (by show (n_635 0).toInt = (n 0).toInt; omega) (by show (n 0).toInt ≤ (n_635 0).toInt; omega) hQ ⟨i1_644, i2_645, i3_646, i4_647, i5_648, i6_649, i7_650, i8_651, i9_652⟩ hr1 hr2 hP hD hS (lv_sub hl [0, 1, 2, 3, 4] rfl)
    · refine lv_if_eq (tgt := 33) hx hb dX9_tellUncaught_16 (by decide) (fun _ => ?_) (fun c_772 => absurd c_772 (by decide))
      refine lv_iconst (v := 0) hx hb dX9_tellUncaught_33 (by decide) ?_
      refine lv_istore_n (lv' := [(3, .int 0), (2, .ref (ad (50 + 16 * j_2))), (0, .ref (ad 0)), (1, .ref (ad (50 + 16 * i)))]) hx hb dX9_tellUncaught_34 rfl hl (by decide) rfl (fun ls hl => ?_)
      refine lv_aload_n hx hb dX9_tellUncaught_35 rfl (lv_at hl 3 rfl) ?_
      refine va_get (D := (dC, dI)) (ci := 7) (v := .int (G i 2)) (C := RX7) (T := TX7) (N := 15) hx hb hg gb_7 hown hK hP (50 + 16 * i) (hQ.b0 hi) rfl 2 (by decide) (hg _ gm_fieldLink_RX9_145_ErrandGuild_Run_state_I_) (fun _ h9 => h9) rfl dX9_tellUncaught_36 ?_
      refine lv_iconst (v := 4) hx hb dX9_tellUncaught_39 (by decide) ?_
      refine lv_icmp_ne (tgt := 52) hx hb dX9_tellUncaught_40 (by decide) (fun c_773 => ?_) (fun c_773 => ?_)
      · simp only [i_lt, i_le, i_eq, ti_4] at c_773
        refine lv_aload_n hx hb dX9_tellUncaught_52 rfl (lv_at hl 3 rfl) ?_
        refine va_get (D := (dC, dI)) (ci := 7) (v := .ref (ad (50 + 16 * i + 1))) (C := RX7) (T := TX7) (N := 15) hx hb hg gb_7 hown hK hP (50 + 16 * i) (hQ.b0 hi) rfl 10 (by decide) (hg _ gm_fieldLink_RX9_151_ErrandGuild_Run_kin_LErrandGuild_Kin_) (fun _ h9 => h9) rfl dX9_tellUncaught_53 ?_
        refine va_get (D := (dC, dI)) (ci := 4) (v := va_rf (rA9 ad (K i 2))) (C := RX4) (T := TX4) (N := 9) hx hb hg gb_4 hown hK hP (50 + 16 * i + 1) (hQ.b1 hi) rfl 5 (by decide) (hg _ gm_fieldLink_RX9_225_ErrandGuild_Kin_firstChild_LErrandGuild_Run_) (fun _ h9 => h9) rfl dX9_tellUncaught_56 ?_
        rcases eo_774 : K i 2 with _ | j_775
        · refine W.eq (g2 := F0 m 59 ls [.null]) (by first | rfl | (rw [eo_774]; rfl)) ?_
          refine lv_astoreN (lv' := [(4, .null), (3, .int 0), (2, .ref (ad (50 + 16 * j_2))), (0, .ref (ad 0)), (1, .ref (ad (50 + 16 * i)))]) hx hb dX9_tellUncaught_59 hl (by decide) rfl (fun ls hl => ?_)
          have L61 : ∀ (fuel : Nat)  (o_776 : Option Nat)  (ws_782 : va_W) (ga_777 : Nat → Nat) (gc_778 : Nat → Nat) (n_779 : Nat → Int32) (f_780 : Nat → Nat → Int32) (G_781 : Nat → Nat → Int32) (ce se : Nat) (H : Heap) (locs : List Loc) (ls : Array Slot), chM M o_776 < fuel → (∀ j : Nat, o_776 = some j → j < M) → (S9 M gc_778 + gc 1 ≤ S9 M gc + gc_778 1) → ((n_779 0).toInt = (n 0).toInt) → ((n 0).toInt ≤ (n_779 0).toInt) → Pic9 kc ws_782 ad ga_777 gc_778 M n_779 f_780 T G_781 K F → I9 M n_779 T gc_778 G_781 K R → (se + (260 * M + 2 * S9 M gc) ≤ (260 * M + 2 * S9 M gc_778)) → (16 * ce + (256 * M + S9 M gc) ≤ (256 * M + S9 M gc_778)) → va_P (dC, dI) vwCl ws_782 H → va_D A ws_782 → va_S A s.heap H locs → lv_has ls 5 [(4, va_rf (rA9 ad o_776)), (3, .int 0), (2, .ref (ad (50 + 16 * j_2))), (0, .ref (ad 0)), (1, .ref (ad (50 + 16 * i)))] → W p l e (headSpec (.code yX9_tellUncaught cX9_tellUncaught 5 none :: gw) ({ frames := 4, cells := 1800, slots := 67000, locals := 152 })).room s m ([.ref (ad 0), .ref (ad (50 + 16 * i))] : List Value).toArray below meth c H locs ce se (MQ below (va_Qv (fun (u : (Nat → Nat) × (Nat → Nat) × (Nat → Nat) × Nat × (Nat → Int32) × (Nat → Nat → Int32) × (Nat → Option Nat) × (Nat → Nat → Int32) × (Nat → Nat → Option Nat) × (Nat → Nat → Nat → Int32)) => S9 M u.2.2.1 + gc 1 ≤ S9 M gc + u.2.2.1 1 ∧ (u.2.2.2.2.1 0).toInt = (n 0).toInt) (fun u t => ∃ w : va_W, va_P (dC, dI) vwCl w t.heap ∧ va_D A w ∧ Pic9 kc w ad u.2.1 u.2.2.1 M u.2.2.2.2.1 u.2.2.2.2.2.1 T u.2.2.2.2.2.2.2.1 K F ∧ I9 M u.2.2.2.2.1 T u.2.2.1 u.2.2.2.2.2.2.2.1 K R ∧ hpS t.heap + (260 * M + 2 * S9 M gc) ≤ (hpS s.heap) + (260 * M + 2 * S9 M u.2.2.1) ∧ 16 * t.heap.size + (256 * M + S9 M gc) ≤ 16 * s.heap.size + (256 * M + S9 M u.2.2.1) ∧ (n 0).toInt ≤ (u.2.2.2.2.1 0).toInt) A) ([.ref (ad 0), .ref (ad (50 + 16 * i))] : List Value).toArray s 1800 67000 A) (F0 m 61 ls []) := by
            intro fuel
            induction fuel with
            | zero => intro o_776 ws_782 ga_777 gc_778 n_779 f_780 G_781 ce se H locs ls hm; exact absurd hm (Nat.not_lt_zero _)
            | succ fuel_790 ih_789 =>
              intro o_776 ws_782 ga_777 gc_778 n_779 f_780 G_781 ce se H locs ls hm_783 v_784 v_785 v_786 v_787 hQ hI_788 hr1 hr2 hP hD hS hl
              obtain ⟨i1_791, i2_792, i3_793, i4_794, i5_795, i6_796, i7_797, i8_798, i9_799⟩ := id hI_788
              have q1_ := i1_791
              unfold i1 at q1_
              have hSl := S9_le i8_798 i9_799
              have hb0_ := i8_798.2.1 0 (by omega)
              have hb1_ := i8_798.2.1 1 (by omega)
              have hb2_ := i8_798.2.1 2 (by omega)
              rcases o_776 with _ | j_800
              · have hl : lv_has ls 5 [(4, .null), (3, .int 0), (2, .ref (ad (50 + 16 * j_2))), (0, .ref (ad 0)), (1, .ref (ad (50 + 16 * i)))] := hl
                refine lv_aloadN hx hb dX9_tellUncaught_61 (lv_at hl 0 rfl) ?_
                refine lv_ifnullN (tgt := 105) hx hb dX9_tellUncaught_63 (by decide) ?_
                refine W_msr2 (fun hm1 hm2 hm3 => ?_)
                have hSl := S9_le i8_798 i9_799
                have hb0_ := i8_798.2.1 0 (by omega)
                have hb1_ := i8_798.2.1 1 (by omega)
                have hb2_ := i8_798.2.1 2 (by omega)
                refine W.widen (k := 1800) (n := 67000) (by omega) (by omega) ?_
                exact W.vret hx hb hr (fun t ht hW => ⟨⟨(ad, ga_777, gc_778, M, n_779, f_780, T, G_781, K, F), rfl, (by show S9 M gc_778 + gc 1 ≤ S9 M gc + gc_778 1 ∧ (n_779 0).toInt = (n 0).toInt; omega), ws_782, by rw [ht]; exact hP, hD, hQ, ⟨i1_791, i2_792, i3_793, i4_794, i5_795, i6_796, i7_797, i8_798, i9_799⟩, by rw [ht]; show hpS H + (260 * M + 2 * S9 M gc) ≤ hpS s.heap + (260 * M + 2 * S9 M gc_778); omega, by rw [ht]; show 16 * H.size + (256 * M + S9 M gc) ≤ 16 * s.heap.size + (256 * M + S9 M gc_778); omega, by show (n 0).toInt ≤ (n_779 0).toInt; omega⟩, hS.F ht⟩) hS.2.2 dX9_tellUncaught_105
              · have hl : lv_has ls 5 [(4, .ref (ad (50 + 16 * j_800))), (3, .int 0), (2, .ref (ad (50 + 16 * j_2))), (0, .ref (ad 0)), (1, .ref (ad (50 + 16 * i)))] := hl
                have hj_800 : j_800 < M := v_784 _ rfl
                refine lv_aload hx hb dX9_tellUncaught_61 (lv_at hl 0 rfl) ?_
                refine lv_ifnull hx hb dX9_tellUncaught_63 ?_
                refine lv_aload hx hb dX9_tellUncaught_66 (lv_at hl 0 rfl) ?_
                refine va_get (D := (dC, dI)) (ci := 7) (v := .int (G_781 j_800 2)) (C := RX7) (T := TX7) (N := 15) hx hb hg gb_7 hown hK hP (50 + 16 * j_800) (hQ.b0 hj_800) rfl 2 (by decide) (hg _ gm_fieldLink_RX9_145_ErrandGuild_Run_state_I_) (fun _ h9 => h9) rfl dX9_tellUncaught_68 ?_
                refine lv_iconst (v := 4) hx hb dX9_tellUncaught_71 (by decide) ?_
                refine lv_icmp_ne (tgt := 92) hx hb dX9_tellUncaught_72 (by decide) (fun c_801 => ?_) (fun c_801 => ?_)
                · simp only [i_lt, i_le, i_eq, ti_4] at c_801
                  refine lv_aload hx hb dX9_tellUncaught_92 (lv_at hl 0 rfl) ?_
                  refine va_get (D := (dC, dI)) (ci := 7) (v := .ref (ad (50 + 16 * j_800 + 1))) (C := RX7) (T := TX7) (N := 15) hx hb hg gb_7 hown hK hP (50 + 16 * j_800) (hQ.b0 hj_800) rfl 10 (by decide) (hg _ gm_fieldLink_RX9_151_ErrandGuild_Run_kin_LErrandGuild_Kin_) (fun _ h9 => h9) rfl dX9_tellUncaught_94 ?_
                  refine va_get (D := (dC, dI)) (ci := 4) (v := va_rf (rA9 ad (K j_800 4))) (C := RX4) (T := TX4) (N := 9) hx hb hg gb_4 hown hK hP (50 + 16 * j_800 + 1) (hQ.b1 hj_800) rfl 7 (by decide) (hg _ gm_fieldLink_RX9_228_ErrandGuild_Kin_nextSibling_LErrandGuild_Run_) (fun _ h9 => h9) rfl dX9_tellUncaught_97 ?_
                  rcases eo_802 : K j_800 4 with _ | j_803
                  · refine W.eq (g2 := F0 m 100 ls [.null]) (by first | rfl | (rw [eo_802]; rfl)) ?_
                    refine lv_astoreN (lv' := [(4, .null), (3, .int 0), (2, .ref (ad (50 + 16 * j_2))), (0, .ref (ad 0)), (1, .ref (ad (50 + 16 * i)))]) hx hb dX9_tellUncaught_100 hl (by decide) rfl (fun ls hl => ?_)
                    refine lv_goto (tgt := 61) hx hb dX9_tellUncaught_102 (by decide) ?_
                    exact ih_789  none  ws_782 ga_777 gc_778 n_779 f_780 G_781 ce se H locs ls (by simp only [chM] at *; omega) (fun _ h => by cases h) (by show S9 M gc_778 + gc 1 ≤ S9 M gc + gc_778 1; omega) (by show (n_779 0).toInt = (n 0).toInt; omega) (by show (n 0).toInt ≤ (n_779 0).toInt; omega) hQ ⟨i1_791, i2_792, i3_793, i4_794, i5_795, i6_796, i7_797, i8_798, i9_799⟩ hr1 hr2 hP hD hS (lv_sub hl [0, 1, 2, 3, 4] rfl)
                  · refine W.eq (g2 := F0 m 100 ls [.ref (ad (50 + 16 * j_803))]) (by first | rfl | (rw [eo_802]; rfl)) ?_
                    have hj_803 : j_803 < M := i3_793 _ _ _ hj_800 eo_802
                    refine lv_astore (lv' := [(4, .ref (ad (50 + 16 * j_803))), (3, .int 0), (2, .ref (ad (50 + 16 * j_2))), (0, .ref (ad 0)), (1, .ref (ad (50 + 16 * i)))]) hx hb dX9_tellUncaught_100 hl (by decide) rfl (fun ls hl => ?_)
                    refine lv_goto (tgt := 61) hx hb dX9_tellUncaught_102 (by decide) ?_
                    exact ih_789  (some j_803)  ws_782 ga_777 gc_778 n_779 f_780 G_781 ce se H locs ls (by have := i4_794 _ _ hj_800 eo_802; simp only [chM] at *; omega) (fun _ h => by cases h; exact hj_803) (by show S9 M gc_778 + gc 1 ≤ S9 M gc + gc_778 1; omega) (by show (n_779 0).toInt = (n 0).toInt; omega) (by show (n 0).toInt ≤ (n_779 0).toInt; omega) hQ ⟨i1_791, i2_792, i3_793, i4_794, i5_795, i6_796, i7_797, i8_798, i9_799⟩ hr1 hr2 hP hD hS (lv_sub hl [0, 1, 2, 3, 4] rfl)
                · simp only [i_lt, i_le, i_eq, ti_4] at c_801
                  refine lv_aload hx hb dX9_tellUncaught_75 (lv_at hl 0 rfl) ?_
                  refine va_get (D := (dC, dI)) (ci := 7) (v := .ref (ad (50 + 16 * j_800 + 1))) (C := RX7) (T := TX7) (N := 15) hx hb hg gb_7 hown hK hP (50 + 16 * j_800) (hQ.b0 hj_800) rfl 10 (by decide) (hg _ gm_fieldLink_RX9_151_ErrandGuild_Run_kin_LErrandGuild_Kin_) (fun _ h9 => h9) rfl dX9_tellUncaught_77 ?_
                  refine va_get (D := (dC, dI)) (ci := 4) (v := .int (G_781 j_800 12)) (C := RX4) (T := TX4) (N := 9) hx hb hg gb_4 hown hK hP (50 + 16 * j_800 + 1) (hQ.b1 hj_800) rfl 4 (by decide) (hg _ gm_fieldLink_RX9_379_ErrandGuild_Kin_claim_I_) (fun _ h9 => h9) rfl dX9_tellUncaught_80 ?_
                  refine lv_if_ne (tgt := 92) hx hb dX9_tellUncaught_83 (by decide) (fun c_804 => ?_) (fun c_804 => ?_)
                  · simp only [i_lt, i_le, i_eq, ti_0] at c_804
                    refine lv_aload hx hb dX9_tellUncaught_92 (lv_at hl 0 rfl) ?_
                    refine va_get (D := (dC, dI)) (ci := 7) (v := .ref (ad (50 + 16 * j_800 + 1))) (C := RX7) (T := TX7) (N := 15) hx hb hg gb_7 hown hK hP (50 + 16 * j_800) (hQ.b0 hj_800) rfl 10 (by decide) (hg _ gm_fieldLink_RX9_151_ErrandGuild_Run_kin_LErrandGuild_Kin_) (fun _ h9 => h9) rfl dX9_tellUncaught_94 ?_
                    refine va_get (D := (dC, dI)) (ci := 4) (v := va_rf (rA9 ad (K j_800 4))) (C := RX4) (T := TX4) (N := 9) hx hb hg gb_4 hown hK hP (50 + 16 * j_800 + 1) (hQ.b1 hj_800) rfl 7 (by decide) (hg _ gm_fieldLink_RX9_228_ErrandGuild_Kin_nextSibling_LErrandGuild_Run_) (fun _ h9 => h9) rfl dX9_tellUncaught_97 ?_
                    rcases eo_805 : K j_800 4 with _ | j_806
                    · refine W.eq (g2 := F0 m 100 ls [.null]) (by first | rfl | (rw [eo_805]; rfl)) ?_
                      refine lv_astoreN (lv' := [(4, .null), (3, .int 0), (2, .ref (ad (50 + 16 * j_2))), (0, .ref (ad 0)), (1, .ref (ad (50 + 16 * i)))]) hx hb dX9_tellUncaught_100 hl (by decide) rfl (fun ls hl => ?_)
                      refine lv_goto (tgt := 61) hx hb dX9_tellUncaught_102 (by decide) ?_
                      exact ih_789  none  ws_782 ga_777 gc_778 n_779 f_780 G_781 ce se H locs ls (by simp only [chM] at *; omega) (fun _ h => by cases h) (by show S9 M gc_778 + gc 1 ≤ S9 M gc + gc_778 1; omega) (by show (n_779 0).toInt = (n 0).toInt; omega) (by show (n 0).toInt ≤ (n_779 0).toInt; omega) hQ ⟨i1_791, i2_792, i3_793, i4_794, i5_795, i6_796, i7_797, i8_798, i9_799⟩ hr1 hr2 hP hD hS (lv_sub hl [0, 1, 2, 3, 4] rfl)
                    · refine W.eq (g2 := F0 m 100 ls [.ref (ad (50 + 16 * j_806))]) (by first | rfl | (rw [eo_805]; rfl)) ?_
                      have hj_806 : j_806 < M := i3_793 _ _ _ hj_800 eo_805
                      refine lv_astore (lv' := [(4, .ref (ad (50 + 16 * j_806))), (3, .int 0), (2, .ref (ad (50 + 16 * j_2))), (0, .ref (ad 0)), (1, .ref (ad (50 + 16 * i)))]) hx hb dX9_tellUncaught_100 hl (by decide) rfl (fun ls hl => ?_)
                      refine lv_goto (tgt := 61) hx hb dX9_tellUncaught_102 (by decide) ?_
                      exact ih_789  (some j_806)  ws_782 ga_777 gc_778 n_779 f_780 G_781 ce se H locs ls (by have := i4_794 _ _ hj_800 eo_805; simp only [chM] at *; omega) (fun _ h => by cases h; exact hj_806) (by show S9 M gc_778 + gc 1 ≤ S9 M gc + gc_778 1; omega) (by show (n_779 0).toInt = (n 0).toInt; omega) (by show (n 0).toInt ≤ (n_779 0).toInt; omega) hQ ⟨i1_791, i2_792, i3_793, i4_794, i5_795, i6_796, i7_797, i8_798, i9_799⟩ hr1 hr2 hP hD hS (lv_sub hl [0, 1, 2, 3, 4] rfl)
                  · simp only [i_lt, i_le, i_eq, ti_0] at c_804
                    refine lv_aload_n hx hb dX9_tellUncaught_86 rfl (lv_at hl 3 rfl) ?_
                    refine lv_aload hx hb dX9_tellUncaught_87 (lv_at hl 0 rfl) ?_
                    have hFc := free_all hD hS hA
                    refine W_msr2 (fun hm1 hm2 hm3 => ?_)
                    refine va_callv (va_runV (As := [.ref (ad (50 + 16 * j_800))]) (rest := []) ⟨hx, hb, hml, hown, hg⟩ (c_X9_askHandlers l dC dI kc ws_782 ad ga_777 gc_778 M n_779 f_780 T G_781 K F R j_800 H.size (hpS H) hQ ⟨i1_791, i2_792, i3_793, i4_794, i5_795, i6_796, i7_797, i8_798, i9_799⟩ (by show j_800 < M; omega) (by show R ≤ 310000; omega)) (cwV 1 hg (gw_V gm_methodLink_RX9_388_yX9_askHandlers gm_instanceMethod_yX9_askHandlers gm_selects_RX9_yX9_askHandlers_yX9_askHandlers gm_initialized_RX9 gm_code_yX9_askHandlers_cX9_askHandlers_7_none) rfl rfl rfl (by decide +kernel) ⟨Nat.le_of_ble_eq_true rfl, Nat.le_of_ble_eq_true rfl⟩) ⟨fun a U g mk q => by obtain ⟨q0, q1, q2, qP, qK, qD, qN⟩ := q; exact ⟨q0, q1, q2, qP, va_K.moved (u := U) (U := U.calling g mk a) (Vm.Alike.refl U.vm) qK, qD, nx_same (u := U) (U := U.calling g mk a) rfl qN⟩, va_recv hK hP (ci := 9) (q0 := 0) rfl hQ.x0, fun U hU hW => ⟨rfl, by rw [hU], by rw [hU], by rw [hU]; exact hP, va_K.moved hW.alike hK, hD.weaken (fun _ _ _ _ => trivial), nx_warm hW hN⟩⟩ rfl rfl hl.1 rfl (lv_room (Nat.le_of_ble_eq_true rfl)) dX9_tellUncaught_89 ⟨by show ce + 1200 ≤ 1800; omega, by show se + 50000 ≤ 67000; omega⟩) hS (fun q _ h => hFc q h) hFc (fun u_808 t H1 locs ht hvm hw hB hz1 hk1 hS => ?_)
                    obtain ⟨ad_809, ga_810, gc_811, M_812, n_813, f_814, T_815, G_816, K_817, F_818⟩ := u_808
                    have hB : ∃ w : va_W, va_P (dC, dI) vwCl w t.heap ∧ va_D (va_A ws_782 H.size) w ∧ Pic9 kc w ad ga_810 gc_811 M n_813 f_814 T G_816 K F ∧ I9 M n_813 T gc_811 G_816 K R ∧ hpS t.heap + (260 * M + 2 * S9 M gc_778) ≤ hpS H + (260 * M + 2 * S9 M gc_811) ∧ 16 * t.heap.size + (256 * M + S9 M gc_778) ≤ 16 * H.size + (256 * M + S9 M gc_811) ∧ (n_779 0).toInt ≤ (n_813 0).toInt := hB
                    rw [ht] at hB
                    obtain ⟨ws_819, hP, hD, hQ, hI_821, hy1, hy2, hn_820⟩ := hB
                    have hD := hD.weaken (fun k q _ h => hFc _ h)
                    obtain ⟨i1_822, i2_823, i3_824, i4_825, i5_826, i6_827, i7_828, i8_829, i9_830⟩ := id hI_821
                    have q1_ := i1_822
                    unfold i1 at q1_
                    have hSl := S9_le i8_829 i9_830
                    have hb0_ := i8_829.2.1 0 (by omega)
                    have hb1_ := i8_829.2.1 1 (by omega)
                    have hb2_ := i8_829.2.1 2 (by omega)
                    refine W_msr2 (fun hn1 hn2 hn3 => ?_)
                    obtain ⟨ce2, se2, hk3, hk4, hr1, hr2⟩ : ∃ c2 s2 : Nat, H1.size ≤ s.heap.size + c2 ∧ hpS H1 ≤ hpS s.heap + s2 ∧ s2 + (260 * M + 2 * S9 M gc) ≤ (260 * M + 2 * S9 M gc_811) ∧ 16 * c2 + (256 * M + S9 M gc) ≤ (256 * M + S9 M gc_811) := ⟨H1.size - s.heap.size, hpS H1 - hpS s.heap, by omega, by omega, by have := hS.1; omega, by have := hS.1; omega⟩
                    refine W_tightP hk3 hk4 ?_
                    clear hm1 hm2 hm3 hn1 hn2 hn3 hk3 hk4
                    clear hk1 hz1
                    generalize ce2 = ce, se2 = se at hr1 hr2 ⊢
                    generalize H1 = H at hP hS ⊢
                    have w_831 : S9 M gc_811 + gc_778 1 ≤ S9 M gc_778 + gc_811 1 ∧ (n_813 0).toInt = (n_779 0).toInt := hw
                    refine lv_aload hx hb dX9_tellUncaught_92 (lv_at hl 0 rfl) ?_
                    refine va_get (D := (dC, dI)) (ci := 7) (v := .ref (ad (50 + 16 * j_800 + 1))) (C := RX7) (T := TX7) (N := 15) hx hb hg gb_7 hown hK hP (50 + 16 * j_800) (hQ.b0 hj_800) rfl 10 (by decide) (hg _ gm_fieldLink_RX9_151_ErrandGuild_Run_kin_LErrandGuild_Kin_) (fun _ h9 => h9) rfl dX9_tellUncaught_94 ?_
                    refine va_get (D := (dC, dI)) (ci := 4) (v := va_rf (rA9 ad (K j_800 4))) (C := RX4) (T := TX4) (N := 9) hx hb hg gb_4 hown hK hP (50 + 16 * j_800 + 1) (hQ.b1 hj_800) rfl 7 (by decide) (hg _ gm_fieldLink_RX9_228_ErrandGuild_Kin_nextSibling_LErrandGuild_Run_) (fun _ h9 => h9) rfl dX9_tellUncaught_97 ?_
                    rcases eo_832 : K j_800 4 with _ | j_833
                    · refine W.eq (g2 := F0 m 100 ls [.null]) (by first | rfl | (rw [eo_832]; rfl)) ?_
                      refine lv_astoreN (lv' := [(4, .null), (3, .int 0), (2, .ref (ad (50 + 16 * j_2))), (0, .ref (ad 0)), (1, .ref (ad (50 + 16 * i)))]) hx hb dX9_tellUncaught_100 hl (by decide) rfl (fun ls hl => ?_)
                      refine lv_goto (tgt := 61) hx hb dX9_tellUncaught_102 (by decide) ?_
                      exact ih_789  none  ws_819 ga_810 gc_811 n_813 f_814 G_816 ce se H locs ls (by simp only [chM] at *; omega) (fun _ h => by cases h) (by show S9 M gc_811 + gc 1 ≤ S9 M gc + gc_811 1; omega) (by show (n_813 0).toInt = (n 0).toInt; omega) (by show (n 0).toInt ≤ (n_813 0).toInt; omega) hQ ⟨i1_822, i2_823, i3_824, i4_825, i5_826, i6_827, i7_828, i8_829, i9_830⟩ hr1 hr2 hP hD hS (lv_sub hl [0, 1, 2, 3, 4] rfl)
                    · refine W.eq (g2 := F0 m 100 ls [.ref (ad (50 + 16 * j_833))]) (by first | rfl | (rw [eo_832]; rfl)) ?_
                      have hj_833 : j_833 < M := i3_824 _ _ _ hj_800 eo_832
                      refine lv_astore (lv' := [(4, .ref (ad (50 + 16 * j_833))), (3, .int 0), (2, .ref (ad (50 + 16 * j_2))), (0, .ref (ad 0)), (1, .ref (ad (50 + 16 * i)))]) hx hb dX9_tellUncaught_100 hl (by decide) rfl (fun ls hl => ?_)
                      refine lv_goto (tgt := 61) hx hb dX9_tellUncaught_102 (by decide) ?_
                      exact ih_789  (some j_833)  ws_819 ga_810 gc_811 n_813 f_814 G_816 ce se H locs ls (by have := i4_825 _ _ hj_800 eo_832; simp only [chM] at *; omega) (fun _ h => by cases h; exact hj_833) (by show S9 M gc_811 + gc 1 ≤ S9 M gc + gc_811 1; omega) (by show (n_813 0).toInt = (n 0).toInt; omega) (by show (n 0).toInt ≤ (n_813 0).toInt; omega) hQ ⟨i1_822, i2_823, i3_824, i4_825, i5_826, i6_827, i7_828, i8_829, i9_830⟩ hr1 hr2 hP hD hS (lv_sub hl [0, 1, 2, 3, 4] rfl)
          exact L61 _  none  ws ga gc n f G ce se _ _ _ (Nat.lt_succ_self _) (fun _ h => by cases h) (by show S9 M gc + gc 1 ≤ S9 M gc + gc 1; omega) (by show (n 0).toInt = (n 0).toInt; omega) (by show (n 0).toInt ≤ (n 0).toInt; omega) hQ ⟨h_i1, h_i2, h_i3, h_i4, h_i5, h_i6, h_i7, h_i8, h_i9⟩ hr1 hr2 hP hD hS (lv_sub hl [0, 1, 2, 3, 4] rfl)
        · refine W.eq (g2 := F0 m 59 ls [.ref (ad (50 + 16 * j_775))]) (by first | rfl | (rw [eo_774]; rfl)) ?_
          have hj_775 : j_775 < M := h_i3 _ _ _ hi eo_774
          refine lv_astore (lv' := [(4, .ref (ad (50 + 16 * j_775))), (3, .int 0), (2, .ref (ad (50 + 16 * j_2))), (0, .ref (ad 0)), (1, .ref (ad (50 + 16 * i)))]) hx hb dX9_tellUncaught_59 hl (by decide) rfl (fun ls hl => ?_)
          have L61 : ∀ (fuel : Nat)  (o_834 : Option Nat)  (ws_840 : va_W) (ga_835 : Nat → Nat) (gc_836 : Nat → Nat) (n_837 : Nat → Int32) (f_838 : Nat → Nat → Int32) (G_839 : Nat → Nat → Int32) (ce se : Nat) (H : Heap) (locs : List Loc) (ls : Array Slot), chM M o_834 < fuel → (∀ j : Nat, o_834 = some j → j < M) → (S9 M gc_836 + gc 1 ≤ S9 M gc + gc_836 1) → ((n_837 0).toInt = (n 0).toInt) → ((n 0).toInt ≤ (n_837 0).toInt) → Pic9 kc ws_840 ad ga_835 gc_836 M n_837 f_838 T G_839 K F → I9 M n_837 T gc_836 G_839 K R → (se + (260 * M + 2 * S9 M gc) ≤ (260 * M + 2 * S9 M gc_836)) → (16 * ce + (256 * M + S9 M gc) ≤ (256 * M + S9 M gc_836)) → va_P (dC, dI) vwCl ws_840 H → va_D A ws_840 → va_S A s.heap H locs → lv_has ls 5 [(4, va_rf (rA9 ad o_834)), (3, .int 0), (2, .ref (ad (50 + 16 * j_2))), (0, .ref (ad 0)), (1, .ref (ad (50 + 16 * i)))] → W p l e (headSpec (.code yX9_tellUncaught cX9_tellUncaught 5 none :: gw) ({ frames := 4, cells := 1800, slots := 67000, locals := 152 })).room s m ([.ref (ad 0), .ref (ad (50 + 16 * i))] : List Value).toArray below meth c H locs ce se (MQ below (va_Qv (fun (u : (Nat → Nat) × (Nat → Nat) × (Nat → Nat) × Nat × (Nat → Int32) × (Nat → Nat → Int32) × (Nat → Option Nat) × (Nat → Nat → Int32) × (Nat → Nat → Option Nat) × (Nat → Nat → Nat → Int32)) => S9 M u.2.2.1 + gc 1 ≤ S9 M gc + u.2.2.1 1 ∧ (u.2.2.2.2.1 0).toInt = (n 0).toInt) (fun u t => ∃ w : va_W, va_P (dC, dI) vwCl w t.heap ∧ va_D A w ∧ Pic9 kc w ad u.2.1 u.2.2.1 M u.2.2.2.2.1 u.2.2.2.2.2.1 T u.2.2.2.2.2.2.2.1 K F ∧ I9 M u.2.2.2.2.1 T u.2.2.1 u.2.2.2.2.2.2.2.1 K R ∧ hpS t.heap + (260 * M + 2 * S9 M gc) ≤ (hpS s.heap) + (260 * M + 2 * S9 M u.2.2.1) ∧ 16 * t.heap.size + (256 * M + S9 M gc) ≤ 16 * s.heap.size + (256 * M + S9 M u.2.2.1) ∧ (n 0).toInt ≤ (u.2.2.2.2.1 0).toInt) A) ([.ref (ad 0), .ref (ad (50 + 16 * i))] : List Value).toArray s 1800 67000 A) (F0 m 61 ls []) := by
            intro fuel
            induction fuel with
            | zero => intro o_834 ws_840 ga_835 gc_836 n_837 f_838 G_839 ce se H locs ls hm; exact absurd hm (Nat.not_lt_zero _)
            | succ fuel_848 ih_847 =>
              intro o_834 ws_840 ga_835 gc_836 n_837 f_838 G_839 ce se H locs ls hm_841 v_842 v_843 v_844 v_845 hQ hI_846 hr1 hr2 hP hD hS hl
              obtain ⟨i1_849, i2_850, i3_851, i4_852, i5_853, i6_854, i7_855, i8_856, i9_857⟩ := id hI_846
              have q1_ := i1_849
              unfold i1 at q1_
              have hSl := S9_le i8_856 i9_857
              have hb0_ := i8_856.2.1 0 (by omega)
              have hb1_ := i8_856.2.1 1 (by omega)
              have hb2_ := i8_856.2.1 2 (by omega)
              rcases o_834 with _ | j_858
              · have hl : lv_has ls 5 [(4, .null), (3, .int 0), (2, .ref (ad (50 + 16 * j_2))), (0, .ref (ad 0)), (1, .ref (ad (50 + 16 * i)))] := hl
                refine lv_aloadN hx hb dX9_tellUncaught_61 (lv_at hl 0 rfl) ?_
                refine lv_ifnullN (tgt := 105) hx hb dX9_tellUncaught_63 (by decide) ?_
                refine W_msr2 (fun hm1 hm2 hm3 => ?_)
                have hSl := S9_le i8_856 i9_857
                have hb0_ := i8_856.2.1 0 (by omega)
                have hb1_ := i8_856.2.1 1 (by omega)
                have hb2_ := i8_856.2.1 2 (by omega)
                refine W.widen (k := 1800) (n := 67000) (by omega) (by omega) ?_
                exact W.vret hx hb hr (fun t ht hW => ⟨⟨(ad, ga_835, gc_836, M, n_837, f_838, T, G_839, K, F), rfl, (by show S9 M gc_836 + gc 1 ≤ S9 M gc + gc_836 1 ∧ (n_837 0).toInt = (n 0).toInt; omega), ws_840, by rw [ht]; exact hP, hD, hQ, ⟨i1_849, i2_850, i3_851, i4_852, i5_853, i6_854, i7_855, i8_856, i9_857⟩, by rw [ht]; show hpS H + (260 * M + 2 * S9 M gc) ≤ hpS s.heap + (260 * M + 2 * S9 M gc_836); omega, by rw [ht]; show 16 * H.size + (256 * M + S9 M gc) ≤ 16 * s.heap.size + (256 * M + S9 M gc_836); omega, by show (n 0).toInt ≤ (n_837 0).toInt; omega⟩, hS.F ht⟩) hS.2.2 dX9_tellUncaught_105
              · have hl : lv_has ls 5 [(4, .ref (ad (50 + 16 * j_858))), (3, .int 0), (2, .ref (ad (50 + 16 * j_2))), (0, .ref (ad 0)), (1, .ref (ad (50 + 16 * i)))] := hl
                have hj_858 : j_858 < M := v_842 _ rfl
                refine lv_aload hx hb dX9_tellUncaught_61 (lv_at hl 0 rfl) ?_
                refine lv_ifnull hx hb dX9_tellUncaught_63 ?_
                refine lv_aload hx hb dX9_tellUncaught_66 (lv_at hl 0 rfl) ?_
                refine va_get (D := (dC, dI)) (ci := 7) (v := .int (G_839 j_858 2)) (C := RX7) (T := TX7) (N := 15) hx hb hg gb_7 hown hK hP (50 + 16 * j_858) (hQ.b0 hj_858) rfl 2 (by decide) (hg _ gm_fieldLink_RX9_145_ErrandGuild_Run_state_I_) (fun _ h9 => h9) rfl dX9_tellUncaught_68 ?_
                refine lv_iconst (v := 4) hx hb dX9_tellUncaught_71 (by decide) ?_
                refine lv_icmp_ne (tgt := 92) hx hb dX9_tellUncaught_72 (by decide) (fun c_859 => ?_) (fun c_859 => ?_)
                · simp only [i_lt, i_le, i_eq, ti_4] at c_859
                  refine lv_aload hx hb dX9_tellUncaught_92 (lv_at hl 0 rfl) ?_
                  refine va_get (D := (dC, dI)) (ci := 7) (v := .ref (ad (50 + 16 * j_858 + 1))) (C := RX7) (T := TX7) (N := 15) hx hb hg gb_7 hown hK hP (50 + 16 * j_858) (hQ.b0 hj_858) rfl 10 (by decide) (hg _ gm_fieldLink_RX9_151_ErrandGuild_Run_kin_LErrandGuild_Kin_) (fun _ h9 => h9) rfl dX9_tellUncaught_94 ?_
                  refine va_get (D := (dC, dI)) (ci := 4) (v := va_rf (rA9 ad (K j_858 4))) (C := RX4) (T := TX4) (N := 9) hx hb hg gb_4 hown hK hP (50 + 16 * j_858 + 1) (hQ.b1 hj_858) rfl 7 (by decide) (hg _ gm_fieldLink_RX9_228_ErrandGuild_Kin_nextSibling_LErrandGuild_Run_) (fun _ h9 => h9) rfl dX9_tellUncaught_97 ?_
                  rcases eo_860 : K j_858 4 with _ | j_861
                  · refine W.eq (g2 := F0 m 100 ls [.null]) (by first | rfl | (rw [eo_860]; rfl)) ?_
                    refine lv_astoreN (lv' := [(4, .null), (3, .int 0), (2, .ref (ad (50 + 16 * j_2))), (0, .ref (ad 0)), (1, .ref (ad (50 + 16 * i)))]) hx hb dX9_tellUncaught_100 hl (by decide) rfl (fun ls hl => ?_)
                    refine lv_goto (tgt := 61) hx hb dX9_tellUncaught_102 (by decide) ?_
                    exact ih_847  none  ws_840 ga_835 gc_836 n_837 f_838 G_839 ce se H locs ls (by simp only [chM] at *; omega) (fun _ h => by cases h) (by show S9 M gc_836 + gc 1 ≤ S9 M gc + gc_836 1; omega) (by show (n_837 0).toInt = (n 0).toInt; omega) (by show (n 0).toInt ≤ (n_837 0).toInt; omega) hQ ⟨i1_849, i2_850, i3_851, i4_852, i5_853, i6_854, i7_855, i8_856, i9_857⟩ hr1 hr2 hP hD hS (lv_sub hl [0, 1, 2, 3, 4] rfl)
                  · refine W.eq (g2 := F0 m 100 ls [.ref (ad (50 + 16 * j_861))]) (by first | rfl | (rw [eo_860]; rfl)) ?_
                    have hj_861 : j_861 < M := i3_851 _ _ _ hj_858 eo_860
                    refine lv_astore (lv' := [(4, .ref (ad (50 + 16 * j_861))), (3, .int 0), (2, .ref (ad (50 + 16 * j_2))), (0, .ref (ad 0)), (1, .ref (ad (50 + 16 * i)))]) hx hb dX9_tellUncaught_100 hl (by decide) rfl (fun ls hl => ?_)
                    refine lv_goto (tgt := 61) hx hb dX9_tellUncaught_102 (by decide) ?_
                    exact ih_847  (some j_861)  ws_840 ga_835 gc_836 n_837 f_838 G_839 ce se H locs ls (by have := i4_852 _ _ hj_858 eo_860; simp only [chM] at *; omega) (fun _ h => by cases h; exact hj_861) (by show S9 M gc_836 + gc 1 ≤ S9 M gc + gc_836 1; omega) (by show (n_837 0).toInt = (n 0).toInt; omega) (by show (n 0).toInt ≤ (n_837 0).toInt; omega) hQ ⟨i1_849, i2_850, i3_851, i4_852, i5_853, i6_854, i7_855, i8_856, i9_857⟩ hr1 hr2 hP hD hS (lv_sub hl [0, 1, 2, 3, 4] rfl)
                · simp only [i_lt, i_le, i_eq, ti_4] at c_859
                  refine lv_aload hx hb dX9_tellUncaught_75 (lv_at hl 0 rfl) ?_
                  refine va_get (D := (dC, dI)) (ci := 7) (v := .ref (ad (50 + 16 * j_858 + 1))) (C := RX7) (T := TX7) (N := 15) hx hb hg gb_7 hown hK hP (50 + 16 * j_858) (hQ.b0 hj_858) rfl 10 (by decide) (hg _ gm_fieldLink_RX9_151_ErrandGuild_Run_kin_LErrandGuild_Kin_) (fun _ h9 => h9) rfl dX9_tellUncaught_77 ?_
                  refine va_get (D := (dC, dI)) (ci := 4) (v := .int (G_839 j_858 12)) (C := RX4) (T := TX4) (N := 9) hx hb hg gb_4 hown hK hP (50 + 16 * j_858 + 1) (hQ.b1 hj_858) rfl 4 (by decide) (hg _ gm_fieldLink_RX9_379_ErrandGuild_Kin_claim_I_) (fun _ h9 => h9) rfl dX9_tellUncaught_80 ?_
                  refine lv_if_ne (tgt := 92) hx hb dX9_tellUncaught_83 (by decide) (fun c_862 => ?_) (fun c_862 => ?_)
                  · simp only [i_lt, i_le, i_eq, ti_0] at c_862
                    refine lv_aload hx hb dX9_tellUncaught_92 (lv_at hl 0 rfl) ?_
                    refine va_get (D := (dC, dI)) (ci := 7) (v := .ref (ad (50 + 16 * j_858 + 1))) (C := RX7) (T := TX7) (N := 15) hx hb hg gb_7 hown hK hP (50 + 16 * j_858) (hQ.b0 hj_858) rfl 10 (by decide) (hg _ gm_fieldLink_RX9_151_ErrandGuild_Run_kin_LErrandGuild_Kin_) (fun _ h9 => h9) rfl dX9_tellUncaught_94 ?_
                    refine va_get (D := (dC, dI)) (ci := 4) (v := va_rf (rA9 ad (K j_858 4))) (C := RX4) (T := TX4) (N := 9) hx hb hg gb_4 hown hK hP (50 + 16 * j_858 + 1) (hQ.b1 hj_858) rfl 7 (by decide) (hg _ gm_fieldLink_RX9_228_ErrandGuild_Kin_nextSibling_LErrandGuild_Run_) (fun _ h9 => h9) rfl dX9_tellUncaught_97 ?_
                    rcases eo_863 : K j_858 4 with _ | j_864
                    · refine W.eq (g2 := F0 m 100 ls [.null]) (by first | rfl | (rw [eo_863]; rfl)) ?_
                      refine lv_astoreN (lv' := [(4, .null), (3, .int 0), (2, .ref (ad (50 + 16 * j_2))), (0, .ref (ad 0)), (1, .ref (ad (50 + 16 * i)))]) hx hb dX9_tellUncaught_100 hl (by decide) rfl (fun ls hl => ?_)
                      refine lv_goto (tgt := 61) hx hb dX9_tellUncaught_102 (by decide) ?_
                      exact ih_847  none  ws_840 ga_835 gc_836 n_837 f_838 G_839 ce se H locs ls (by simp only [chM] at *; omega) (fun _ h => by cases h) (by show S9 M gc_836 + gc 1 ≤ S9 M gc + gc_836 1; omega) (by show (n_837 0).toInt = (n 0).toInt; omega) (by show (n 0).toInt ≤ (n_837 0).toInt; omega) hQ ⟨i1_849, i2_850, i3_851, i4_852, i5_853, i6_854, i7_855, i8_856, i9_857⟩ hr1 hr2 hP hD hS (lv_sub hl [0, 1, 2, 3, 4] rfl)
                    · refine W.eq (g2 := F0 m 100 ls [.ref (ad (50 + 16 * j_864))]) (by first | rfl | (rw [eo_863]; rfl)) ?_
                      have hj_864 : j_864 < M := i3_851 _ _ _ hj_858 eo_863
                      refine lv_astore (lv' := [(4, .ref (ad (50 + 16 * j_864))), (3, .int 0), (2, .ref (ad (50 + 16 * j_2))), (0, .ref (ad 0)), (1, .ref (ad (50 + 16 * i)))]) hx hb dX9_tellUncaught_100 hl (by decide) rfl (fun ls hl => ?_)
                      refine lv_goto (tgt := 61) hx hb dX9_tellUncaught_102 (by decide) ?_
                      exact ih_847  (some j_864)  ws_840 ga_835 gc_836 n_837 f_838 G_839 ce se H locs ls (by have := i4_852 _ _ hj_858 eo_863; simp only [chM] at *; omega) (fun _ h => by cases h; exact hj_864) (by show S9 M gc_836 + gc 1 ≤ S9 M gc + gc_836 1; omega) (by show (n_837 0).toInt = (n 0).toInt; omega) (by show (n 0).toInt ≤ (n_837 0).toInt; omega) hQ ⟨i1_849, i2_850, i3_851, i4_852, i5_853, i6_854, i7_855, i8_856, i9_857⟩ hr1 hr2 hP hD hS (lv_sub hl [0, 1, 2, 3, 4] rfl)
                  · simp only [i_lt, i_le, i_eq, ti_0] at c_862
                    refine lv_aload_n hx hb dX9_tellUncaught_86 rfl (lv_at hl 3 rfl) ?_
                    refine lv_aload hx hb dX9_tellUncaught_87 (lv_at hl 0 rfl) ?_
                    have hFc := free_all hD hS hA
                    refine W_msr2 (fun hm1 hm2 hm3 => ?_)
                    refine va_callv (va_runV (As := [.ref (ad (50 + 16 * j_858))]) (rest := []) ⟨hx, hb, hml, hown, hg⟩ (c_X9_askHandlers l dC dI kc ws_840 ad ga_835 gc_836 M n_837 f_838 T G_839 K F R j_858 H.size (hpS H) hQ ⟨i1_849, i2_850, i3_851, i4_852, i5_853, i6_854, i7_855, i8_856, i9_857⟩ (by show j_858 < M; omega) (by show R ≤ 310000; omega)) (cwV 1 hg (gw_V gm_methodLink_RX9_388_yX9_askHandlers gm_instanceMethod_yX9_askHandlers gm_selects_RX9_yX9_askHandlers_yX9_askHandlers gm_initialized_RX9 gm_code_yX9_askHandlers_cX9_askHandlers_7_none) rfl rfl rfl (by decide +kernel) ⟨Nat.le_of_ble_eq_true rfl, Nat.le_of_ble_eq_true rfl⟩) ⟨fun a U g mk q => by obtain ⟨q0, q1, q2, qP, qK, qD, qN⟩ := q; exact ⟨q0, q1, q2, qP, va_K.moved (u := U) (U := U.calling g mk a) (Vm.Alike.refl U.vm) qK, qD, nx_same (u := U) (U := U.calling g mk a) rfl qN⟩, va_recv hK hP (ci := 9) (q0 := 0) rfl hQ.x0, fun U hU hW => ⟨rfl, by rw [hU], by rw [hU], by rw [hU]; exact hP, va_K.moved hW.alike hK, hD.weaken (fun _ _ _ _ => trivial), nx_warm hW hN⟩⟩ rfl rfl hl.1 rfl (lv_room (Nat.le_of_ble_eq_true rfl)) dX9_tellUncaught_89 ⟨by show ce + 1200 ≤ 1800; omega, by show se + 50000 ≤ 67000; omega⟩) hS (fun q _ h => hFc q h) hFc (fun u_866 t H1 locs ht hvm hw hB hz1 hk1 hS => ?_)
                    obtain ⟨ad_867, ga_868, gc_869, M_870, n_871, f_872, T_873, G_874, K_875, F_876⟩ := u_866
                    have hB : ∃ w : va_W, va_P (dC, dI) vwCl w t.heap ∧ va_D (va_A ws_840 H.size) w ∧ Pic9 kc w ad ga_868 gc_869 M n_871 f_872 T G_874 K F ∧ I9 M n_871 T gc_869 G_874 K R ∧ hpS t.heap + (260 * M + 2 * S9 M gc_836) ≤ hpS H + (260 * M + 2 * S9 M gc_869) ∧ 16 * t.heap.size + (256 * M + S9 M gc_836) ≤ 16 * H.size + (256 * M + S9 M gc_869) ∧ (n_837 0).toInt ≤ (n_871 0).toInt := hB
                    rw [ht] at hB
                    obtain ⟨ws_877, hP, hD, hQ, hI_879, hy1, hy2, hn_878⟩ := hB
                    have hD := hD.weaken (fun k q _ h => hFc _ h)
                    obtain ⟨i1_880, i2_881, i3_882, i4_883, i5_884, i6_885, i7_886, i8_887, i9_888⟩ := id hI_879
                    have q1_ := i1_880
                    unfold i1 at q1_
                    have hSl := S9_le i8_887 i9_888
                    have hb0_ := i8_887.2.1 0 (by omega)
                    have hb1_ := i8_887.2.1 1 (by omega)
                    have hb2_ := i8_887.2.1 2 (by omega)
                    refine W_msr2 (fun hn1 hn2 hn3 => ?_)
                    obtain ⟨ce2, se2, hk3, hk4, hr1, hr2⟩ : ∃ c2 s2 : Nat, H1.size ≤ s.heap.size + c2 ∧ hpS H1 ≤ hpS s.heap + s2 ∧ s2 + (260 * M + 2 * S9 M gc) ≤ (260 * M + 2 * S9 M gc_869) ∧ 16 * c2 + (256 * M + S9 M gc) ≤ (256 * M + S9 M gc_869) := ⟨H1.size - s.heap.size, hpS H1 - hpS s.heap, by omega, by omega, by have := hS.1; omega, by have := hS.1; omega⟩
                    refine W_tightP hk3 hk4 ?_
                    clear hm1 hm2 hm3 hn1 hn2 hn3 hk3 hk4
                    clear hk1 hz1
                    generalize ce2 = ce, se2 = se at hr1 hr2 ⊢
                    generalize H1 = H at hP hS ⊢
                    have w_889 : S9 M gc_869 + gc_836 1 ≤ S9 M gc_836 + gc_869 1 ∧ (n_871 0).toInt = (n_837 0).toInt := hw
                    refine lv_aload hx hb dX9_tellUncaught_92 (lv_at hl 0 rfl) ?_
                    refine va_get (D := (dC, dI)) (ci := 7) (v := .ref (ad (50 + 16 * j_858 + 1))) (C := RX7) (T := TX7) (N := 15) hx hb hg gb_7 hown hK hP (50 + 16 * j_858) (hQ.b0 hj_858) rfl 10 (by decide) (hg _ gm_fieldLink_RX9_151_ErrandGuild_Run_kin_LErrandGuild_Kin_) (fun _ h9 => h9) rfl dX9_tellUncaught_94 ?_
                    refine va_get (D := (dC, dI)) (ci := 4) (v := va_rf (rA9 ad (K j_858 4))) (C := RX4) (T := TX4) (N := 9) hx hb hg gb_4 hown hK hP (50 + 16 * j_858 + 1) (hQ.b1 hj_858) rfl 7 (by decide) (hg _ gm_fieldLink_RX9_228_ErrandGuild_Kin_nextSibling_LErrandGuild_Run_) (fun _ h9 => h9) rfl dX9_tellUncaught_97 ?_
                    rcases eo_890 : K j_858 4 with _ | j_891
                    · refine W.eq (g2 := F0 m 100 ls [.null]) (by first | rfl | (rw [eo_890]; rfl)) ?_
                      refine lv_astoreN (lv' := [(4, .null), (3, .int 0), (2, .ref (ad (50 + 16 * j_2))), (0, .ref (ad 0)), (1, .ref (ad (50 + 16 * i)))]) hx hb dX9_tellUncaught_100 hl (by decide) rfl (fun ls hl => ?_)
                      refine lv_goto (tgt := 61) hx hb dX9_tellUncaught_102 (by decide) ?_
                      exact ih_847  none  ws_877 ga_868 gc_869 n_871 f_872 G_874 ce se H locs ls (by simp only [chM] at *; omega) (fun _ h => by cases h) (by show S9 M gc_869 + gc 1 ≤ S9 M gc + gc_869 1; omega) (by show (n_871 0).toInt = (n 0).toInt; omega) (by show (n 0).toInt ≤ (n_871 0).toInt; omega) hQ ⟨i1_880, i2_881, i3_882, i4_883, i5_884, i6_885, i7_886, i8_887, i9_888⟩ hr1 hr2 hP hD hS (lv_sub hl [0, 1, 2, 3, 4] rfl)
                    · refine W.eq (g2 := F0 m 100 ls [.ref (ad (50 + 16 * j_891))]) (by first | rfl | (rw [eo_890]; rfl)) ?_
                      have hj_891 : j_891 < M := i3_882 _ _ _ hj_858 eo_890
                      refine lv_astore (lv' := [(4, .ref (ad (50 + 16 * j_891))), (3, .int 0), (2, .ref (ad (50 + 16 * j_2))), (0, .ref (ad 0)), (1, .ref (ad (50 + 16 * i)))]) hx hb dX9_tellUncaught_100 hl (by decide) rfl (fun ls hl => ?_)
                      refine lv_goto (tgt := 61) hx hb dX9_tellUncaught_102 (by decide) ?_
                      exact ih_847  (some j_891)  ws_877 ga_868 gc_869 n_871 f_872 G_874 ce se H locs ls (by have := i4_883 _ _ hj_858 eo_890; simp only [chM] at *; omega) (fun _ h => by cases h; exact hj_891) (by show S9 M gc_869 + gc 1 ≤ S9 M gc + gc_869 1; omega) (by show (n_871 0).toInt = (n 0).toInt; omega) (by show (n 0).toInt ≤ (n_871 0).toInt; omega) hQ ⟨i1_880, i2_881, i3_882, i4_883, i5_884, i6_885, i7_886, i8_887, i9_888⟩ hr1 hr2 hP hD hS (lv_sub hl [0, 1, 2, 3, 4] rfl)
          exact L61 _  (some j_775)  ws ga gc n f G ce se _ _ _ (Nat.lt_succ_self _) (fun _ h => by cases h; exact hj_775) (by show S9 M gc + gc 1 ≤ S9 M gc + gc 1; omega) (by show (n 0).toInt = (n 0).toInt; omega) (by show (n 0).toInt ≤ (n 0).toInt; omega) hQ ⟨h_i1, h_i2, h_i3, h_i4, h_i5, h_i6, h_i7, h_i8, h_i9⟩ hr1 hr2 hP hD hS (lv_sub hl [0, 1, 2, 3, 4] rfl)
      · simp only [i_lt, i_le, i_eq, ti_4] at c_773
        refine lv_iload_n hx hb dX9_tellUncaught_43 rfl (lv_at hl 0 rfl) ?_
        refine lv_if_eq (tgt := 52) hx hb dX9_tellUncaught_44 (by decide) (fun _ => ?_) (fun c_892 => absurd c_892 (by decide))
        refine lv_aload_n hx hb dX9_tellUncaught_52 rfl (lv_at hl 3 rfl) ?_
        refine va_get (D := (dC, dI)) (ci := 7) (v := .ref (ad (50 + 16 * i + 1))) (C := RX7) (T := TX7) (N := 15) hx hb hg gb_7 hown hK hP (50 + 16 * i) (hQ.b0 hi) rfl 10 (by decide) (hg _ gm_fieldLink_RX9_151_ErrandGuild_Run_kin_LErrandGuild_Kin_) (fun _ h9 => h9) rfl dX9_tellUncaught_53 ?_
        refine va_get (D := (dC, dI)) (ci := 4) (v := va_rf (rA9 ad (K i 2))) (C := RX4) (T := TX4) (N := 9) hx hb hg gb_4 hown hK hP (50 + 16 * i + 1) (hQ.b1 hi) rfl 5 (by decide) (hg _ gm_fieldLink_RX9_225_ErrandGuild_Kin_firstChild_LErrandGuild_Run_) (fun _ h9 => h9) rfl dX9_tellUncaught_56 ?_
        rcases eo_893 : K i 2 with _ | j_894
        · refine W.eq (g2 := F0 m 59 ls [.null]) (by first | rfl | (rw [eo_893]; rfl)) ?_
          refine lv_astoreN (lv' := [(4, .null), (3, .int 0), (2, .ref (ad (50 + 16 * j_2))), (0, .ref (ad 0)), (1, .ref (ad (50 + 16 * i)))]) hx hb dX9_tellUncaught_59 hl (by decide) rfl (fun ls hl => ?_)
          have L61 : ∀ (fuel : Nat)  (o_895 : Option Nat)  (ws_901 : va_W) (ga_896 : Nat → Nat) (gc_897 : Nat → Nat) (n_898 : Nat → Int32) (f_899 : Nat → Nat → Int32) (G_900 : Nat → Nat → Int32) (ce se : Nat) (H : Heap) (locs : List Loc) (ls : Array Slot), chM M o_895 < fuel → (∀ j : Nat, o_895 = some j → j < M) → (S9 M gc_897 + gc 1 ≤ S9 M gc + gc_897 1) → ((n_898 0).toInt = (n 0).toInt) → ((n 0).toInt ≤ (n_898 0).toInt) → Pic9 kc ws_901 ad ga_896 gc_897 M n_898 f_899 T G_900 K F → I9 M n_898 T gc_897 G_900 K R → (se + (260 * M + 2 * S9 M gc) ≤ (260 * M + 2 * S9 M gc_897)) → (16 * ce + (256 * M + S9 M gc) ≤ (256 * M + S9 M gc_897)) → va_P (dC, dI) vwCl ws_901 H → va_D A ws_901 → va_S A s.heap H locs → lv_has ls 5 [(4, va_rf (rA9 ad o_895)), (3, .int 0), (2, .ref (ad (50 + 16 * j_2))), (0, .ref (ad 0)), (1, .ref (ad (50 + 16 * i)))] → W p l e (headSpec (.code yX9_tellUncaught cX9_tellUncaught 5 none :: gw) ({ frames := 4, cells := 1800, slots := 67000, locals := 152 })).room s m ([.ref (ad 0), .ref (ad (50 + 16 * i))] : List Value).toArray below meth c H locs ce se (MQ below (va_Qv (fun (u : (Nat → Nat) × (Nat → Nat) × (Nat → Nat) × Nat × (Nat → Int32) × (Nat → Nat → Int32) × (Nat → Option Nat) × (Nat → Nat → Int32) × (Nat → Nat → Option Nat) × (Nat → Nat → Nat → Int32)) => S9 M u.2.2.1 + gc 1 ≤ S9 M gc + u.2.2.1 1 ∧ (u.2.2.2.2.1 0).toInt = (n 0).toInt) (fun u t => ∃ w : va_W, va_P (dC, dI) vwCl w t.heap ∧ va_D A w ∧ Pic9 kc w ad u.2.1 u.2.2.1 M u.2.2.2.2.1 u.2.2.2.2.2.1 T u.2.2.2.2.2.2.2.1 K F ∧ I9 M u.2.2.2.2.1 T u.2.2.1 u.2.2.2.2.2.2.2.1 K R ∧ hpS t.heap + (260 * M + 2 * S9 M gc) ≤ (hpS s.heap) + (260 * M + 2 * S9 M u.2.2.1) ∧ 16 * t.heap.size + (256 * M + S9 M gc) ≤ 16 * s.heap.size + (256 * M + S9 M u.2.2.1) ∧ (n 0).toInt ≤ (u.2.2.2.2.1 0).toInt) A) ([.ref (ad 0), .ref (ad (50 + 16 * i))] : List Value).toArray s 1800 67000 A) (F0 m 61 ls []) := by
            intro fuel
            induction fuel with
            | zero => intro o_895 ws_901 ga_896 gc_897 n_898 f_899 G_900 ce se H locs ls hm; exact absurd hm (Nat.not_lt_zero _)
            | succ fuel_909 ih_908 =>
              intro o_895 ws_901 ga_896 gc_897 n_898 f_899 G_900 ce se H locs ls hm_902 v_903 v_904 v_905 v_906 hQ hI_907 hr1 hr2 hP hD hS hl
              obtain ⟨i1_910, i2_911, i3_912, i4_913, i5_914, i6_915, i7_916, i8_917, i9_918⟩ := id hI_907
              have q1_ := i1_910
              unfold i1 at q1_
              have hSl := S9_le i8_917 i9_918
              have hb0_ := i8_917.2.1 0 (by omega)
              have hb1_ := i8_917.2.1 1 (by omega)
              have hb2_ := i8_917.2.1 2 (by omega)
              rcases o_895 with _ | j_919
              · have hl : lv_has ls 5 [(4, .null), (3, .int 0), (2, .ref (ad (50 + 16 * j_2))), (0, .ref (ad 0)), (1, .ref (ad (50 + 16 * i)))] := hl
                refine lv_aloadN hx hb dX9_tellUncaught_61 (lv_at hl 0 rfl) ?_
                refine lv_ifnullN (tgt := 105) hx hb dX9_tellUncaught_63 (by decide) ?_
                refine W_msr2 (fun hm1 hm2 hm3 => ?_)
                have hSl := S9_le i8_917 i9_918
                have hb0_ := i8_917.2.1 0 (by omega)
                have hb1_ := i8_917.2.1 1 (by omega)
                have hb2_ := i8_917.2.1 2 (by omega)
                refine W.widen (k := 1800) (n := 67000) (by omega) (by omega) ?_
                exact W.vret hx hb hr (fun t ht hW => ⟨⟨(ad, ga_896, gc_897, M, n_898, f_899, T, G_900, K, F), rfl, (by show S9 M gc_897 + gc 1 ≤ S9 M gc + gc_897 1 ∧ (n_898 0).toInt = (n 0).toInt; omega), ws_901, by rw [ht]; exact hP, hD, hQ, ⟨i1_910, i2_911, i3_912, i4_913, i5_914, i6_915, i7_916, i8_917, i9_918⟩, by rw [ht]; show hpS H + (260 * M + 2 * S9 M gc) ≤ hpS s.heap + (260 * M + 2 * S9 M gc_897); omega, by rw [ht]; show 16 * H.size + (256 * M + S9 M gc) ≤ 16 * s.heap.size + (256 * M + S9 M gc_897); omega, by show (n 0).toInt ≤ (n_898 0).toInt; omega⟩, hS.F ht⟩) hS.2.2 dX9_tellUncaught_105
              · have hl : lv_has ls 5 [(4, .ref (ad (50 + 16 * j_919))), (3, .int 0), (2, .ref (ad (50 + 16 * j_2))), (0, .ref (ad 0)), (1, .ref (ad (50 + 16 * i)))] := hl
                have hj_919 : j_919 < M := v_903 _ rfl
                refine lv_aload hx hb dX9_tellUncaught_61 (lv_at hl 0 rfl) ?_
                refine lv_ifnull hx hb dX9_tellUncaught_63 ?_
                refine lv_aload hx hb dX9_tellUncaught_66 (lv_at hl 0 rfl) ?_
                refine va_get (D := (dC, dI)) (ci := 7) (v := .int (G_900 j_919 2)) (C := RX7) (T := TX7) (N := 15) hx hb hg gb_7 hown hK hP (50 + 16 * j_919) (hQ.b0 hj_919) rfl 2 (by decide) (hg _ gm_fieldLink_RX9_145_ErrandGuild_Run_state_I_) (fun _ h9 => h9) rfl dX9_tellUncaught_68 ?_
                refine lv_iconst (v := 4) hx hb dX9_tellUncaught_71 (by decide) ?_
                refine lv_icmp_ne (tgt := 92) hx hb dX9_tellUncaught_72 (by decide) (fun c_920 => ?_) (fun c_920 => ?_)
                · simp only [i_lt, i_le, i_eq, ti_4] at c_920
                  refine lv_aload hx hb dX9_tellUncaught_92 (lv_at hl 0 rfl) ?_
                  refine va_get (D := (dC, dI)) (ci := 7) (v := .ref (ad (50 + 16 * j_919 + 1))) (C := RX7) (T := TX7) (N := 15) hx hb hg gb_7 hown hK hP (50 + 16 * j_919) (hQ.b0 hj_919) rfl 10 (by decide) (hg _ gm_fieldLink_RX9_151_ErrandGuild_Run_kin_LErrandGuild_Kin_) (fun _ h9 => h9) rfl dX9_tellUncaught_94 ?_
                  refine va_get (D := (dC, dI)) (ci := 4) (v := va_rf (rA9 ad (K j_919 4))) (C := RX4) (T := TX4) (N := 9) hx hb hg gb_4 hown hK hP (50 + 16 * j_919 + 1) (hQ.b1 hj_919) rfl 7 (by decide) (hg _ gm_fieldLink_RX9_228_ErrandGuild_Kin_nextSibling_LErrandGuild_Run_) (fun _ h9 => h9) rfl dX9_tellUncaught_97 ?_
                  rcases eo_921 : K j_919 4 with _ | j_922
                  · refine W.eq (g2 := F0 m 100 ls [.null]) (by first | rfl | (rw [eo_921]; rfl)) ?_
                    refine lv_astoreN (lv' := [(4, .null), (3, .int 0), (2, .ref (ad (50 + 16 * j_2))), (0, .ref (ad 0)), (1, .ref (ad (50 + 16 * i)))]) hx hb dX9_tellUncaught_100 hl (by decide) rfl (fun ls hl => ?_)
                    refine lv_goto (tgt := 61) hx hb dX9_tellUncaught_102 (by decide) ?_
                    exact ih_908  none  ws_901 ga_896 gc_897 n_898 f_899 G_900 ce se H locs ls (by simp only [chM] at *; omega) (fun _ h => by cases h) (by show S9 M gc_897 + gc 1 ≤ S9 M gc + gc_897 1; omega) (by show (n_898 0).toInt = (n 0).toInt; omega) (by show (n 0).toInt ≤ (n_898 0).toInt; omega) hQ ⟨i1_910, i2_911, i3_912, i4_913, i5_914, i6_915, i7_916, i8_917, i9_918⟩ hr1 hr2 hP hD hS (lv_sub hl [0, 1, 2, 3, 4] rfl)
                  · refine W.eq (g2 := F0 m 100 ls [.ref (ad (50 + 16 * j_922))]) (by first | rfl | (rw [eo_921]; rfl)) ?_
                    have hj_922 : j_922 < M := i3_912 _ _ _ hj_919 eo_921
                    refine lv_astore (lv' := [(4, .ref (ad (50 + 16 * j_922))), (3, .int 0), (2, .ref (ad (50 + 16 * j_2))), (0, .ref (ad 0)), (1, .ref (ad (50 + 16 * i)))]) hx hb dX9_tellUncaught_100 hl (by decide) rfl (fun ls hl => ?_)
                    refine lv_goto (tgt := 61) hx hb dX9_tellUncaught_102 (by decide) ?_
                    exact ih_908  (some j_922)  ws_901 ga_896 gc_897 n_898 f_899 G_900 ce se H locs ls (by have := i4_913 _ _ hj_919 eo_921; simp only [chM] at *; omega) (fun _ h => by cases h; exact hj_922) (by show S9 M gc_897 + gc 1 ≤ S9 M gc + gc_897 1; omega) (by show (n_898 0).toInt = (n 0).toInt; omega) (by show (n 0).toInt ≤ (n_898 0).toInt; omega) hQ ⟨i1_910, i2_911, i3_912, i4_913, i5_914, i6_915, i7_916, i8_917, i9_918⟩ hr1 hr2 hP hD hS (lv_sub hl [0, 1, 2, 3, 4] rfl)
                · simp only [i_lt, i_le, i_eq, ti_4] at c_920
                  refine lv_aload hx hb dX9_tellUncaught_75 (lv_at hl 0 rfl) ?_
                  refine va_get (D := (dC, dI)) (ci := 7) (v := .ref (ad (50 + 16 * j_919 + 1))) (C := RX7) (T := TX7) (N := 15) hx hb hg gb_7 hown hK hP (50 + 16 * j_919) (hQ.b0 hj_919) rfl 10 (by decide) (hg _ gm_fieldLink_RX9_151_ErrandGuild_Run_kin_LErrandGuild_Kin_) (fun _ h9 => h9) rfl dX9_tellUncaught_77 ?_
                  refine va_get (D := (dC, dI)) (ci := 4) (v := .int (G_900 j_919 12)) (C := RX4) (T := TX4) (N := 9) hx hb hg gb_4 hown hK hP (50 + 16 * j_919 + 1) (hQ.b1 hj_919) rfl 4 (by decide) (hg _ gm_fieldLink_RX9_379_ErrandGuild_Kin_claim_I_) (fun _ h9 => h9) rfl dX9_tellUncaught_80 ?_
                  refine lv_if_ne (tgt := 92) hx hb dX9_tellUncaught_83 (by decide) (fun c_923 => ?_) (fun c_923 => ?_)
                  · simp only [i_lt, i_le, i_eq, ti_0] at c_923
                    refine lv_aload hx hb dX9_tellUncaught_92 (lv_at hl 0 rfl) ?_
                    refine va_get (D := (dC, dI)) (ci := 7) (v := .ref (ad (50 + 16 * j_919 + 1))) (C := RX7) (T := TX7) (N := 15) hx hb hg gb_7 hown hK hP (50 + 16 * j_919) (hQ.b0 hj_919) rfl 10 (by decide) (hg _ gm_fieldLink_RX9_151_ErrandGuild_Run_kin_LErrandGuild_Kin_) (fun _ h9 => h9) rfl dX9_tellUncaught_94 ?_
                    refine va_get (D := (dC, dI)) (ci := 4) (v := va_rf (rA9 ad (K j_919 4))) (C := RX4) (T := TX4) (N := 9) hx hb hg gb_4 hown hK hP (50 + 16 * j_919 + 1) (hQ.b1 hj_919) rfl 7 (by decide) (hg _ gm_fieldLink_RX9_228_ErrandGuild_Kin_nextSibling_LErrandGuild_Run_) (fun _ h9 => h9) rfl dX9_tellUncaught_97 ?_
                    rcases eo_924 : K j_919 4 with _ | j_925
                    · refine W.eq (g2 := F0 m 100 ls [.null]) (by first | rfl | (rw [eo_924]; rfl)) ?_
                      refine lv_astoreN (lv' := [(4, .null), (3, .int 0), (2, .ref (ad (50 + 16 * j_2))), (0, .ref (ad 0)), (1, .ref (ad (50 + 16 * i)))]) hx hb dX9_tellUncaught_100 hl (by decide) rfl (fun ls hl => ?_)
                      refine lv_goto (tgt := 61) hx hb dX9_tellUncaught_102 (by decide) ?_
                      exact ih_908  none  ws_901 ga_896 gc_897 n_898 f_899 G_900 ce se H locs ls (by simp only [chM] at *; omega) (fun _ h => by cases h) (by show S9 M gc_897 + gc 1 ≤ S9 M gc + gc_897 1; omega) (by show (n_898 0).toInt = (n 0).toInt; omega) (by show (n 0).toInt ≤ (n_898 0).toInt; omega) hQ ⟨i1_910, i2_911, i3_912, i4_913, i5_914, i6_915, i7_916, i8_917, i9_918⟩ hr1 hr2 hP hD hS (lv_sub hl [0, 1, 2, 3, 4] rfl)
                    · refine W.eq (g2 := F0 m 100 ls [.ref (ad (50 + 16 * j_925))]) (by first | rfl | (rw [eo_924]; rfl)) ?_
                      have hj_925 : j_925 < M := i3_912 _ _ _ hj_919 eo_924
                      refine lv_astore (lv' := [(4, .ref (ad (50 + 16 * j_925))), (3, .int 0), (2, .ref (ad (50 + 16 * j_2))), (0, .ref (ad 0)), (1, .ref (ad (50 + 16 * i)))]) hx hb dX9_tellUncaught_100 hl (by decide) rfl (fun ls hl => ?_)
                      refine lv_goto (tgt := 61) hx hb dX9_tellUncaught_102 (by decide) ?_
                      exact ih_908  (some j_925)  ws_901 ga_896 gc_897 n_898 f_899 G_900 ce se H locs ls (by have := i4_913 _ _ hj_919 eo_924; simp only [chM] at *; omega) (fun _ h => by cases h; exact hj_925) (by show S9 M gc_897 + gc 1 ≤ S9 M gc + gc_897 1; omega) (by show (n_898 0).toInt = (n 0).toInt; omega) (by show (n 0).toInt ≤ (n_898 0).toInt; omega) hQ ⟨i1_910, i2_911, i3_912, i4_913, i5_914, i6_915, i7_916, i8_917, i9_918⟩ hr1 hr2 hP hD hS (lv_sub hl [0, 1, 2, 3, 4] rfl)
                  · simp only [i_lt, i_le, i_eq, ti_0] at c_923
                    refine lv_aload_n hx hb dX9_tellUncaught_86 rfl (lv_at hl 3 rfl) ?_
                    refine lv_aload hx hb dX9_tellUncaught_87 (lv_at hl 0 rfl) ?_
                    have hFc := free_all hD hS hA
                    refine W_msr2 (fun hm1 hm2 hm3 => ?_)
                    refine va_callv (va_runV (As := [.ref (ad (50 + 16 * j_919))]) (rest := []) ⟨hx, hb, hml, hown, hg⟩ (c_X9_askHandlers l dC dI kc ws_901 ad ga_896 gc_897 M n_898 f_899 T G_900 K F R j_919 H.size (hpS H) hQ ⟨i1_910, i2_911, i3_912, i4_913, i5_914, i6_915, i7_916, i8_917, i9_918⟩ (by show j_919 < M; omega) (by show R ≤ 310000; omega)) (cwV 1 hg (gw_V gm_methodLink_RX9_388_yX9_askHandlers gm_instanceMethod_yX9_askHandlers gm_selects_RX9_yX9_askHandlers_yX9_askHandlers gm_initialized_RX9 gm_code_yX9_askHandlers_cX9_askHandlers_7_none) rfl rfl rfl (by decide +kernel) ⟨Nat.le_of_ble_eq_true rfl, Nat.le_of_ble_eq_true rfl⟩) ⟨fun a U g mk q => by obtain ⟨q0, q1, q2, qP, qK, qD, qN⟩ := q; exact ⟨q0, q1, q2, qP, va_K.moved (u := U) (U := U.calling g mk a) (Vm.Alike.refl U.vm) qK, qD, nx_same (u := U) (U := U.calling g mk a) rfl qN⟩, va_recv hK hP (ci := 9) (q0 := 0) rfl hQ.x0, fun U hU hW => ⟨rfl, by rw [hU], by rw [hU], by rw [hU]; exact hP, va_K.moved hW.alike hK, hD.weaken (fun _ _ _ _ => trivial), nx_warm hW hN⟩⟩ rfl rfl hl.1 rfl (lv_room (Nat.le_of_ble_eq_true rfl)) dX9_tellUncaught_89 ⟨by show ce + 1200 ≤ 1800; omega, by show se + 50000 ≤ 67000; omega⟩) hS (fun q _ h => hFc q h) hFc (fun u_927 t H1 locs ht hvm hw hB hz1 hk1 hS => ?_)
                    obtain ⟨ad_928, ga_929, gc_930, M_931, n_932, f_933, T_934, G_935, K_936, F_937⟩ := u_927
                    have hB : ∃ w : va_W, va_P (dC, dI) vwCl w t.heap ∧ va_D (va_A ws_901 H.size) w ∧ Pic9 kc w ad ga_929 gc_930 M n_932 f_933 T G_935 K F ∧ I9 M n_932 T gc_930 G_935 K R ∧ hpS t.heap + (260 * M + 2 * S9 M gc_897) ≤ hpS H + (260 * M + 2 * S9 M gc_930) ∧ 16 * t.heap.size + (256 * M + S9 M gc_897) ≤ 16 * H.size + (256 * M + S9 M gc_930) ∧ (n_898 0).toInt ≤ (n_932 0).toInt := hB
                    rw [ht] at hB
                    obtain ⟨ws_938, hP, hD, hQ, hI_940, hy1, hy2, hn_939⟩ := hB
                    have hD := hD.weaken (fun k q _ h => hFc _ h)
                    obtain ⟨i1_941, i2_942, i3_943, i4_944, i5_945, i6_946, i7_947, i8_948, i9_949⟩ := id hI_940
                    have q1_ := i1_941
                    unfold i1 at q1_
                    have hSl := S9_le i8_948 i9_949
                    have hb0_ := i8_948.2.1 0 (by omega)
                    have hb1_ := i8_948.2.1 1 (by omega)
                    have hb2_ := i8_948.2.1 2 (by omega)
                    refine W_msr2 (fun hn1 hn2 hn3 => ?_)
                    obtain ⟨ce2, se2, hk3, hk4, hr1, hr2⟩ : ∃ c2 s2 : Nat, H1.size ≤ s.heap.size + c2 ∧ hpS H1 ≤ hpS s.heap + s2 ∧ s2 + (260 * M + 2 * S9 M gc) ≤ (260 * M + 2 * S9 M gc_930) ∧ 16 * c2 + (256 * M + S9 M gc) ≤ (256 * M + S9 M gc_930) := ⟨H1.size - s.heap.size, hpS H1 - hpS s.heap, by omega, by omega, by have := hS.1; omega, by have := hS.1; omega⟩
                    refine W_tightP hk3 hk4 ?_
                    clear hm1 hm2 hm3 hn1 hn2 hn3 hk3 hk4
                    clear hk1 hz1
                    generalize ce2 = ce, se2 = se at hr1 hr2 ⊢
                    generalize H1 = H at hP hS ⊢
                    have w_950 : S9 M gc_930 + gc_897 1 ≤ S9 M gc_897 + gc_930 1 ∧ (n_932 0).toInt = (n_898 0).toInt := hw
                    refine lv_aload hx hb dX9_tellUncaught_92 (lv_at hl 0 rfl) ?_
                    refine va_get (D := (dC, dI)) (ci := 7) (v := .ref (ad (50 + 16 * j_919 + 1))) (C := RX7) (T := TX7) (N := 15) hx hb hg gb_7 hown hK hP (50 + 16 * j_919) (hQ.b0 hj_919) rfl 10 (by decide) (hg _ gm_fieldLink_RX9_151_ErrandGuild_Run_kin_LErrandGuild_Kin_) (fun _ h9 => h9) rfl dX9_tellUncaught_94 ?_
                    refine va_get (D := (dC, dI)) (ci := 4) (v := va_rf (rA9 ad (K j_919 4))) (C := RX4) (T := TX4) (N := 9) hx hb hg gb_4 hown hK hP (50 + 16 * j_919 + 1) (hQ.b1 hj_919) rfl 7 (by decide) (hg _ gm_fieldLink_RX9_228_ErrandGuild_Kin_nextSibling_LErrandGuild_Run_) (fun _ h9 => h9) rfl dX9_tellUncaught_97 ?_
                    rcases eo_951 : K j_919 4 with _ | j_952
                    · refine W.eq (g2 := F0 m 100 ls [.null]) (by first | rfl | (rw [eo_951]; rfl)) ?_
                      refine lv_astoreN (lv' := [(4, .null), (3, .int 0), (2, .ref (ad (50 + 16 * j_2))), (0, .ref (ad 0)), (1, .ref (ad (50 + 16 * i)))]) hx hb dX9_tellUncaught_100 hl (by decide) rfl (fun ls hl => ?_)
                      refine lv_goto (tgt := 61) hx hb dX9_tellUncaught_102 (by decide) ?_
                      exact ih_908  none  ws_938 ga_929 gc_930 n_932 f_933 G_935 ce se H locs ls (by simp only [chM] at *; omega) (fun _ h => by cases h) (by show S9 M gc_930 + gc 1 ≤ S9 M gc + gc_930 1; omega) (by show (n_932 0).toInt = (n 0).toInt; omega) (by show (n 0).toInt ≤ (n_932 0).toInt; omega) hQ ⟨i1_941, i2_942, i3_943, i4_944, i5_945, i6_946, i7_947, i8_948, i9_949⟩ hr1 hr2 hP hD hS (lv_sub hl [0, 1, 2, 3, 4] rfl)
                    · refine W.eq (g2 := F0 m 100 ls [.ref (ad (50 + 16 * j_952))]) (by first | rfl | (rw [eo_951]; rfl)) ?_
                      have hj_952 : j_952 < M := i3_943 _ _ _ hj_919 eo_951
                      refine lv_astore (lv' := [(4, .ref (ad (50 + 16 * j_952))), (3, .int 0), (2, .ref (ad (50 + 16 * j_2))), (0, .ref (ad 0)), (1, .ref (ad (50 + 16 * i)))]) hx hb dX9_tellUncaught_100 hl (by decide) rfl (fun ls hl => ?_)
                      refine lv_goto (tgt := 61) hx hb dX9_tellUncaught_102 (by decide) ?_
                      exact ih_908  (some j_952)  ws_938 ga_929 gc_930 n_932 f_933 G_935 ce se H locs ls (by have := i4_944 _ _ hj_919 eo_951; simp only [chM] at *; omega) (fun _ h => by cases h; exact hj_952) (by show S9 M gc_930 + gc 1 ≤ S9 M gc + gc_930 1; omega) (by show (n_932 0).toInt = (n 0).toInt; omega) (by show (n 0).toInt ≤ (n_932 0).toInt; omega) hQ ⟨i1_941, i2_942, i3_943, i4_944, i5_945, i6_946, i7_947, i8_948, i9_949⟩ hr1 hr2 hP hD hS (lv_sub hl [0, 1, 2, 3, 4] rfl)
          exact L61 _  none  ws ga gc n f G ce se _ _ _ (Nat.lt_succ_self _) (fun _ h => by cases h) (by show S9 M gc + gc 1 ≤ S9 M gc + gc 1; omega) (by show (n 0).toInt = (n 0).toInt; omega) (by show (n 0).toInt ≤ (n 0).toInt; omega) hQ ⟨h_i1, h_i2, h_i3, h_i4, h_i5, h_i6, h_i7, h_i8, h_i9⟩ hr1 hr2 hP hD hS (lv_sub hl [0, 1, 2, 3, 4] rfl)
        · refine W.eq (g2 := F0 m 59 ls [.ref (ad (50 + 16 * j_894))]) (by first | rfl | (rw [eo_893]; rfl)) ?_
          have hj_894 : j_894 < M := h_i3 _ _ _ hi eo_893
          refine lv_astore (lv' := [(4, .ref (ad (50 + 16 * j_894))), (3, .int 0), (2, .ref (ad (50 + 16 * j_2))), (0, .ref (ad 0)), (1, .ref (ad (50 + 16 * i)))]) hx hb dX9_tellUncaught_59 hl (by decide) rfl (fun ls hl => ?_)
          have L61 : ∀ (fuel : Nat)  (o_953 : Option Nat)  (ws_959 : va_W) (ga_954 : Nat → Nat) (gc_955 : Nat → Nat) (n_956 : Nat → Int32) (f_957 : Nat → Nat → Int32) (G_958 : Nat → Nat → Int32) (ce se : Nat) (H : Heap) (locs : List Loc) (ls : Array Slot), chM M o_953 < fuel → (∀ j : Nat, o_953 = some j → j < M) → (S9 M gc_955 + gc 1 ≤ S9 M gc + gc_955 1) → ((n_956 0).toInt = (n 0).toInt) → ((n 0).toInt ≤ (n_956 0).toInt) → Pic9 kc ws_959 ad ga_954 gc_955 M n_956 f_957 T G_958 K F → I9 M n_956 T gc_955 G_958 K R → (se + (260 * M + 2 * S9 M gc) ≤ (260 * M + 2 * S9 M gc_955)) → (16 * ce + (256 * M + S9 M gc) ≤ (256 * M + S9 M gc_955)) → va_P (dC, dI) vwCl ws_959 H → va_D A ws_959 → va_S A s.heap H locs → lv_has ls 5 [(4, va_rf (rA9 ad o_953)), (3, .int 0), (2, .ref (ad (50 + 16 * j_2))), (0, .ref (ad 0)), (1, .ref (ad (50 + 16 * i)))] → W p l e (headSpec (.code yX9_tellUncaught cX9_tellUncaught 5 none :: gw) ({ frames := 4, cells := 1800, slots := 67000, locals := 152 })).room s m ([.ref (ad 0), .ref (ad (50 + 16 * i))] : List Value).toArray below meth c H locs ce se (MQ below (va_Qv (fun (u : (Nat → Nat) × (Nat → Nat) × (Nat → Nat) × Nat × (Nat → Int32) × (Nat → Nat → Int32) × (Nat → Option Nat) × (Nat → Nat → Int32) × (Nat → Nat → Option Nat) × (Nat → Nat → Nat → Int32)) => S9 M u.2.2.1 + gc 1 ≤ S9 M gc + u.2.2.1 1 ∧ (u.2.2.2.2.1 0).toInt = (n 0).toInt) (fun u t => ∃ w : va_W, va_P (dC, dI) vwCl w t.heap ∧ va_D A w ∧ Pic9 kc w ad u.2.1 u.2.2.1 M u.2.2.2.2.1 u.2.2.2.2.2.1 T u.2.2.2.2.2.2.2.1 K F ∧ I9 M u.2.2.2.2.1 T u.2.2.1 u.2.2.2.2.2.2.2.1 K R ∧ hpS t.heap + (260 * M + 2 * S9 M gc) ≤ (hpS s.heap) + (260 * M + 2 * S9 M u.2.2.1) ∧ 16 * t.heap.size + (256 * M + S9 M gc) ≤ 16 * s.heap.size + (256 * M + S9 M u.2.2.1) ∧ (n 0).toInt ≤ (u.2.2.2.2.1 0).toInt) A) ([.ref (ad 0), .ref (ad (50 + 16 * i))] : List Value).toArray s 1800 67000 A) (F0 m 61 ls []) := by
            intro fuel
            induction fuel with
            | zero => intro o_953 ws_959 ga_954 gc_955 n_956 f_957 G_958 ce se H locs ls hm; exact absurd hm (Nat.not_lt_zero _)
            | succ fuel_967 ih_966 =>
              intro o_953 ws_959 ga_954 gc_955 n_956 f_957 G_958 ce se H locs ls hm_960 v_961 v_962 v_963 v_964 hQ hI_965 hr1 hr2 hP hD hS hl
              obtain ⟨i1_968, i2_969, i3_970, i4_971, i5_972, i6_973, i7_974, i8_975, i9_976⟩ := id hI_965
              have q1_ := i1_968
              unfold i1 at q1_
              have hSl := S9_le i8_975 i9_976
              have hb0_ := i8_975.2.1 0 (by omega)
              have hb1_ := i8_975.2.1 1 (by omega)
              have hb2_ := i8_975.2.1 2 (by omega)
              rcases o_953 with _ | j_977
              · have hl : lv_has ls 5 [(4, .null), (3, .int 0), (2, .ref (ad (50 + 16 * j_2))), (0, .ref (ad 0)), (1, .ref (ad (50 + 16 * i)))] := hl
                refine lv_aloadN hx hb dX9_tellUncaught_61 (lv_at hl 0 rfl) ?_
                refine lv_ifnullN (tgt := 105) hx hb dX9_tellUncaught_63 (by decide) ?_
                refine W_msr2 (fun hm1 hm2 hm3 => ?_)
                have hSl := S9_le i8_975 i9_976
                have hb0_ := i8_975.2.1 0 (by omega)
                have hb1_ := i8_975.2.1 1 (by omega)
                have hb2_ := i8_975.2.1 2 (by omega)
                refine W.widen (k := 1800) (n := 67000) (by omega) (by omega) ?_
                exact W.vret hx hb hr (fun t ht hW => ⟨⟨(ad, ga_954, gc_955, M, n_956, f_957, T, G_958, K, F), rfl, (by show S9 M gc_955 + gc 1 ≤ S9 M gc + gc_955 1 ∧ (n_956 0).toInt = (n 0).toInt; omega), ws_959, by rw [ht]; exact hP, hD, hQ, ⟨i1_968, i2_969, i3_970, i4_971, i5_972, i6_973, i7_974, i8_975, i9_976⟩, by rw [ht]; show hpS H + (260 * M + 2 * S9 M gc) ≤ hpS s.heap + (260 * M + 2 * S9 M gc_955); omega, by rw [ht]; show 16 * H.size + (256 * M + S9 M gc) ≤ 16 * s.heap.size + (256 * M + S9 M gc_955); omega, by show (n 0).toInt ≤ (n_956 0).toInt; omega⟩, hS.F ht⟩) hS.2.2 dX9_tellUncaught_105
              · have hl : lv_has ls 5 [(4, .ref (ad (50 + 16 * j_977))), (3, .int 0), (2, .ref (ad (50 + 16 * j_2))), (0, .ref (ad 0)), (1, .ref (ad (50 + 16 * i)))] := hl
                have hj_977 : j_977 < M := v_961 _ rfl
                refine lv_aload hx hb dX9_tellUncaught_61 (lv_at hl 0 rfl) ?_
                refine lv_ifnull hx hb dX9_tellUncaught_63 ?_
                refine lv_aload hx hb dX9_tellUncaught_66 (lv_at hl 0 rfl) ?_
                refine va_get (D := (dC, dI)) (ci := 7) (v := .int (G_958 j_977 2)) (C := RX7) (T := TX7) (N := 15) hx hb hg gb_7 hown hK hP (50 + 16 * j_977) (hQ.b0 hj_977) rfl 2 (by decide) (hg _ gm_fieldLink_RX9_145_ErrandGuild_Run_state_I_) (fun _ h9 => h9) rfl dX9_tellUncaught_68 ?_
                refine lv_iconst (v := 4) hx hb dX9_tellUncaught_71 (by decide) ?_
                refine lv_icmp_ne (tgt := 92) hx hb dX9_tellUncaught_72 (by decide) (fun c_978 => ?_) (fun c_978 => ?_)
                · simp only [i_lt, i_le, i_eq, ti_4] at c_978
                  refine lv_aload hx hb dX9_tellUncaught_92 (lv_at hl 0 rfl) ?_
                  refine va_get (D := (dC, dI)) (ci := 7) (v := .ref (ad (50 + 16 * j_977 + 1))) (C := RX7) (T := TX7) (N := 15) hx hb hg gb_7 hown hK hP (50 + 16 * j_977) (hQ.b0 hj_977) rfl 10 (by decide) (hg _ gm_fieldLink_RX9_151_ErrandGuild_Run_kin_LErrandGuild_Kin_) (fun _ h9 => h9) rfl dX9_tellUncaught_94 ?_
                  refine va_get (D := (dC, dI)) (ci := 4) (v := va_rf (rA9 ad (K j_977 4))) (C := RX4) (T := TX4) (N := 9) hx hb hg gb_4 hown hK hP (50 + 16 * j_977 + 1) (hQ.b1 hj_977) rfl 7 (by decide) (hg _ gm_fieldLink_RX9_228_ErrandGuild_Kin_nextSibling_LErrandGuild_Run_) (fun _ h9 => h9) rfl dX9_tellUncaught_97 ?_
                  rcases eo_979 : K j_977 4 with _ | j_980
                  · refine W.eq (g2 := F0 m 100 ls [.null]) (by first | rfl | (rw [eo_979]; rfl)) ?_
                    refine lv_astoreN (lv' := [(4, .null), (3, .int 0), (2, .ref (ad (50 + 16 * j_2))), (0, .ref (ad 0)), (1, .ref (ad (50 + 16 * i)))]) hx hb dX9_tellUncaught_100 hl (by decide) rfl (fun ls hl => ?_)
                    refine lv_goto (tgt := 61) hx hb dX9_tellUncaught_102 (by decide) ?_
                    exact ih_966  none  ws_959 ga_954 gc_955 n_956 f_957 G_958 ce se H locs ls (by simp only [chM] at *; omega) (fun _ h => by cases h) (by show S9 M gc_955 + gc 1 ≤ S9 M gc + gc_955 1; omega) (by show (n_956 0).toInt = (n 0).toInt; omega) (by show (n 0).toInt ≤ (n_956 0).toInt; omega) hQ ⟨i1_968, i2_969, i3_970, i4_971, i5_972, i6_973, i7_974, i8_975, i9_976⟩ hr1 hr2 hP hD hS (lv_sub hl [0, 1, 2, 3, 4] rfl)
                  · refine W.eq (g2 := F0 m 100 ls [.ref (ad (50 + 16 * j_980))]) (by first | rfl | (rw [eo_979]; rfl)) ?_
                    have hj_980 : j_980 < M := i3_970 _ _ _ hj_977 eo_979
                    refine lv_astore (lv' := [(4, .ref (ad (50 + 16 * j_980))), (3, .int 0), (2, .ref (ad (50 + 16 * j_2))), (0, .ref (ad 0)), (1, .ref (ad (50 + 16 * i)))]) hx hb dX9_tellUncaught_100 hl (by decide) rfl (fun ls hl => ?_)
                    refine lv_goto (tgt := 61) hx hb dX9_tellUncaught_102 (by decide) ?_
                    exact ih_966  (some j_980)  ws_959 ga_954 gc_955 n_956 f_957 G_958 ce se H locs ls (by have := i4_971 _ _ hj_977 eo_979; simp only [chM] at *; omega) (fun _ h => by cases h; exact hj_980) (by show S9 M gc_955 + gc 1 ≤ S9 M gc + gc_955 1; omega) (by show (n_956 0).toInt = (n 0).toInt; omega) (by show (n 0).toInt ≤ (n_956 0).toInt; omega) hQ ⟨i1_968, i2_969, i3_970, i4_971, i5_972, i6_973, i7_974, i8_975, i9_976⟩ hr1 hr2 hP hD hS (lv_sub hl [0, 1, 2, 3, 4] rfl)
                · simp only [i_lt, i_le, i_eq, ti_4] at c_978
                  refine lv_aload hx hb dX9_tellUncaught_75 (lv_at hl 0 rfl) ?_
                  refine va_get (D := (dC, dI)) (ci := 7) (v := .ref (ad (50 + 16 * j_977 + 1))) (C := RX7) (T := TX7) (N := 15) hx hb hg gb_7 hown hK hP (50 + 16 * j_977) (hQ.b0 hj_977) rfl 10 (by decide) (hg _ gm_fieldLink_RX9_151_ErrandGuild_Run_kin_LErrandGuild_Kin_) (fun _ h9 => h9) rfl dX9_tellUncaught_77 ?_
                  refine va_get (D := (dC, dI)) (ci := 4) (v := .int (G_958 j_977 12)) (C := RX4) (T := TX4) (N := 9) hx hb hg gb_4 hown hK hP (50 + 16 * j_977 + 1) (hQ.b1 hj_977) rfl 4 (by decide) (hg _ gm_fieldLink_RX9_379_ErrandGuild_Kin_claim_I_) (fun _ h9 => h9) rfl dX9_tellUncaught_80 ?_
                  refine lv_if_ne (tgt := 92) hx hb dX9_tellUncaught_83 (by decide) (fun c_981 => ?_) (fun c_981 => ?_)
                  · simp only [i_lt, i_le, i_eq, ti_0] at c_981
                    refine lv_aload hx hb dX9_tellUncaught_92 (lv_at hl 0 rfl) ?_
                    refine va_get (D := (dC, dI)) (ci := 7) (v := .ref (ad (50 + 16 * j_977 + 1))) (C := RX7) (T := TX7) (N := 15) hx hb hg gb_7 hown hK hP (50 + 16 * j_977) (hQ.b0 hj_977) rfl 10 (by decide) (hg _ gm_fieldLink_RX9_151_ErrandGuild_Run_kin_LErrandGuild_Kin_) (fun _ h9 => h9) rfl dX9_tellUncaught_94 ?_
                    refine va_get (D := (dC, dI)) (ci := 4) (v := va_rf (rA9 ad (K j_977 4))) (C := RX4) (T := TX4) (N := 9) hx hb hg gb_4 hown hK hP (50 + 16 * j_977 + 1) (hQ.b1 hj_977) rfl 7 (by decide) (hg _ gm_fieldLink_RX9_228_ErrandGuild_Kin_nextSibling_LErrandGuild_Run_) (fun _ h9 => h9) rfl dX9_tellUncaught_97 ?_
                    rcases eo_982 : K j_977 4 with _ | j_983
                    · refine W.eq (g2 := F0 m 100 ls [.null]) (by first | rfl | (rw [eo_982]; rfl)) ?_
                      refine lv_astoreN (lv' := [(4, .null), (3, .int 0), (2, .ref (ad (50 + 16 * j_2))), (0, .ref (ad 0)), (1, .ref (ad (50 + 16 * i)))]) hx hb dX9_tellUncaught_100 hl (by decide) rfl (fun ls hl => ?_)
                      refine lv_goto (tgt := 61) hx hb dX9_tellUncaught_102 (by decide) ?_
                      exact ih_966  none  ws_959 ga_954 gc_955 n_956 f_957 G_958 ce se H locs ls (by simp only [chM] at *; omega) (fun _ h => by cases h) (by show S9 M gc_955 + gc 1 ≤ S9 M gc + gc_955 1; omega) (by show (n_956 0).toInt = (n 0).toInt; omega) (by show (n 0).toInt ≤ (n_956 0).toInt; omega) hQ ⟨i1_968, i2_969, i3_970, i4_971, i5_972, i6_973, i7_974, i8_975, i9_976⟩ hr1 hr2 hP hD hS (lv_sub hl [0, 1, 2, 3, 4] rfl)
                    · refine W.eq (g2 := F0 m 100 ls [.ref (ad (50 + 16 * j_983))]) (by first | rfl | (rw [eo_982]; rfl)) ?_
                      have hj_983 : j_983 < M := i3_970 _ _ _ hj_977 eo_982
                      refine lv_astore (lv' := [(4, .ref (ad (50 + 16 * j_983))), (3, .int 0), (2, .ref (ad (50 + 16 * j_2))), (0, .ref (ad 0)), (1, .ref (ad (50 + 16 * i)))]) hx hb dX9_tellUncaught_100 hl (by decide) rfl (fun ls hl => ?_)
                      refine lv_goto (tgt := 61) hx hb dX9_tellUncaught_102 (by decide) ?_
                      exact ih_966  (some j_983)  ws_959 ga_954 gc_955 n_956 f_957 G_958 ce se H locs ls (by have := i4_971 _ _ hj_977 eo_982; simp only [chM] at *; omega) (fun _ h => by cases h; exact hj_983) (by show S9 M gc_955 + gc 1 ≤ S9 M gc + gc_955 1; omega) (by show (n_956 0).toInt = (n 0).toInt; omega) (by show (n 0).toInt ≤ (n_956 0).toInt; omega) hQ ⟨i1_968, i2_969, i3_970, i4_971, i5_972, i6_973, i7_974, i8_975, i9_976⟩ hr1 hr2 hP hD hS (lv_sub hl [0, 1, 2, 3, 4] rfl)
                  · simp only [i_lt, i_le, i_eq, ti_0] at c_981
                    refine lv_aload_n hx hb dX9_tellUncaught_86 rfl (lv_at hl 3 rfl) ?_
                    refine lv_aload hx hb dX9_tellUncaught_87 (lv_at hl 0 rfl) ?_
                    have hFc := free_all hD hS hA
                    refine W_msr2 (fun hm1 hm2 hm3 => ?_)
                    refine va_callv (va_runV (As := [.ref (ad (50 + 16 * j_977))]) (rest := []) ⟨hx, hb, hml, hown, hg⟩ (c_X9_askHandlers l dC dI kc ws_959 ad ga_954 gc_955 M n_956 f_957 T G_958 K F R j_977 H.size (hpS H) hQ ⟨i1_968, i2_969, i3_970, i4_971, i5_972, i6_973, i7_974, i8_975, i9_976⟩ (by show j_977 < M; omega) (by show R ≤ 310000; omega)) (cwV 1 hg (gw_V gm_methodLink_RX9_388_yX9_askHandlers gm_instanceMethod_yX9_askHandlers gm_selects_RX9_yX9_askHandlers_yX9_askHandlers gm_initialized_RX9 gm_code_yX9_askHandlers_cX9_askHandlers_7_none) rfl rfl rfl (by decide +kernel) ⟨Nat.le_of_ble_eq_true rfl, Nat.le_of_ble_eq_true rfl⟩) ⟨fun a U g mk q => by obtain ⟨q0, q1, q2, qP, qK, qD, qN⟩ := q; exact ⟨q0, q1, q2, qP, va_K.moved (u := U) (U := U.calling g mk a) (Vm.Alike.refl U.vm) qK, qD, nx_same (u := U) (U := U.calling g mk a) rfl qN⟩, va_recv hK hP (ci := 9) (q0 := 0) rfl hQ.x0, fun U hU hW => ⟨rfl, by rw [hU], by rw [hU], by rw [hU]; exact hP, va_K.moved hW.alike hK, hD.weaken (fun _ _ _ _ => trivial), nx_warm hW hN⟩⟩ rfl rfl hl.1 rfl (lv_room (Nat.le_of_ble_eq_true rfl)) dX9_tellUncaught_89 ⟨by show ce + 1200 ≤ 1800; omega, by show se + 50000 ≤ 67000; omega⟩) hS (fun q _ h => hFc q h) hFc (fun u_985 t H1 locs ht hvm hw hB hz1 hk1 hS => ?_)
                    obtain ⟨ad_986, ga_987, gc_988, M_989, n_990, f_991, T_992, G_993, K_994, F_995⟩ := u_985
                    have hB : ∃ w : va_W, va_P (dC, dI) vwCl w t.heap ∧ va_D (va_A ws_959 H.size) w ∧ Pic9 kc w ad ga_987 gc_988 M n_990 f_991 T G_993 K F ∧ I9 M n_990 T gc_988 G_993 K R ∧ hpS t.heap + (260 * M + 2 * S9 M gc_955) ≤ hpS H + (260 * M + 2 * S9 M gc_988) ∧ 16 * t.heap.size + (256 * M + S9 M gc_955) ≤ 16 * H.size + (256 * M + S9 M gc_988) ∧ (n_956 0).toInt ≤ (n_990 0).toInt := hB
                    rw [ht] at hB
                    obtain ⟨ws_996, hP, hD, hQ, hI_998, hy1, hy2, hn_997⟩ := hB
                    have hD := hD.weaken (fun k q _ h => hFc _ h)
                    obtain ⟨i1_999, i2_1000, i3_1001, i4_1002, i5_1003, i6_1004, i7_1005, i8_1006, i9_1007⟩ := id hI_998
                    have q1_ := i1_999
                    unfold i1 at q1_
                    have hSl := S9_le i8_1006 i9_1007
                    have hb0_ := i8_1006.2.1 0 (by omega)
                    have hb1_ := i8_1006.2.1 1 (by omega)
                    have hb2_ := i8_1006.2.1 2 (by omega)
                    refine W_msr2 (fun hn1 hn2 hn3 => ?_)
                    obtain ⟨ce2, se2, hk3, hk4, hr1, hr2⟩ : ∃ c2 s2 : Nat, H1.size ≤ s.heap.size + c2 ∧ hpS H1 ≤ hpS s.heap + s2 ∧ s2 + (260 * M + 2 * S9 M gc) ≤ (260 * M + 2 * S9 M gc_988) ∧ 16 * c2 + (256 * M + S9 M gc) ≤ (256 * M + S9 M gc_988) := ⟨H1.size - s.heap.size, hpS H1 - hpS s.heap, by omega, by omega, by have := hS.1; omega, by have := hS.1; omega⟩
                    refine W_tightP hk3 hk4 ?_
                    clear hm1 hm2 hm3 hn1 hn2 hn3 hk3 hk4
                    clear hk1 hz1
                    generalize ce2 = ce, se2 = se at hr1 hr2 ⊢
                    generalize H1 = H at hP hS ⊢
                    have w_1008 : S9 M gc_988 + gc_955 1 ≤ S9 M gc_955 + gc_988 1 ∧ (n_990 0).toInt = (n_956 0).toInt := hw
                    refine lv_aload hx hb dX9_tellUncaught_92 (lv_at hl 0 rfl) ?_
                    refine va_get (D := (dC, dI)) (ci := 7) (v := .ref (ad (50 + 16 * j_977 + 1))) (C := RX7) (T := TX7) (N := 15) hx hb hg gb_7 hown hK hP (50 + 16 * j_977) (hQ.b0 hj_977) rfl 10 (by decide) (hg _ gm_fieldLink_RX9_151_ErrandGuild_Run_kin_LErrandGuild_Kin_) (fun _ h9 => h9) rfl dX9_tellUncaught_94 ?_
                    refine va_get (D := (dC, dI)) (ci := 4) (v := va_rf (rA9 ad (K j_977 4))) (C := RX4) (T := TX4) (N := 9) hx hb hg gb_4 hown hK hP (50 + 16 * j_977 + 1) (hQ.b1 hj_977) rfl 7 (by decide) (hg _ gm_fieldLink_RX9_228_ErrandGuild_Kin_nextSibling_LErrandGuild_Run_) (fun _ h9 => h9) rfl dX9_tellUncaught_97 ?_
                    rcases eo_1009 : K j_977 4 with _ | j_1010
                    · refine W.eq (g2 := F0 m 100 ls [.null]) (by first | rfl | (rw [eo_1009]; rfl)) ?_
                      refine lv_astoreN (lv' := [(4, .null), (3, .int 0), (2, .ref (ad (50 + 16 * j_2))), (0, .ref (ad 0)), (1, .ref (ad (50 + 16 * i)))]) hx hb dX9_tellUncaught_100 hl (by decide) rfl (fun ls hl => ?_)
                      refine lv_goto (tgt := 61) hx hb dX9_tellUncaught_102 (by decide) ?_
                      exact ih_966  none  ws_996 ga_987 gc_988 n_990 f_991 G_993 ce se H locs ls (by simp only [chM] at *; omega) (fun _ h => by cases h) (by show S9 M gc_988 + gc 1 ≤ S9 M gc + gc_988 1; omega) (by show (n_990 0).toInt = (n 0).toInt; omega) (by show (n 0).toInt ≤ (n_990 0).toInt; omega) hQ ⟨i1_999, i2_1000, i3_1001, i4_1002, i5_1003, i6_1004, i7_1005, i8_1006, i9_1007⟩ hr1 hr2 hP hD hS (lv_sub hl [0, 1, 2, 3, 4] rfl)
                    · refine W.eq (g2 := F0 m 100 ls [.ref (ad (50 + 16 * j_1010))]) (by first | rfl | (rw [eo_1009]; rfl)) ?_
                      have hj_1010 : j_1010 < M := i3_1001 _ _ _ hj_977 eo_1009
                      refine lv_astore (lv' := [(4, .ref (ad (50 + 16 * j_1010))), (3, .int 0), (2, .ref (ad (50 + 16 * j_2))), (0, .ref (ad 0)), (1, .ref (ad (50 + 16 * i)))]) hx hb dX9_tellUncaught_100 hl (by decide) rfl (fun ls hl => ?_)
                      refine lv_goto (tgt := 61) hx hb dX9_tellUncaught_102 (by decide) ?_
                      exact ih_966  (some j_1010)  ws_996 ga_987 gc_988 n_990 f_991 G_993 ce se H locs ls (by have := i4_1002 _ _ hj_977 eo_1009; simp only [chM] at *; omega) (fun _ h => by cases h; exact hj_1010) (by show S9 M gc_988 + gc 1 ≤ S9 M gc + gc_988 1; omega) (by show (n_990 0).toInt = (n 0).toInt; omega) (by show (n 0).toInt ≤ (n_990 0).toInt; omega) hQ ⟨i1_999, i2_1000, i3_1001, i4_1002, i5_1003, i6_1004, i7_1005, i8_1006, i9_1007⟩ hr1 hr2 hP hD hS (lv_sub hl [0, 1, 2, 3, 4] rfl)
          exact L61 _  (some j_894)  ws ga gc n f G ce se _ _ _ (Nat.lt_succ_self _) (fun _ h => by cases h; exact hj_894) (by show S9 M gc + gc 1 ≤ S9 M gc + gc 1; omega) (by show (n 0).toInt = (n 0).toInt; omega) (by show (n 0).toInt ≤ (n 0).toInt; omega) hQ ⟨h_i1, h_i2, h_i3, h_i4, h_i5, h_i6, h_i7, h_i8, h_i9⟩ hr1 hr2 hP hD hS (lv_sub hl [0, 1, 2, 3, 4] rfl)
