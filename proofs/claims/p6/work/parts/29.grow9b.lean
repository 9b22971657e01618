set_option maxHeartbeats 8000000 in
set_option maxRecDepth 100000 in
theorem c_X5_add_r (l : Launch) (dC : Nat → ClassId) (dI : Nat → Nat → Nat) (kc : Nat → ClassId) (ws : va_W) (ad : Nat → Nat) (ga : Nat → Nat) (gc : Nat → Nat) (M : Nat) (n : Nat → Int32) (f : Nat → Nat → Int32) (T : Nat → Option Nat) (G : Nat → Nat → Int32) (K : Nat → Nat → Option Nat) (F : Nat → Nat → Nat → Int32) (R : Nat) (v1 : Int32) (v2 : Int32) (v3 : Int32) (v4 : Int32) (sz hz : Nat) (hQ : Pic9 kc ws ad ga gc M n f T G K F) (hI : I9 M n T gc G K R) (hR : R ≤ 310000) : Met l yX5_add (.code yX5_add cX5_add 5 none :: gw) ({ frames := 2, cells := 600, slots := 33000, locals := 102 }) (va_Pc [.ref (ad 42), .int v1, .int v2, .int v3, .int v4] (fun U => U.heap.size = sz ∧ hpS U.heap = hz ∧ va_P (dC, dI) vwCl ws U.heap ∧ va_K (dC, dI) vwCl (t9 kc) U ∧ va_D (fun _ => True) ws ∧ nx U)) (va_Qv (fun (u : (Nat → Nat) × (Nat → Nat) × (Nat → Nat) × Nat × (Nat → Int32) × (Nat → Nat → Int32) × (Nat → Option Nat) × (Nat → Nat → Int32) × (Nat → Nat → Option Nat) × (Nat → Nat → Nat → Int32)) => S9 M u.2.2.1 + gc 0 ≤ S9 M gc + u.2.2.1 0 ∧ (u.2.2.2.2.1 0).toInt = (n 0).toInt) (fun u t => ∃ w : va_W, va_P (dC, dI) vwCl w t.heap ∧ va_D (va_A ws sz) w ∧ Pic9 kc w ad u.2.1 u.2.2.1 M u.2.2.2.2.1 u.2.2.2.2.2.1 T G K F ∧ I9 M u.2.2.2.2.1 T u.2.2.1 G K R ∧ hpS t.heap + (260 * M + 2 * S9 M gc) ≤ hz + (260 * M + 2 * S9 M u.2.2.1) ∧ 16 * t.heap.size + (256 * M + S9 M gc) ≤ 16 * sz + (256 * M + S9 M u.2.2.1) ∧ (n 0).toInt ≤ (u.2.2.2.2.1 0).toInt) (va_A ws sz)) 600 33000 (va_A ws sz) := by
  refine Met.ofW (cc := cX5_add) (maxL := 5) (ret := none) (by decide) rfl ?_
  intro p e s m args below meth c s₁ B hml hv
  obtain ⟨rfl, hsz, rfl, hP, hK, hD0, hN⟩ := hv
  have hx := B.exec
  have hb := B.bytes
  have hr := B.returns
  have hts := atoms_spec (ws := .code yX5_add cX5_add 5 none :: gw) B.pre
  have hg : ∀ w ∈ gw, w.before _ s = true := fun w h => hts w (List.mem_cons_of_mem _ h)
  have hown : s.vm.findClass RX5 = some m.cls := findClass_of_methodNamed B.named
  have hlocks := B.notSynchronized
  subst hsz
  have hD := hD0.self (sz := s.heap.size)
  generalize hAe : va_A ws s.heap.size = A at hD ⊢
  have hA : ∀ q : Nat, s.heap.size ≤ q → A q := fun q h => by rw [← hAe]; exact Or.inr h
  clear hAe
  have hS : va_S A s.heap s.heap [] := va_S.rf
  have hl := lv_entry ([.ref (ad 42), .int v1, .int v2, .int v3, .int v4]) (n := 5) (Nat.le_of_ble_eq_true rfl)
  rw [lg_entry_eq]
  generalize (lg_sl ([.ref (ad 42), .int v1, .int v2, .int v3, .int v4]) ++ List.replicate (5 - (lg_sl ([.ref (ad 42), .int v1, .int v2, .int v3, .int v4])).length) Slot.unset).toArray = ls at hl ⊢
  have hl : lv_has ls 5 [(0, .ref (ad 42)), (1, .int v1), (2, .int v2), (3, .int v3), (4, .int v4)] := hl
  obtain ⟨h_i1, h_i2, h_i3, h_i4, h_i5, h_i6, h_i7, h_i8, h_i9⟩ := id hI
  have q1_ := h_i1
  unfold i1 at q1_
  have hSl0 := S9_le h_i8 h_i9
  have hb0_ := h_i8.2.1 0 (by omega)
  have hb1_ := h_i8.2.1 1 (by omega)
  have hb2_ := h_i8.2.1 2 (by omega)
  have hr1 : 0 + (260 * M + 2 * S9 M gc) ≤ (260 * M + 2 * S9 M gc) := by omega
  have hr2 : 16 * 0 + (256 * M + S9 M gc) ≤ (256 * M + S9 M gc) := by omega
  obtain ⟨ce, hce⟩ : ∃ q : Nat, q = 0 := ⟨_, rfl⟩
  obtain ⟨se, hse⟩ : ∃ q : Nat, q = 0 := ⟨_, rfl⟩
  rw [← hse] at hr1
  have hr2 : 16 * ce + (256 * M + S9 M gc) ≤ (256 * M + S9 M gc) := by omega
  refine W.widen (k := ce) (n := se) (Nat.zero_le _) (Nat.zero_le _) ?_
  refine lv_aload_n hx hb dX5_add_0 rfl (lv_at hl 0 rfl) ?_
  refine va_get (D := (dC, dI)) (ci := 5) (v := .ref (ad 43)) (C := RX5) (T := TX5) (N := 2) hx hb hg gb_5 hown hK hP 42 hQ.x42 rfl 1 (by decide) (hg _ gm_fieldLink_RX5_20_ErrandGuild_Ledger_cells_LErrandGuild_Cells_) (fun _ h9 => h9) rfl dX5_add_1 ?_
  refine lv_iload_n hx hb dX5_add_4 rfl (lv_at hl 1 rfl) ?_
  have hgm_ := h_i8.1 0 (by omega)
  have hgn_ := h_i8.2.2.2
  have hCc : ([43, 44] : List Nat).map (fun i => ws[i]?) = ([(ad 43, .inr (0, [.int (n 15), .ref (ga 0), .int (n 16)])), (ga 0, .inl (kc 0, gc 0, .inl (f 29)))] : va_W).map some := mp2 hQ.x43 hQ.x44
  have hNd : ([43, 44] : List Nat).Nodup := (by decide)
  have hPc := hP.pick [43, 44] hCc
  have hDc := hD.pick [43, 44] hNd hCc
  have hKc := hK.sub (tys' := [((kc 0), .int)]) [0] rfl
  have hFc := va_free (wc := [(ad 43, .inr (0, [.int (n 15), .ref (ga 0), .int (n 16)])), (ga 0, .inl (kc 0, gc 0, .inl (f 29)))]) hD hS hA [43, 44] hCc
  refine W_msr2 (fun hm1 hm2 hm3 => ?_)
  refine va_callv (va_runV (As := [.int v1]) (rest := []) ⟨hx, hb, hml, hown, hg⟩ (c_X0_add l dC dI (ad 43) (ga 0) (gc 0) (kc 0) (f 29) (n 15) (n 16) v1 (hpS s.heap) s.heap.size (by show 16 ≤ (gc 0) ∧ (gc 0) ≤ 1000000; omega) (by show (n 15).toInt ≤ 1048576; omega)) (cwV 1 hg (gw_V gm_methodLink_RX5_27_yX0_add gm_instanceMethod_yX0_add gm_selects_RX0_yX0_add_yX0_add gm_initialized_RX0 gm_code_yX0_add_cX0_add_3_none) rfl rfl rfl (by decide +kernel) ⟨Nat.le_of_ble_eq_true rfl, Nat.le_of_ble_eq_true rfl⟩) ⟨fun a U g mk q => by obtain ⟨q0, q1, q2, qP, qK, qD, qN⟩ := q; exact ⟨q0, q1, q2, qP, va_K.moved (u := U) (U := U.calling g mk a) (Vm.Alike.refl U.vm) qK, qD, nx_same (u := U) (U := U.calling g mk a) rfl qN⟩, va_recv hK hP (ci := 0) (q0 := 43) rfl hQ.x43, fun U hU hW => ⟨rfl, by rw [hU], by rw [hU], by rw [hU]; exact hPc, va_K.moved hW.alike hKc, hDc.weaken (fun _ _ _ _ => trivial), nx_warm hW hN⟩⟩ rfl rfl hl.1 rfl (lv_room (Nat.le_of_ble_eq_true rfl)) dX5_add_5 ⟨by show ce + 1 ≤ 600; omega, by show se + (2 * (gc 0)) ≤ 33000; omega⟩) hS (fun q _ h => hFc q h) hFc (fun u_2 t H1 locs ht hvm hw hB hz1 hk1 hS => ?_)
  obtain ⟨ad_3, ac_4, af_5, ag_6⟩ := u_2
  obtain ⟨hP1, hD1, hK1, hy1, hy2⟩ := hB
  rw [ht] at hP1 hy1 hy2
  have hy1 : hpS H1 ≤ hpS s.heap + (2 * ad_3 1 - 2 * (gc 0)) := hy1
  have hy2 : 16 * H1.size ≤ 16 * s.heap.size + (ad_3 1 - (gc 0)) := hy2
  have hK1 := va_K.moved hvm.symm hK1
  have hK1 : va_K (dC, dI) vwCl [((ac_4 0), .int)] s := hK1
  have kA_7 : (ac_4 0) = kc 0 := va_K.one hK1 (hK.sub (tys' := [(kc 0, .int)]) [0] rfl)
  have hP1 : va_P (dC, dI) vwCl [((ad 43), .inr (0, [.int (n 15), .ref (ad_3 0), .int (af_5 1 0)])), ((ad_3 0), .inl ((ac_4 0), (ad_3 1), .inl (af_5 0)))] H1 := hP1
  have hD1 : va_D _ [((ad 43), .inr (0, [.int (n 15), .ref (ad_3 0), .int (af_5 1 0)])), ((ad_3 0), .inl ((ac_4 0), (ad_3 1), .inl (af_5 0)))] := hD1
  rw [kA_7] at hP1 hD1
  obtain ⟨hP, hD⟩ := va_repl (w1 := [((ad 43), .inr (0, [.int (n 15), .ref (ad_3 0), .int (af_5 1 0)])), ((ad_3 0), .inl (kc 0, (ad_3 1), .inl (af_5 0)))]) hP hD [43, 44] hCc hNd rfl hk1 hFc hP1 hD1
  have hw_8 : (ad_3 1 = (gc 0) ∨ (ad_3 1 = 2 * (gc 0) ∧ ((gc 0) : Int) ≤ (n 16).toInt ∧ (n 16).toInt < (n 15).toInt)) ∧ ((af_5 1 0) = (n 16) ∨ (af_5 1 0).toInt = (n 16).toInt + 1) := hw
  obtain ⟨ws_13, ga_9, gc_10, n_11, f_12, ega_9, egc_10, en_11, ef_12, hP, hD, hQ⟩ : ∃ (ws_13 : va_W) (ga_9 : Nat → Nat) (gc_10 : Nat → Nat) (n_11 : Nat → Int32) (f_12 : Nat → Nat → Int32), ga_9 = u1 ga 0 (ad_3 0) ∧ gc_10 = u1 gc 0 (ad_3 1) ∧ n_11 = u1 n 16 (af_5 1 0) ∧ f_12 = u1 f 29 (af_5 0) ∧ va_P (dC, dI) vwCl ws_13 H1 ∧ va_D A ws_13 ∧ Pic9 kc ws_13 ad ga_9 gc_10 M n_11 f_12 T G K F := ⟨_, _, _, _, _, rfl, rfl, rfl, rfl, hP, hD, hQ.gr0 (ad_3 0) (ad_3 1) (af_5 1 0) (af_5 0)⟩
  have hgu := S9_up M gc (ad_3 1) (q := 0) (by omega)
  rw [← egc_10] at hgu
  have hg16 := h_i8.1 0 (by omega)
  have hg17 := h_i8.2.1 0 (by omega)
  have hg18 := h_i8.2.2.2
  have hgq : gc_10 0 = (ad_3 1) := by rw [egc_10, u1_eq]
  have i1_14 : i1 M n_11 := by rw [en_11]; exact i1.pn h_i1 _ (by decide)
  have i5_15 : i5 n_11 K := by rw [en_11]; exact i5.pn h_i5 _ (by decide)
  have i6_16 : i6 n_11 T G := by rw [en_11]; exact i6.pn h_i6 _ (by decide)
  have i7_17 : i7 n_11 G := by rw [en_11]; exact i7.pn h_i7 _ (by decide)
  have i8_18 : i8 M n_11 gc_10 G := by rw [en_11, egc_10]; exact i8.gr (i8.pn h_i8 _ (by decide)) (by omega) (by omega) (fun _ => by omega)
  have i9_19 : i9 M gc_10 G R := by rw [egc_10]; exact i9.gr h_i9 _ (by decide)
  have hn_20 : n_11 0 = n 0 := by rw [en_11, u1_ne _ _ (by decide)]
  have thn_20 := congrArg Int32.toInt hn_20
  have hSl := S9_le i8_18 i9_19
  have hb0_ := i8_18.2.1 0 (by omega)
  have hb1_ := i8_18.2.1 1 (by omega)
  have hb2_ := i8_18.2.1 2 (by omega)
  refine W_msr2 (fun hn1 hn2 hn3 => ?_)
  obtain ⟨ce2, se2, hk3, hk4, hr1, hr2⟩ : ∃ c2 s2 : Nat, H1.size ≤ s.heap.size + c2 ∧ hpS H1 ≤ hpS s.heap + s2 ∧ s2 + (260 * M + 2 * S9 M gc) ≤ (260 * M + 2 * S9 M gc_10) ∧ 16 * c2 + (256 * M + S9 M gc) ≤ (256 * M + S9 M gc_10) := ⟨H1.size - s.heap.size, hpS H1 - hpS s.heap, by omega, by omega, by have := hS.1; omega, by have := hS.1; omega⟩
  refine W_tightP hk3 hk4 ?_
  clear hm1 hm2 hm3 hn1 hn2 hn3 hk3 hk4 hk1 hz1 hy1 hy2
  generalize ce2 = ce, se2 = se at hr1 hr2 ⊢
  generalize H1 = H at hP hS ⊢
  refine lv_aload_n hx hb dX5_add_8 rfl (lv_at hl 0 rfl) ?_
  refine va_get (D := (dC, dI)) (ci := 5) (v := .ref (ad 43)) (C := RX5) (T := TX5) (N := 2) hx hb hg gb_5 hown hK hP 42 hQ.x42 rfl 1 (by decide) (hg _ gm_fieldLink_RX5_20_ErrandGuild_Ledger_cells_LErrandGuild_Cells_) (fun _ h9 => h9) rfl dX5_add_9 ?_
  refine lv_iload_n hx hb dX5_add_12 rfl (lv_at hl 2 rfl) ?_
  have hgm_ := i8_18.1 0 (by omega)
  have hgn_ := i8_18.2.2.2
  have hCc : ([43, 44] : List Nat).map (fun i => ws_13[i]?) = ([(ad 43, .inr (0, [.int (n_11 15), .ref (ga_9 0), .int (n_11 16)])), (ga_9 0, .inl (kc 0, gc_10 0, .inl (f_12 29)))] : va_W).map some := mp2 hQ.x43 hQ.x44
  have hNd : ([43, 44] : List Nat).Nodup := (by decide)
  have hPc := hP.pick [43, 44] hCc
  have hDc := hD.pick [43, 44] hNd hCc
  have hKc := hK.sub (tys' := [((kc 0), .int)]) [0] rfl
  have hFc := va_free (wc := [(ad 43, .inr (0, [.int (n_11 15), .ref (ga_9 0), .int (n_11 16)])), (ga_9 0, .inl (kc 0, gc_10 0, .inl (f_12 29)))]) hD hS hA [43, 44] hCc
  refine W_msr2 (fun hm1 hm2 hm3 => ?_)
  refine va_callv (va_runV (As := [.int v2]) (rest := []) ⟨hx, hb, hml, hown, hg⟩ (c_X0_add l dC dI (ad 43) (ga_9 0) (gc_10 0) (kc 0) (f_12 29) (n_11 15) (n_11 16) v2 (hpS H) H.size (by show 16 ≤ (gc_10 0) ∧ (gc_10 0) ≤ 1000000; omega) (by show (n_11 15).toInt ≤ 1048576; omega)) (cwV 1 hg (gw_V gm_methodLink_RX5_27_yX0_add gm_instanceMethod_yX0_add gm_selects_RX0_yX0_add_yX0_add gm_initialized_RX0 gm_code_yX0_add_cX0_add_3_none) rfl rfl rfl (by decide +kernel) ⟨Nat.le_of_ble_eq_true rfl, Nat.le_of_ble_eq_true rfl⟩) ⟨fun a U g mk q => by obtain ⟨q0, q1, q2, qP, qK, qD, qN⟩ := q; exact ⟨q0, q1, q2, qP, va_K.moved (u := U) (U := U.calling g mk a) (Vm.Alike.refl U.vm) qK, qD, nx_same (u := U) (U := U.calling g mk a) rfl qN⟩, va_recv hK hP (ci := 0) (q0 := 43) rfl hQ.x43, fun U hU hW => ⟨rfl, by rw [hU], by rw [hU], by rw [hU]; exact hPc, va_K.moved hW.alike hKc, hDc.weaken (fun _ _ _ _ => trivial), nx_warm hW hN⟩⟩ rfl rfl hl.1 rfl (lv_room (Nat.le_of_ble_eq_true rfl)) dX5_add_13 ⟨by show ce + 1 ≤ 600; omega, by show se + (2 * (gc_10 0)) ≤ 33000; omega⟩) hS (fun q _ h => hFc q h) hFc (fun u_22 t H1 locs ht hvm hw hB hz1 hk1 hS => ?_)
  obtain ⟨ad_23, ac_24, af_25, ag_26⟩ := u_22
  obtain ⟨hP1, hD1, hK1, hy1, hy2⟩ := hB
  rw [ht] at hP1 hy1 hy2
  have hy1 : hpS H1 ≤ hpS H + (2 * ad_23 1 - 2 * (gc_10 0)) := hy1
  have hy2 : 16 * H1.size ≤ 16 * H.size + (ad_23 1 - (gc_10 0)) := hy2
  have hK1 := va_K.moved hvm.symm hK1
  have hK1 : va_K (dC, dI) vwCl [((ac_24 0), .int)] s := hK1
  have kA_27 : (ac_24 0) = kc 0 := va_K.one hK1 (hK.sub (tys' := [(kc 0, .int)]) [0] rfl)
  have hP1 : va_P (dC, dI) vwCl [((ad 43), .inr (0, [.int (n_11 15), .ref (ad_23 0), .int (af_25 1 0)])), ((ad_23 0), .inl ((ac_24 0), (ad_23 1), .inl (af_25 0)))] H1 := hP1
  have hD1 : va_D _ [((ad 43), .inr (0, [.int (n_11 15), .ref (ad_23 0), .int (af_25 1 0)])), ((ad_23 0), .inl ((ac_24 0), (ad_23 1), .inl (af_25 0)))] := hD1
  rw [kA_27] at hP1 hD1
  obtain ⟨hP, hD⟩ := va_repl (w1 := [((ad 43), .inr (0, [.int (n_11 15), .ref (ad_23 0), .int (af_25 1 0)])), ((ad_23 0), .inl (kc 0, (ad_23 1), .inl (af_25 0)))]) hP hD [43, 44] hCc hNd rfl hk1 hFc hP1 hD1
  have hw_28 : (ad_23 1 = (gc_10 0) ∨ (ad_23 1 = 2 * (gc_10 0) ∧ ((gc_10 0) : Int) ≤ (n_11 16).toInt ∧ (n_11 16).toInt < (n_11 15).toInt)) ∧ ((af_25 1 0) = (n_11 16) ∨ (af_25 1 0).toInt = (n_11 16).toInt + 1) := hw
  obtain ⟨ws_33, ga_29, gc_30, n_31, f_32, ega_29, egc_30, en_31, ef_32, hP, hD, hQ⟩ : ∃ (ws_33 : va_W) (ga_29 : Nat → Nat) (gc_30 : Nat → Nat) (n_31 : Nat → Int32) (f_32 : Nat → Nat → Int32), ga_29 = u1 ga_9 0 (ad_23 0) ∧ gc_30 = u1 gc_10 0 (ad_23 1) ∧ n_31 = u1 n_11 16 (af_25 1 0) ∧ f_32 = u1 f_12 29 (af_25 0) ∧ va_P (dC, dI) vwCl ws_33 H1 ∧ va_D A ws_33 ∧ Pic9 kc ws_33 ad ga_29 gc_30 M n_31 f_32 T G K F := ⟨_, _, _, _, _, rfl, rfl, rfl, rfl, hP, hD, hQ.gr0 (ad_23 0) (ad_23 1) (af_25 1 0) (af_25 0)⟩
  have hgu := S9_up M gc_10 (ad_23 1) (q := 0) (by omega)
  rw [← egc_30] at hgu
  have hg16 := i8_18.1 0 (by omega)
  have hg17 := i8_18.2.1 0 (by omega)
  have hg18 := i8_18.2.2.2
  have hgq : gc_30 0 = (ad_23 1) := by rw [egc_30, u1_eq]
  have i1_34 : i1 M n_31 := by rw [en_31]; exact i1.pn i1_14 _ (by decide)
  have i5_35 : i5 n_31 K := by rw [en_31]; exact i5.pn i5_15 _ (by decide)
  have i6_36 : i6 n_31 T G := by rw [en_31]; exact i6.pn i6_16 _ (by decide)
  have i7_37 : i7 n_31 G := by rw [en_31]; exact i7.pn i7_17 _ (by decide)
  have i8_38 : i8 M n_31 gc_30 G := by rw [en_31, egc_30]; exact i8.gr (i8.pn i8_18 _ (by decide)) (by omega) (by omega) (fun _ => by omega)
  have i9_39 : i9 M gc_30 G R := by rw [egc_30]; exact i9.gr i9_19 _ (by decide)
  have hn_40 : n_31 0 = n_11 0 := by rw [en_31, u1_ne _ _ (by decide)]
  have thn_40 := congrArg Int32.toInt hn_40
  have hSl := S9_le i8_38 i9_39
  have hb0_ := i8_38.2.1 0 (by omega)
  have hb1_ := i8_38.2.1 1 (by omega)
  have hb2_ := i8_38.2.1 2 (by omega)
  refine W_msr2 (fun hn1 hn2 hn3 => ?_)
  obtain ⟨ce2, se2, hk3, hk4, hr1, hr2⟩ : ∃ c2 s2 : Nat, H1.size ≤ s.heap.size + c2 ∧ hpS H1 ≤ hpS s.heap + s2 ∧ s2 + (260 * M + 2 * S9 M gc) ≤ (260 * M + 2 * S9 M gc_30) ∧ 16 * c2 + (256 * M + S9 M gc) ≤ (256 * M + S9 M gc_30) := ⟨H1.size - s.heap.size, hpS H1 - hpS s.heap, by omega, by omega, by have := hS.1; omega, by have := hS.1; omega⟩
  refine W_tightP hk3 hk4 ?_
  clear hm1 hm2 hm3 hn1 hn2 hn3 hk3 hk4 hk1 hz1 hy1 hy2
  generalize ce2 = ce, se2 = se at hr1 hr2 ⊢
  generalize H1 = H at hP hS ⊢
  refine lv_aload_n hx hb dX5_add_16 rfl (lv_at hl 0 rfl) ?_
  refine va_get (D := (dC, dI)) (ci := 5) (v := .ref (ad 43)) (C := RX5) (T := TX5) (N := 2) hx hb hg gb_5 hown hK hP 42 hQ.x42 rfl 1 (by decide) (hg _ gm_fieldLink_RX5_20_ErrandGuild_Ledger_cells_LErrandGuild_Cells_) (fun _ h9 => h9) rfl dX5_add_17 ?_
  refine lv_iload_n hx hb dX5_add_20 rfl (lv_at hl 3 rfl) ?_
  have hgm_ := i8_38.1 0 (by omega)
  have hgn_ := i8_38.2.2.2
  have hCc : ([43, 44] : List Nat).map (fun i => ws_33[i]?) = ([(ad 43, .inr (0, [.int (n_31 15), .ref (ga_29 0), .int (n_31 16)])), (ga_29 0, .inl (kc 0, gc_30 0, .inl (f_32 29)))] : va_W).map some := mp2 hQ.x43 hQ.x44
  have hNd : ([43, 44] : List Nat).Nodup := (by decide)
  have hPc := hP.pick [43, 44] hCc
  have hDc := hD.pick [43, 44] hNd hCc
  have hKc := hK.sub (tys' := [((kc 0), .int)]) [0] rfl
  have hFc := va_free (wc := [(ad 43, .inr (0, [.int (n_31 15), .ref (ga_29 0), .int (n_31 16)])), (ga_29 0, .inl (kc 0, gc_30 0, .inl (f_32 29)))]) hD hS hA [43, 44] hCc
  refine W_msr2 (fun hm1 hm2 hm3 => ?_)
  refine va_callv (va_runV (As := [.int v3]) (rest := []) ⟨hx, hb, hml, hown, hg⟩ (c_X0_add l dC dI (ad 43) (ga_29 0) (gc_30 0) (kc 0) (f_32 29) (n_31 15) (n_31 16) v3 (hpS H) H.size (by show 16 ≤ (gc_30 0) ∧ (gc_30 0) ≤ 1000000; omega) (by show (n_31 15).toInt ≤ 1048576; omega)) (cwV 1 hg (gw_V gm_methodLink_RX5_27_yX0_add gm_instanceMethod_yX0_add gm_selects_RX0_yX0_add_yX0_add gm_initialized_RX0 gm_code_yX0_add_cX0_add_3_none) rfl rfl rfl (by decide +kernel) ⟨Nat.le_of_ble_eq_true rfl, Nat.le_of_ble_eq_true rfl⟩) ⟨fun a U g mk q => by obtain ⟨q0, q1, q2, qP, qK, qD, qN⟩ := q; exact ⟨q0, q1, q2, qP, va_K.moved (u := U) (U := U.calling g mk a) (Vm.Alike.refl U.vm) qK, qD, nx_same (u := U) (U := U.calling g mk a) rfl qN⟩, va_recv hK hP (ci := 0) (q0 := 43) rfl hQ.x43, fun U hU hW => ⟨rfl, by rw [hU], by rw [hU], by rw [hU]; exact hPc, va_K.moved hW.alike hKc, hDc.weaken (fun _ _ _ _ => trivial), nx_warm hW hN⟩⟩ rfl rfl hl.1 rfl (lv_room (Nat.le_of_ble_eq_true rfl)) dX5_add_21 ⟨by show ce + 1 ≤ 600; omega, by show se + (2 * (gc_30 0)) ≤ 33000; omega⟩) hS (fun q _ h => hFc q h) hFc (fun u_42 t H1 locs ht hvm hw hB hz1 hk1 hS => ?_)
  obtain ⟨ad_43, ac_44, af_45, ag_46⟩ := u_42
  obtain ⟨hP1, hD1, hK1, hy1, hy2⟩ := hB
  rw [ht] at hP1 hy1 hy2
  have hy1 : hpS H1 ≤ hpS H + (2 * ad_43 1 - 2 * (gc_30 0)) := hy1
  have hy2 : 16 * H1.size ≤ 16 * H.size + (ad_43 1 - (gc_30 0)) := hy2
  have hK1 := va_K.moved hvm.symm hK1
  have hK1 : va_K (dC, dI) vwCl [((ac_44 0), .int)] s := hK1
  have kA_47 : (ac_44 0) = kc 0 := va_K.one hK1 (hK.sub (tys' := [(kc 0, .int)]) [0] rfl)
  have hP1 : va_P (dC, dI) vwCl [((ad 43), .inr (0, [.int (n_31 15), .ref (ad_43 0), .int (af_45 1 0)])), ((ad_43 0), .inl ((ac_44 0), (ad_43 1), .inl (af_45 0)))] H1 := hP1
  have hD1 : va_D _ [((ad 43), .inr (0, [.int (n_31 15), .ref (ad_43 0), .int (af_45 1 0)])), ((ad_43 0), .inl ((ac_44 0), (ad_43 1), .inl (af_45 0)))] := hD1
  rw [kA_47] at hP1 hD1
  obtain ⟨hP, hD⟩ := va_repl (w1 := [((ad 43), .inr (0, [.int (n_31 15), .ref (ad_43 0), .int (af_45 1 0)])), ((ad_43 0), .inl (kc 0, (ad_43 1), .inl (af_45 0)))]) hP hD [43, 44] hCc hNd rfl hk1 hFc hP1 hD1
  have hw_48 : (ad_43 1 = (gc_30 0) ∨ (ad_43 1 = 2 * (gc_30 0) ∧ ((gc_30 0) : Int) ≤ (n_31 16).toInt ∧ (n_31 16).toInt < (n_31 15).toInt)) ∧ ((af_45 1 0) = (n_31 16) ∨ (af_45 1 0).toInt = (n_31 16).toInt + 1) := hw
  obtain ⟨ws_53, ga_49, gc_50, n_51, f_52, ega_49, egc_50, en_51, ef_52, hP, hD, hQ⟩ : ∃ (ws_53 : va_W) (ga_49 : Nat → Nat) (gc_50 : Nat → Nat) (n_51 : Nat → Int32) (f_52 : Nat → Nat → Int32), ga_49 = u1 ga_29 0 (ad_43 0) ∧ gc_50 = u1 gc_30 0 (ad_43 1) ∧ n_51 = u1 n_31 16 (af_45 1 0) ∧ f_52 = u1 f_32 29 (af_45 0) ∧ va_P (dC, dI) vwCl ws_53 H1 ∧ va_D A ws_53 ∧ Pic9 kc ws_53 ad ga_49 gc_50 M n_51 f_52 T G K F := ⟨_, _, _, _, _, rfl, rfl, rfl, rfl, hP, hD, hQ.gr0 (ad_43 0) (ad_43 1) (af_45 1 0) (af_45 0)⟩
  have hgu := S9_up M gc_30 (ad_43 1) (q := 0) (by omega)
  rw [← egc_50] at hgu
  have hg16 := i8_38.1 0 (by omega)
  have hg17 := i8_38.2.1 0 (by omega)
  have hg18 := i8_38.2.2.2
  have hgq : gc_50 0 = (ad_43 1) := by rw [egc_50, u1_eq]
  have i1_54 : i1 M n_51 := by rw [en_51]; exact i1.pn i1_34 _ (by decide)
  have i5_55 : i5 n_51 K := by rw [en_51]; exact i5.pn i5_35 _ (by decide)
  have i6_56 : i6 n_51 T G := by rw [en_51]; exact i6.pn i6_36 _ (by decide)
  have i7_57 : i7 n_51 G := by rw [en_51]; exact i7.pn i7_37 _ (by decide)
  have i8_58 : i8 M n_51 gc_50 G := by rw [en_51, egc_50]; exact i8.gr (i8.pn i8_38 _ (by decide)) (by omega) (by omega) (fun _ => by omega)
  have i9_59 : i9 M gc_50 G R := by rw [egc_50]; exact i9.gr i9_39 _ (by decide)
  have hn_60 : n_51 0 = n_31 0 := by rw [en_51, u1_ne _ _ (by decide)]
  have thn_60 := congrArg Int32.toInt hn_60
  have hSl := S9_le i8_58 i9_59
  have hb0_ := i8_58.2.1 0 (by omega)
  have hb1_ := i8_58.2.1 1 (by omega)
  have hb2_ := i8_58.2.1 2 (by omega)
  refine W_msr2 (fun hn1 hn2 hn3 => ?_)
  obtain ⟨ce2, se2, hk3, hk4, hr1, hr2⟩ : ∃ c2 s2 : Nat, H1.size ≤ s.heap.size + c2 ∧ hpS H1 ≤ hpS s.heap + s2 ∧ s2 + (260 * M + 2 * S9 M gc) ≤ (260 * M + 2 * S9 M gc_50) ∧ 16 * c2 + (256 * M + S9 M gc) ≤ (256 * M + S9 M gc_50) := ⟨H1.size - s.heap.size, hpS H1 - hpS s.heap, by omega, by omega, by have := hS.1; omega, by have := hS.1; omega⟩
  refine W_tightP hk3 hk4 ?_
  clear hm1 hm2 hm3 hn1 hn2 hn3 hk3 hk4 hk1 hz1 hy1 hy2
  generalize ce2 = ce, se2 = se at hr1 hr2 ⊢
  generalize H1 = H at hP hS ⊢
  refine lv_aload_n hx hb dX5_add_24 rfl (lv_at hl 0 rfl) ?_
  refine va_get (D := (dC, dI)) (ci := 5) (v := .ref (ad 43)) (C := RX5) (T := TX5) (N := 2) hx hb hg gb_5 hown hK hP 42 hQ.x42 rfl 1 (by decide) (hg _ gm_fieldLink_RX5_20_ErrandGuild_Ledger_cells_LErrandGuild_Cells_) (fun _ h9 => h9) rfl dX5_add_25 ?_
  refine lv_iload hx hb dX5_add_28 (lv_at hl 4 rfl) ?_
  have hgm_ := i8_58.1 0 (by omega)
  have hgn_ := i8_58.2.2.2
  have hCc : ([43, 44] : List Nat).map (fun i => ws_53[i]?) = ([(ad 43, .inr (0, [.int (n_51 15), .ref (ga_49 0), .int (n_51 16)])), (ga_49 0, .inl (kc 0, gc_50 0, .inl (f_52 29)))] : va_W).map some := mp2 hQ.x43 hQ.x44
  have hNd : ([43, 44] : List Nat).Nodup := (by decide)
  have hPc := hP.pick [43, 44] hCc
  have hDc := hD.pick [43, 44] hNd hCc
  have hKc := hK.sub (tys' := [((kc 0), .int)]) [0] rfl
  have hFc := va_free (wc := [(ad 43, .inr (0, [.int (n_51 15), .ref (ga_49 0), .int (n_51 16)])), (ga_49 0, .inl (kc 0, gc_50 0, .inl (f_52 29)))]) hD hS hA [43, 44] hCc
  refine W_msr2 (fun hm1 hm2 hm3 => ?_)
  refine va_callv (va_runV (As := [.int v4]) (rest := []) ⟨hx, hb, hml, hown, hg⟩ (c_X0_add l dC dI (ad 43) (ga_49 0) (gc_50 0) (kc 0) (f_52 29) (n_51 15) (n_51 16) v4 (hpS H) H.size (by show 16 ≤ (gc_50 0) ∧ (gc_50 0) ≤ 1000000; omega) (by show (n_51 15).toInt ≤ 1048576; omega)) (cwV 1 hg (gw_V gm_methodLink_RX5_27_yX0_add gm_instanceMethod_yX0_add gm_selects_RX0_yX0_add_yX0_add gm_initialized_RX0 gm_code_yX0_add_cX0_add_3_none) rfl rfl rfl (by decide +kernel) ⟨Nat.le_of_ble_eq_true rfl, Nat.le_of_ble_eq_true rfl⟩) ⟨fun a U g mk q => by obtain ⟨q0, q1, q2, qP, qK, qD, qN⟩ := q; exact ⟨q0, q1, q2, qP, va_K.moved (u := U) (U := U.calling g mk a) (Vm.Alike.refl U.vm) qK, qD, nx_same (u := U) (U := U.calling g mk a) rfl qN⟩, va_recv hK hP (ci := 0) (q0 := 43) rfl hQ.x43, fun U hU hW => ⟨rfl, by rw [hU], by rw [hU], by rw [hU]; exact hPc, va_K.moved hW.alike hKc, hDc.weaken (fun _ _ _ _ => trivial), nx_warm hW hN⟩⟩ rfl rfl hl.1 rfl (lv_room (Nat.le_of_ble_eq_true rfl)) dX5_add_30 ⟨by show ce + 1 ≤ 600; omega, by show se + (2 * (gc_50 0)) ≤ 33000; omega⟩) hS (fun q _ h => hFc q h) hFc (fun u_62 t H1 locs ht hvm hw hB hz1 hk1 hS => ?_)
  obtain ⟨ad_63, ac_64, af_65, ag_66⟩ := u_62
  obtain ⟨hP1, hD1, hK1, hy1, hy2⟩ := hB
  rw [ht] at hP1 hy1 hy2
  have hy1 : hpS H1 ≤ hpS H + (2 * ad_63 1 - 2 * (gc_50 0)) := hy1
  have hy2 : 16 * H1.size ≤ 16 * H.size + (ad_63 1 - (gc_50 0)) := hy2
  have hK1 := va_K.moved hvm.symm hK1
  have hK1 : va_K (dC, dI) vwCl [((ac_64 0), .int)] s := hK1
  have kA_67 : (ac_64 0) = kc 0 := va_K.one hK1 (hK.sub (tys' := [(kc 0, .int)]) [0] rfl)
  have hP1 : va_P (dC, dI) vwCl [((ad 43), .inr (0, [.int (n_51 15), .ref (ad_63 0), .int (af_65 1 0)])), ((ad_63 0), .inl ((ac_64 0), (ad_63 1), .inl (af_65 0)))] H1 := hP1
  have hD1 : va_D _ [((ad 43), .inr (0, [.int (n_51 15), .ref (ad_63 0), .int (af_65 1 0)])), ((ad_63 0), .inl ((ac_64 0), (ad_63 1), .inl (af_65 0)))] := hD1
  rw [kA_67] at hP1 hD1
  obtain ⟨hP, hD⟩ := va_repl (w1 := [((ad 43), .inr (0, [.int (n_51 15), .ref (ad_63 0), .int (af_65 1 0)])), ((ad_63 0), .inl (kc 0, (ad_63 1), .inl (af_65 0)))]) hP hD [43, 44] hCc hNd rfl hk1 hFc hP1 hD1
  have hw_68 : (ad_63 1 = (gc_50 0) ∨ (ad_63 1 = 2 * (gc_50 0) ∧ ((gc_50 0) : Int) ≤ (n_51 16).toInt ∧ (n_51 16).toInt < (n_51 15).toInt)) ∧ ((af_65 1 0) = (n_51 16) ∨ (af_65 1 0).toInt = (n_51 16).toInt + 1) := hw
  obtain ⟨ws_73, ga_69, gc_70, n_71, f_72, ega_69, egc_70, en_71, ef_72, hP, hD, hQ⟩ : ∃ (ws_73 : va_W) (ga_69 : Nat → Nat) (gc_70 : Nat → Nat) (n_71 : Nat → Int32) (f_72 : Nat → Nat → Int32), ga_69 = u1 ga_49 0 (ad_63 0) ∧ gc_70 = u1 gc_50 0 (ad_63 1) ∧ n_71 = u1 n_51 16 (af_65 1 0) ∧ f_72 = u1 f_52 29 (af_65 0) ∧ va_P (dC, dI) vwCl ws_73 H1 ∧ va_D A ws_73 ∧ Pic9 kc ws_73 ad ga_69 gc_70 M n_71 f_72 T G K F := ⟨_, _, _, _, _, rfl, rfl, rfl, rfl, hP, hD, hQ.gr0 (ad_63 0) (ad_63 1) (af_65 1 0) (af_65 0)⟩
  have hgu := S9_up M gc_50 (ad_63 1) (q := 0) (by omega)
  rw [← egc_70] at hgu
  have hg16 := i8_58.1 0 (by omega)
  have hg17 := i8_58.2.1 0 (by omega)
  have hg18 := i8_58.2.2.2
  have hgq : gc_70 0 = (ad_63 1) := by rw [egc_70, u1_eq]
  have i1_74 : i1 M n_71 := by rw [en_71]; exact i1.pn i1_54 _ (by decide)
  have i5_75 : i5 n_71 K := by rw [en_71]; exact i5.pn i5_55 _ (by decide)
  have i6_76 : i6 n_71 T G := by rw [en_71]; exact i6.pn i6_56 _ (by decide)
  have i7_77 : i7 n_71 G := by rw [en_71]; exact i7.pn i7_57 _ (by decide)
  have i8_78 : i8 M n_71 gc_70 G := by rw [en_71, egc_70]; exact i8.gr (i8.pn i8_58 _ (by decide)) (by omega) (by omega) (fun _ => by omega)
  have i9_79 : i9 M gc_70 G R := by rw [egc_70]; exact i9.gr i9_59 _ (by decide)
  have hn_80 : n_71 0 = n_51 0 := by rw [en_71, u1_ne _ _ (by decide)]
  have thn_80 := congrArg Int32.toInt hn_80
  have hSl := S9_le i8_78 i9_79
  have hb0_ := i8_78.2.1 0 (by omega)
  have hb1_ := i8_78.2.1 1 (by omega)
  have hb2_ := i8_78.2.1 2 (by omega)
  refine W_msr2 (fun hn1 hn2 hn3 => ?_)
  obtain ⟨ce2, se2, hk3, hk4, hr1, hr2⟩ : ∃ c2 s2 : Nat, H1.size ≤ s.heap.size + c2 ∧ hpS H1 ≤ hpS s.heap + s2 ∧ s2 + (260 * M + 2 * S9 M gc) ≤ (260 * M + 2 * S9 M gc_70) ∧ 16 * c2 + (256 * M + S9 M gc) ≤ (256 * M + S9 M gc_70) := ⟨H1.size - s.heap.size, hpS H1 - hpS s.heap, by omega, by omega, by have := hS.1; omega, by have := hS.1; omega⟩
  refine W_tightP hk3 hk4 ?_
  clear hm1 hm2 hm3 hn1 hn2 hn3 hk3 hk4 hk1 hz1 hy1 hy2
  generalize ce2 = ce, se2 = se at hr1 hr2 ⊢
  generalize H1 = H at hP hS ⊢
  refine W_msr2 (fun hm1 hm2 hm3 => ?_)
  have hSl := S9_le i8_78 i9_79
  have hb0_ := i8_78.2.1 0 (by omega)
  have hb1_ := i8_78.2.1 1 (by omega)
  have hb2_ := i8_78.2.1 2 (by omega)
  refine W.widen (k := 600) (n := 33000) (by omega) (by omega) ?_
  exact W.vret hx hb hr (fun t ht hW => ⟨⟨(ad, ga_69, gc_70, M, n_71, f_72, T, G, K, F), rfl, (by show S9 M gc_70 + gc 0 ≤ S9 M gc + gc_70 0 ∧ (n_71 0).toInt = (n 0).toInt; omega), ws_73, by rw [ht]; exact hP, hD, hQ, ⟨i1_74, h_i2, h_i3, h_i4, i5_75, i6_76, i7_77, i8_78, i9_79⟩, by rw [ht]; show hpS H + (260 * M + 2 * S9 M gc) ≤ hpS s.heap + (260 * M + 2 * S9 M gc_70); omega, by rw [ht]; show 16 * H.size + (256 * M + S9 M gc) ≤ 16 * s.heap.size + (256 * M + S9 M gc_70); omega, by show (n 0).toInt ≤ (n_71 0).toInt; omega⟩, hS.F ht⟩) hS.2.2 dX5_add_33

set_option maxHeartbeats 8000000 in
set_option maxRecDepth 100000 in
theorem c_X5_add_a (l : Launch) (dC : Nat → ClassId) (dI : Nat → Nat → Nat) (kc : Nat → ClassId) (ws : va_W) (ad : Nat → Nat) (ga : Nat → Nat) (gc : Nat → Nat) (M : Nat) (n : Nat → Int32) (f : Nat → Nat → Int32) (T : Nat → Option Nat) (G : Nat → Nat → Int32) (K : Nat → Nat → Option Nat) (F : Nat → Nat → Nat → Int32) (R : Nat) (v1 : Int32) (v2 : Int32) (v3 : Int32) (v4 : Int32) (sz hz : Nat) (hQ : Pic9 kc ws ad ga gc M n f T G K F) (hI : I9 M n T gc G K R) (hR : R ≤ 310000) : Met l yX5_add (.code yX5_add cX5_add 5 none :: gw) ({ frames := 2, cells := 600, slots := 33000, locals := 102 }) (va_Pc [.ref (ad 45), .int v1, .int v2, .int v3, .int v4] (fun U => U.heap.size = sz ∧ hpS U.heap = hz ∧ va_P (dC, dI) vwCl ws U.heap ∧ va_K (dC, dI) vwCl (t9 kc) U ∧ va_D (fun _ => True) ws ∧ nx U)) (va_Qv (fun (u : (Nat → Nat) × (Nat → Nat) × (Nat → Nat) × Nat × (Nat → Int32) × (Nat → Nat → Int32) × (Nat → Option Nat) × (Nat → Nat → Int32) × (Nat → Nat → Option Nat) × (Nat → Nat → Nat → Int32)) => S9 M u.2.2.1 + gc 1 ≤ S9 M gc + u.2.2.1 1 ∧ (u.2.2.2.2.1 0).toInt = (n 0).toInt) (fun u t => ∃ w : va_W, va_P (dC, dI) vwCl w t.heap ∧ va_D (va_A ws sz) w ∧ Pic9 kc w ad u.2.1 u.2.2.1 M u.2.2.2.2.1 u.2.2.2.2.2.1 T G K F ∧ I9 M u.2.2.2.2.1 T u.2.2.1 G K R ∧ hpS t.heap + (260 * M + 2 * S9 M gc) ≤ hz + (260 * M + 2 * S9 M u.2.2.1) ∧ 16 * t.heap.size + (256 * M + S9 M gc) ≤ 16 * sz + (256 * M + S9 M u.2.2.1) ∧ (n 0).toInt ≤ (u.2.2.2.2.1 0).toInt) (va_A ws sz)) 600 33000 (va_A ws sz) := by
  refine Met.ofW (cc := cX5_add) (maxL := 5) (ret := none) (by decide) rfl ?_
  intro p e s m args below meth c s₁ B hml hv
  obtain ⟨rfl, hsz, rfl, hP, hK, hD0, hN⟩ := hv
  have hx := B.exec
  have hb := B.bytes
  have hr := B.returns
  have hts := atoms_spec (ws := .code yX5_add cX5_add 5 none :: gw) B.pre
  have hg : ∀ w ∈ gw, w.before _ s = true := fun w h => hts w (List.mem_cons_of_mem _ h)
  have hown : s.vm.findClass RX5 = some m.cls := findClass_of_methodNamed B.named
  have hlocks := B.notSynchronized
  subst hsz
  have hD := hD0.self (sz := s.heap.size)
  generalize hAe : va_A ws s.heap.size = A at hD ⊢
  have hA : ∀ q : Nat, s.heap.size ≤ q → A q := fun q h => by rw [← hAe]; exact Or.inr h
  clear hAe
  have hS : va_S A s.heap s.heap [] := va_S.rf
  have hl := lv_entry ([.ref (ad 45), .int v1, .int v2, .int v3, .int v4]) (n := 5) (Nat.le_of_ble_eq_true rfl)
  rw [lg_entry_eq]
  generalize (lg_sl ([.ref (ad 45), .int v1, .int v2, .int v3, .int v4]) ++ List.replicate (5 - (lg_sl ([.ref (ad 45), .int v1, .int v2, .int v3, .int v4])).length) Slot.unset).toArray = ls at hl ⊢
  have hl : lv_has ls 5 [(0, .ref (ad 45)), (1, .int v1), (2, .int v2), (3, .int v3), (4, .int v4)] := hl
  obtain ⟨h_i1, h_i2, h_i3, h_i4, h_i5, h_i6, h_i7, h_i8, h_i9⟩ := id hI
  have q1_ := h_i1
  unfold i1 at q1_
  have hSl0 := S9_le h_i8 h_i9
  have hb0_ := h_i8.2.1 0 (by omega)
  have hb1_ := h_i8.2.1 1 (by omega)
  have hb2_ := h_i8.2.1 2 (by omega)
  have hr1 : 0 + (260 * M + 2 * S9 M gc) ≤ (260 * M + 2 * S9 M gc) := by omega
  have hr2 : 16 * 0 + (256 * M + S9 M gc) ≤ (256 * M + S9 M gc) := by omega
  obtain ⟨ce, hce⟩ : ∃ q : Nat, q = 0 := ⟨_, rfl⟩
  obtain ⟨se, hse⟩ : ∃ q : Nat, q = 0 := ⟨_, rfl⟩
  rw [← hse] at hr1
  have hr2 : 16 * ce + (256 * M + S9 M gc) ≤ (256 * M + S9 M gc) := by omega
  refine W.widen (k := ce) (n := se) (Nat.zero_le _) (Nat.zero_le _) ?_
  refine lv_aload_n hx hb dX5_add_0 rfl (lv_at hl 0 rfl) ?_
  refine va_get (D := (dC, dI)) (ci := 5) (v := .ref (ad 46)) (C := RX5) (T := TX5) (N := 2) hx hb hg gb_5 hown hK hP 45 hQ.x45 rfl 1 (by decide) (hg _ gm_fieldLink_RX5_20_ErrandGuild_Ledger_cells_LErrandGuild_Cells_) (fun _ h9 => h9) rfl dX5_add_1 ?_
  refine lv_iload_n hx hb dX5_add_4 rfl (lv_at hl 1 rfl) ?_
  have hgm_ := h_i8.1 1 (by omega)
  have hgn_ := h_i8.2.2.2
  have hCc : ([46, 47] : List Nat).map (fun i => ws[i]?) = ([(ad 46, .inr (0, [.int (n 18), .ref (ga 1), .int (n 19)])), (ga 1, .inl (kc 0, gc 1, .inl (f 30)))] : va_W).map some := mp2 hQ.x46 hQ.x47
  have hNd : ([46, 47] : List Nat).Nodup := (by decide)
  have hPc := hP.pick [46, 47] hCc
  have hDc := hD.pick [46, 47] hNd hCc
  have hKc := hK.sub (tys' := [((kc 0), .int)]) [0] rfl
  have hFc := va_free (wc := [(ad 46, .inr (0, [.int (n 18), .ref (ga 1), .int (n 19)])), (ga 1, .inl (kc 0, gc 1, .inl (f 30)))]) hD hS hA [46, 47] hCc
  refine W_msr2 (fun hm1 hm2 hm3 => ?_)
  refine va_callv (va_runV (As := [.int v1]) (rest := []) ⟨hx, hb, hml, hown, hg⟩ (c_X0_add l dC dI (ad 46) (ga 1) (gc 1) (kc 0) (f 30) (n 18) (n 19) v1 (hpS s.heap) s.heap.size (by show 16 ≤ (gc 1) ∧ (gc 1) ≤ 1000000; omega) (by show (n 18).toInt ≤ 1048576; omega)) (cwV 1 hg (gw_V gm_methodLink_RX5_27_yX0_add gm_instanceMethod_yX0_add gm_selects_RX0_yX0_add_yX0_add gm_initialized_RX0 gm_code_yX0_add_cX0_add_3_none) rfl rfl rfl (by decide +kernel) ⟨Nat.le_of_ble_eq_true rfl, Nat.le_of_ble_eq_true rfl⟩) ⟨fun a U g mk q => by obtain ⟨q0, q1, q2, qP, qK, qD, qN⟩ := q; exact ⟨q0, q1, q2, qP, va_K.moved (u := U) (U := U.calling g mk a) (Vm.Alike.refl U.vm) qK, qD, nx_same (u := U) (U := U.calling g mk a) rfl qN⟩, va_recv hK hP (ci := 0) (q0 := 46) rfl hQ.x46, fun U hU hW => ⟨rfl, by rw [hU], by rw [hU], by rw [hU]; exact hPc, va_K.moved hW.alike hKc, hDc.weaken (fun _ _ _ _ => trivial), nx_warm hW hN⟩⟩ rfl rfl hl.1 rfl (lv_room (Nat.le_of_ble_eq_true rfl)) dX5_add_5 ⟨by show ce + 1 ≤ 600; omega, by show se + (2 * (gc 1)) ≤ 33000; omega⟩) hS (fun q _ h => hFc q h) hFc (fun u_2 t H1 locs ht hvm hw hB hz1 hk1 hS => ?_)
  obtain ⟨ad_3, ac_4, af_5, ag_6⟩ := u_2
  obtain ⟨hP1, hD1, hK1, hy1, hy2⟩ := hB
  rw [ht] at hP1 hy1 hy2
  have hy1 : hpS H1 ≤ hpS s.heap + (2 * ad_3 1 - 2 * (gc 1)) := hy1
  have hy2 : 16 * H1.size ≤ 16 * s.heap.size + (ad_3 1 - (gc 1)) := hy2
  have hK1 := va_K.moved hvm.symm hK1
  have hK1 : va_K (dC, dI) vwCl [((ac_4 0), .int)] s := hK1
  have kA_7 : (ac_4 0) = kc 0 := va_K.one hK1 (hK.sub (tys' := [(kc 0, .int)]) [0] rfl)
  have hP1 : va_P (dC, dI) vwCl [((ad 46), .inr (0, [.int (n 18), .ref (ad_3 0), .int (af_5 1 0)])), ((ad_3 0), .inl ((ac_4 0), (ad_3 1), .inl (af_5 0)))] H1 := hP1
  have hD1 : va_D _ [((ad 46), .inr (0, [.int (n 18), .ref (ad_3 0), .int (af_5 1 0)])), ((ad_3 0), .inl ((ac_4 0), (ad_3 1), .inl (af_5 0)))] := hD1
  rw [kA_7] at hP1 hD1
  obtain ⟨hP, hD⟩ := va_repl (w1 := [((ad 46), .inr (0, [.int (n 18), .ref (ad_3 0), .int (af_5 1 0)])), ((ad_3 0), .inl (kc 0, (ad_3 1), .inl (af_5 0)))]) hP hD [46, 47] hCc hNd rfl hk1 hFc hP1 hD1
  have hw_8 : (ad_3 1 = (gc 1) ∨ (ad_3 1 = 2 * (gc 1) ∧ ((gc 1) : Int) ≤ (n 19).toInt ∧ (n 19).toInt < (n 18).toInt)) ∧ ((af_5 1 0) = (n 19) ∨ (af_5 1 0).toInt = (n 19).toInt + 1) := hw
  obtain ⟨ws_13, ga_9, gc_10, n_11, f_12, ega_9, egc_10, en_11, ef_12, hP, hD, hQ⟩ : ∃ (ws_13 : va_W) (ga_9 : Nat → Nat) (gc_10 : Nat → Nat) (n_11 : Nat → Int32) (f_12 : Nat → Nat → Int32), ga_9 = u1 ga 1 (ad_3 0) ∧ gc_10 = u1 gc 1 (ad_3 1) ∧ n_11 = u1 n 19 (af_5 1 0) ∧ f_12 = u1 f 30 (af_5 0) ∧ va_P (dC, dI) vwCl ws_13 H1 ∧ va_D A ws_13 ∧ Pic9 kc ws_13 ad ga_9 gc_10 M n_11 f_12 T G K F := ⟨_, _, _, _, _, rfl, rfl, rfl, rfl, hP, hD, hQ.gr1 (ad_3 0) (ad_3 1) (af_5 1 0) (af_5 0)⟩
  have hgu := S9_up M gc (ad_3 1) (q := 1) (by omega)
  rw [← egc_10] at hgu
  have hg16 := h_i8.1 1 (by omega)
  have hg17 := h_i8.2.1 1 (by omega)
  have hg18 := h_i8.2.2.2
  have hgq : gc_10 1 = (ad_3 1) := by rw [egc_10, u1_eq]
  have i1_14 : i1 M n_11 := by rw [en_11]; exact i1.pn h_i1 _ (by decide)
  have i5_15 : i5 n_11 K := by rw [en_11]; exact i5.pn h_i5 _ (by decide)
  have i6_16 : i6 n_11 T G := by rw [en_11]; exact i6.pn h_i6 _ (by decide)
  have i7_17 : i7 n_11 G := by rw [en_11]; exact i7.pn h_i7 _ (by decide)
  have i8_18 : i8 M n_11 gc_10 G := by rw [en_11, egc_10]; exact i8.gr (i8.pn h_i8 _ (by decide)) (by omega) (by omega) (fun _ => by omega)
  have i9_19 : i9 M gc_10 G R := by rw [egc_10]; exact i9.gr h_i9 _ (by decide)
  have hn_20 : n_11 0 = n 0 := by rw [en_11, u1_ne _ _ (by decide)]
  have thn_20 := congrArg Int32.toInt hn_20
  have hSl := S9_le i8_18 i9_19
  have hb0_ := i8_18.2.1 0 (by omega)
  have hb1_ := i8_18.2.1 1 (by omega)
  have hb2_ := i8_18.2.1 2 (by omega)
  refine W_msr2 (fun hn1 hn2 hn3 => ?_)
  obtain ⟨ce2, se2, hk3, hk4, hr1, hr2⟩ : ∃ c2 s2 : Nat, H1.size ≤ s.heap.size + c2 ∧ hpS H1 ≤ hpS s.heap + s2 ∧ s2 + (260 * M + 2 * S9 M gc) ≤ (260 * M + 2 * S9 M gc_10) ∧ 16 * c2 + (256 * M + S9 M gc) ≤ (256 * M + S9 M gc_10) := ⟨H1.size - s.heap.size, hpS H1 - hpS s.heap, by omega, by omega, by have := hS.1; omega, by have := hS.1; omega⟩
  refine W_tightP hk3 hk4 ?_
  clear hm1 hm2 hm3 hn1 hn2 hn3 hk3 hk4 hk1 hz1 hy1 hy2
  generalize ce2 = ce, se2 = se at hr1 hr2 ⊢
  generalize H1 = H at hP hS ⊢
  refine lv_aload_n hx hb dX5_add_8 rfl (lv_at hl 0 rfl) ?_
  refine va_get (D := (dC, dI)) (ci := 5) (v := .ref (ad 46)) (C := RX5) (T := TX5) (N := 2) hx hb hg gb_5 hown hK hP 45 hQ.x45 rfl 1 (by decide) (hg _ gm_fieldLink_RX5_20_ErrandGuild_Ledger_cells_LErrandGuild_Cells_) (fun _ h9 => h9) rfl dX5_add_9 ?_
  refine lv_iload_n hx hb dX5_add_12 rfl (lv_at hl 2 rfl) ?_
  have hgm_ := i8_18.1 1 (by omega)
  have hgn_ := i8_18.2.2.2
  have hCc : ([46, 47] : List Nat).map (fun i => ws_13[i]?) = ([(ad 46, .inr (0, [.int (n_11 18), .ref (ga_9 1), .int (n_11 19)])), (ga_9 1, .inl (kc 0, gc_10 1, .inl (f_12 30)))] : va_W).map some := mp2 hQ.x46 hQ.x47
  have hNd : ([46, 47] : List Nat).Nodup := (by decide)
  have hPc := hP.pick [46, 47] hCc
  have hDc := hD.pick [46, 47] hNd hCc
  have hKc := hK.sub (tys' := [((kc 0), .int)]) [0] rfl
  have hFc := va_free (wc := [(ad 46, .inr (0, [.int (n_11 18), .ref (ga_9 1), .int (n_11 19)])), (ga_9 1, .inl (kc 0, gc_10 1, .inl (f_12 30)))]) hD hS hA [46, 47] hCc
  refine W_msr2 (fun hm1 hm2 hm3 => ?_)
  refine va_callv (va_runV (As := [.int v2]) (rest := []) ⟨hx, hb, hml, hown, hg⟩ (c_X0_add l dC dI (ad 46) (ga_9 1) (gc_10 1) (kc 0) (f_12 30) (n_11 18) (n_11 19) v2 (hpS H) H.size (by show 16 ≤ (gc_10 1) ∧ (gc_10 1) ≤ 1000000; omega) (by show (n_11 18).toInt ≤ 1048576; omega)) (cwV 1 hg (gw_V gm_methodLink_RX5_27_yX0_add gm_instanceMethod_yX0_add gm_selects_RX0_yX0_add_yX0_add gm_initialized_RX0 gm_code_yX0_add_cX0_add_3_none) rfl rfl rfl (by decide +kernel) ⟨Nat.le_of_ble_eq_true rfl, Nat.le_of_ble_eq_true rfl⟩) ⟨fun a U g mk q => by obtain ⟨q0, q1, q2, qP, qK, qD, qN⟩ := q; exact ⟨q0, q1, q2, qP, va_K.moved (u := U) (U := U.calling g mk a) (Vm.Alike.refl U.vm) qK, qD, nx_same (u := U) (U := U.calling g mk a) rfl qN⟩, va_recv hK hP (ci := 0) (q0 := 46) rfl hQ.x46, fun U hU hW => ⟨rfl, by rw [hU], by rw [hU], by rw [hU]; exact hPc, va_K.moved hW.alike hKc, hDc.weaken (fun _ _ _ _ => trivial), nx_warm hW hN⟩⟩ rfl rfl hl.1 rfl (lv_room (Nat.le_of_ble_eq_true rfl)) dX5_add_13 ⟨by show ce + 1 ≤ 600; omega, by show se + (2 * (gc_10 1)) ≤ 33000; omega⟩) hS (fun q _ h => hFc q h) hFc (fun u_22 t H1 locs ht hvm hw hB hz1 hk1 hS => ?_)
  obtain ⟨ad_23, ac_24, af_25, ag_26⟩ := u_22
  obtain ⟨hP1, hD1, hK1, hy1, hy2⟩ := hB
  rw [ht] at hP1 hy1 hy2
  have hy1 : hpS H1 ≤ hpS H + (2 * ad_23 1 - 2 * (gc_10 1)) := hy1
  have hy2 : 16 * H1.size ≤ 16 * H.size + (ad_23 1 - (gc_10 1)) := hy2
  have hK1 := va_K.moved hvm.symm hK1
  have hK1 : va_K (dC, dI) vwCl [((ac_24 0), .int)] s := hK1
  have kA_27 : (ac_24 0) = kc 0 := va_K.one hK1 (hK.sub (tys' := [(kc 0, .int)]) [0] rfl)
  have hP1 : va_P (dC, dI) vwCl [((ad 46), .inr (0, [.int (n_11 18), .ref (ad_23 0), .int (af_25 1 0)])), ((ad_23 0), .inl ((ac_24 0), (ad_23 1), .inl (af_25 0)))] H1 := hP1
  have hD1 : va_D _ [((ad 46), .inr (0, [.int (n_11 18), .ref (ad_23 0), .int (af_25 1 0)])), ((ad_23 0), .inl ((ac_24 0), (ad_23 1), .inl (af_25 0)))] := hD1
  rw [kA_27] at hP1 hD1
  obtain ⟨hP, hD⟩ := va_repl (w1 := [((ad 46), .inr (0, [.int (n_11 18), .ref (ad_23 0), .int (af_25 1 0)])), ((ad_23 0), .inl (kc 0, (ad_23 1), .inl (af_25 0)))]) hP hD [46, 47] hCc hNd rfl hk1 hFc hP1 hD1
  have hw_28 : (ad_23 1 = (gc_10 1) ∨ (ad_23 1 = 2 * (gc_10 1) ∧ ((gc_10 1) : Int) ≤ (n_11 19).toInt ∧ (n_11 19).toInt < (n_11 18).toInt)) ∧ ((af_25 1 0) = (n_11 19) ∨ (af_25 1 0).toInt = (n_11 19).toInt + 1) := hw
  obtain ⟨ws_33, ga_29, gc_30, n_31, f_32, ega_29, egc_30, en_31, ef_32, hP, hD, hQ⟩ : ∃ (ws_33 : va_W) (ga_29 : Nat → Nat) (gc_30 : Nat → Nat) (n_31 : Nat → Int32) (f_32 : Nat → Nat → Int32), ga_29 = u1 ga_9 1 (ad_23 0) ∧ gc_30 = u1 gc_10 1 (ad_23 1) ∧ n_31 = u1 n_11 19 (af_25 1 0) ∧ f_32 = u1 f_12 30 (af_25 0) ∧ va_P (dC, dI) vwCl ws_33 H1 ∧ va_D A ws_33 ∧ Pic9 kc ws_33 ad ga_29 gc_30 M n_31 f_32 T G K F := ⟨_, _, _, _, _, rfl, rfl, rfl, rfl, hP, hD, hQ.gr1 (ad_23 0) (ad_23 1) (af_25 1 0) (af_25 0)⟩
  have hgu := S9_up M gc_10 (ad_23 1) (q := 1) (by omega)
  rw [← egc_30] at hgu
  have hg16 := i8_18.1 1 (by omega)
  have hg17 := i8_18.2.1 1 (by omega)
  have hg18 := i8_18.2.2.2
  have hgq : gc_30 1 = (ad_23 1) := by rw [egc_30, u1_eq]
  have i1_34 : i1 M n_31 := by rw [en_31]; exact i1.pn i1_14 _ (by decide)
  have i5_35 : i5 n_31 K := by rw [en_31]; exact i5.pn i5_15 _ (by decide)
  have i6_36 : i6 n_31 T G := by rw [en_31]; exact i6.pn i6_16 _ (by decide)
  have i7_37 : i7 n_31 G := by rw [en_31]; exact i7.pn i7_17 _ (by decide)
  have i8_38 : i8 M n_31 gc_30 G := by rw [en_31, egc_30]; exact i8.gr (i8.pn i8_18 _ (by decide)) (by omega) (by omega) (fun _ => by omega)
  have i9_39 : i9 M gc_30 G R := by rw [egc_30]; exact i9.gr i9_19 _ (by decide)
  have hn_40 : n_31 0 = n_11 0 := by rw [en_31, u1_ne _ _ (by decide)]
  have thn_40 := congrArg Int32.toInt hn_40
  have hSl := S9_le i8_38 i9_39
  have hb0_ := i8_38.2.1 0 (by omega)
  have hb1_ := i8_38.2.1 1 (by omega)
  have hb2_ := i8_38.2.1 2 (by omega)
  refine W_msr2 (fun hn1 hn2 hn3 => ?_)
  obtain ⟨ce2, se2, hk3, hk4, hr1, hr2⟩ : ∃ c2 s2 : Nat, H1.size ≤ s.heap.size + c2 ∧ hpS H1 ≤ hpS s.heap + s2 ∧ s2 + (260 * M + 2 * S9 M gc) ≤ (260 * M + 2 * S9 M gc_30) ∧ 16 * c2 + (256 * M + S9 M gc) ≤ (256 * M + S9 M gc_30) := ⟨H1.size - s.heap.size, hpS H1 - hpS s.heap, by omega, by omega, by have := hS.1; omega, by have := hS.1; omega⟩
  refine W_tightP hk3 hk4 ?_
  clear hm1 hm2 hm3 hn1 hn2 hn3 hk3 hk4 hk1 hz1 hy1 hy2
  generalize ce2 = ce, se2 = se at hr1 hr2 ⊢
  generalize H1 = H at hP hS ⊢
  refine lv_aload_n hx hb dX5_add_16 rfl (lv_at hl 0 rfl) ?_
  refine va_get (D := (dC, dI)) (ci := 5) (v := .ref (ad 46)) (C := RX5) (T := TX5) (N := 2) hx hb hg gb_5 hown hK hP 45 hQ.x45 rfl 1 (by decide) (hg _ gm_fieldLink_RX5_20_ErrandGuild_Ledger_cells_LErrandGuild_Cells_) (fun _ h9 => h9) rfl dX5_add_17 ?_
  refine lv_iload_n hx hb dX5_add_20 rfl (lv_at hl 3 rfl) ?_
  have hgm_ := i8_38.1 1 (by omega)
  have hgn_ := i8_38.2.2.2
  have hCc : ([46, 47] : List Nat).map (fun i => ws_33[i]?) = ([(ad 46, .inr (0, [.int (n_31 18), .ref (ga_29 1), .int (n_31 19)])), (ga_29 1, .inl (kc 0, gc_30 1, .inl (f_32 30)))] : va_W).map some := mp2 hQ.x46 hQ.x47
  have hNd : ([46, 47] : List Nat).Nodup := (by decide)
  have hPc := hP.pick [46, 47] hCc
  have hDc := hD.pick [46, 47] hNd hCc
  have hKc := hK.sub (tys' := [((kc 0), .int)]) [0] rfl
  have hFc := va_free (wc := [(ad 46, .inr (0, [.int (n_31 18), .ref (ga_29 1), .int (n_31 19)])), (ga_29 1, .inl (kc 0, gc_30 1, .inl (f_32 30)))]) hD hS hA [46, 47] hCc
  refine W_msr2 (fun hm1 hm2 hm3 => ?_)
  refine va_callv (va_runV (As := [.int v3]) (rest := []) ⟨hx, hb, hml, hown, hg⟩ (c_X0_add l dC dI (ad 46) (ga_29 1) (gc_30 1) (kc 0) (f_32 30) (n_31 18) (n_31 19) v3 (hpS H) H.size (by show 16 ≤ (gc_30 1) ∧ (gc_30 1) ≤ 1000000; omega) (by show (n_31 18).toInt ≤ 1048576; omega)) (cwV 1 hg (gw_V gm_methodLink_RX5_27_yX0_add gm_instanceMethod_yX0_add gm_selects_RX0_yX0_add_yX0_add gm_initialized_RX0 gm_code_yX0_add_cX0_add_3_none) rfl rfl rfl (by decide +kernel) ⟨Nat.le_of_ble_eq_true rfl, Nat.le_of_ble_eq_true rfl⟩) ⟨fun a U g mk q => by obtain ⟨q0, q1, q2, qP, qK, qD, qN⟩ := q; exact ⟨q0, q1, q2, qP, va_K.moved (u := U) (U := U.calling g mk a) (Vm.Alike.refl U.vm) qK, qD, nx_same (u := U) (U := U.calling g mk a) rfl qN⟩, va_recv hK hP (ci := 0) (q0 := 46) rfl hQ.x46, fun U hU hW => ⟨rfl, by rw [hU], by rw [hU], by rw [hU]; exact hPc, va_K.moved hW.alike hKc, hDc.weaken (fun _ _ _ _ => trivial), nx_warm hW hN⟩⟩ rfl rfl hl.1 rfl (lv_room (Nat.le_of_ble_eq_true rfl)) dX5_add_21 ⟨by show ce + 1 ≤ 600; omega, by show se + (2 * (gc_30 1)) ≤ 33000; omega⟩) hS (fun q _ h => hFc q h) hFc (fun u_42 t H1 locs ht hvm hw hB hz1 hk1 hS => ?_)
  obtain ⟨ad_43, ac_44, af_45, ag_46⟩ := u_42
  obtain ⟨hP1, hD1, hK1, hy1, hy2⟩ := hB
  rw [ht] at hP1 hy1 hy2
  have hy1 : hpS H1 ≤ hpS H + (2 * ad_43 1 - 2 * (gc_30 1)) := hy1
  have hy2 : 16 * H1.size ≤ 16 * H.size + (ad_43 1 - (gc_30 1)) := hy2
  have hK1 := va_K.moved hvm.symm hK1
  have hK1 : va_K (dC, dI) vwCl [((ac_44 0), .int)] s := hK1
  have kA_47 : (ac_44 0) = kc 0 := va_K.one hK1 (hK.sub (tys' := [(kc 0, .int)]) [0] rfl)
  have hP1 : va_P (dC, dI) vwCl [((ad 46), .inr (0, [.int (n_31 18), .ref (ad_43 0), .int (af_45 1 0)])), ((ad_43 0), .inl ((ac_44 0), (ad_43 1), .inl (af_45 0)))] H1 := hP1
  have hD1 : va_D _ [((ad 46), .inr (0, [.int (n_31 18), .ref (ad_43 0), .int (af_45 1 0)])), ((ad_43 0), .inl ((ac_44 0), (ad_43 1), .inl (af_45 0)))] := hD1
  rw [kA_47] at hP1 hD1
  obtain ⟨hP, hD⟩ := va_repl (w1 := [((ad 46), .inr (0, [.int (n_31 18), .ref (ad_43 0), .int (af_45 1 0)])), ((ad_43 0), .inl (kc 0, (ad_43 1), .inl (af_45 0)))]) hP hD [46, 47] hCc hNd rfl hk1 hFc hP1 hD1
  have hw_48 : (ad_43 1 = (gc_30 1) ∨ (ad_43 1 = 2 * (gc_30 1) ∧ ((gc_30 1) : Int) ≤ (n_31 19).toInt ∧ (n_31 19).toInt < (n_31 18).toInt)) ∧ ((af_45 1 0) = (n_31 19) ∨ (af_45 1 0).toInt = (n_31 19).toInt + 1) := hw
  obtain ⟨ws_53, ga_49, gc_50, n_51, f_52, ega_49, egc_50, en_51, ef_52, hP, hD, hQ⟩ : ∃ (ws_53 : va_W) (ga_49 : Nat → Nat) (gc_50 : Nat → Nat) (n_51 : Nat → Int32) (f_52 : Nat → Nat → Int32), ga_49 = u1 ga_29 1 (ad_43 0) ∧ gc_50 = u1 gc_30 1 (ad_43 1) ∧ n_51 = u1 n_31 19 (af_45 1 0) ∧ f_52 = u1 f_32 30 (af_45 0) ∧ va_P (dC, dI) vwCl ws_53 H1 ∧ va_D A ws_53 ∧ Pic9 kc ws_53 ad ga_49 gc_50 M n_51 f_52 T G K F := ⟨_, _, _, _, _, rfl, rfl, rfl, rfl, hP, hD, hQ.gr1 (ad_43 0) (ad_43 1) (af_45 1 0) (af_45 0)⟩
  have hgu := S9_up M gc_30 (ad_43 1) (q := 1) (by omega)
  rw [← egc_50] at hgu
  have hg16 := i8_38.1 1 (by omega)
  have hg17 := i8_38.2.1 1 (by omega)
  have hg18 := i8_38.2.2.2
  have hgq : gc_50 1 = (ad_43 1) := by rw [egc_50, u1_eq]
  have i1_54 : i1 M n_51 := by rw [en_51]; exact i1.pn i1_34 _ (by decide)
  have i5_55 : i5 n_51 K := by rw [en_51]; exact i5.pn i5_35 _ (by decide)
  have i6_56 : i6 n_51 T G := by rw [en_51]; exact i6.pn i6_36 _ (by decide)
  have i7_57 : i7 n_51 G := by rw [en_51]; exact i7.pn i7_37 _ (by decide)
  have i8_58 : i8 M n_51 gc_50 G := by rw [en_51, egc_50]; exact i8.gr (i8.pn i8_38 _ (by decide)) (by omega) (by omega) (fun _ => by omega)
  have i9_59 : i9 M gc_50 G R := by rw [egc_50]; exact i9.gr i9_39 _ (by decide)
  have hn_60 : n_51 0 = n_31 0 := by rw [en_51, u1_ne _ _ (by decide)]
  have thn_60 := congrArg Int32.toInt hn_60
  have hSl := S9_le i8_58 i9_59
  have hb0_ := i8_58.2.1 0 (by omega)
  have hb1_ := i8_58.2.1 1 (by omega)
  have hb2_ := i8_58.2.1 2 (by omega)
  refine W_msr2 (fun hn1 hn2 hn3 => ?_)
  obtain ⟨ce2, se2, hk3, hk4, hr1, hr2⟩ : ∃ c2 s2 : Nat, H1.size ≤ s.heap.size + c2 ∧ hpS H1 ≤ hpS s.heap + s2 ∧ s2 + (260 * M + 2 * S9 M gc) ≤ (260 * M + 2 * S9 M gc_50) ∧ 16 * c2 + (256 * M + S9 M gc) ≤ (256 * M + S9 M gc_50) := ⟨H1.size - s.heap.size, hpS H1 - hpS s.heap, by omega, by omega, by have := hS.1; omega, by have := hS.1; omega⟩
  refine W_tightP hk3 hk4 ?_
  clear hm1 hm2 hm3 hn1 hn2 hn3 hk3 hk4 hk1 hz1 hy1 hy2
  generalize ce2 = ce, se2 = se at hr1 hr2 ⊢
  generalize H1 = H at hP hS ⊢
  refine lv_aload_n hx hb dX5_add_24 rfl (lv_at hl 0 rfl) ?_
  refine va_get (D := (dC, dI)) (ci := 5) (v := .ref (ad 46)) (C := RX5) (T := TX5) (N := 2) hx hb hg gb_5 hown hK hP 45 hQ.x45 rfl 1 (by decide) (hg _ gm_fieldLink_RX5_20_ErrandGuild_Ledger_cells_LErrandGuild_Cells_) (fun _ h9 => h9) rfl dX5_add_25 ?_
  refine lv_iload hx hb dX5_add_28 (lv_at hl 4 rfl) ?_
  have hgm_ := i8_58.1 1 (by omega)
  have hgn_ := i8_58.2.2.2
  have hCc : ([46, 47] : List Nat).map (fun i => ws_53[i]?) = ([(ad 46, .inr (0, [.int (n_51 18), .ref (ga_49 1), .int (n_51 19)])), (ga_49 1, .inl (kc 0, gc_50 1, .inl (f_52 30)))] : va_W).map some := mp2 hQ.x46 hQ.x47
  have hNd : ([46, 47] : List Nat).Nodup := (by decide)
  have hPc := hP.pick [46, 47] hCc
  have hDc := hD.pick [46, 47] hNd hCc
  have hKc := hK.sub (tys' := [((kc 0), .int)]) [0] rfl
  have hFc := va_free (wc := [(ad 46, .inr (0, [.int (n_51 18), .ref (ga_49 1), .int (n_51 19)])), (ga_49 1, .inl (kc 0, gc_50 1, .inl (f_52 30)))]) hD hS hA [46, 47] hCc
  refine W_msr2 (fun hm1 hm2 hm3 => ?_)
  refine va_callv (va_runV (As := [.int v4]) (rest := []) ⟨hx, hb, hml, hown, hg⟩ (c_X0_add l dC dI (ad 46) (ga_49 1) (gc_50 1) (kc 0) (f_52 30) (n_51 18) (n_51 19) v4 (hpS H) H.size (by show 16 ≤ (gc_50 1) ∧ (gc_50 1) ≤ 1000000; omega) (by show (n_51 18).toInt ≤ 1048576; omega)) (cwV 1 hg (gw_V gm_methodLink_RX5_27_yX0_add gm_instanceMethod_yX0_add gm_selects_RX0_yX0_add_yX0_add gm_initialized_RX0 gm_code_yX0_add_cX0_add_3_none) rfl rfl rfl (by decide +kernel) ⟨Nat.le_of_ble_eq_true rfl, Nat.le_of_ble_eq_true rfl⟩) ⟨fun a U g mk q => by obtain ⟨q0, q1, q2, qP, qK, qD, qN⟩ := q; exact ⟨q0, q1, q2, qP, va_K.moved (u := U) (U := U.calling g mk a) (Vm.Alike.refl U.vm) qK, qD, nx_same (u := U) (U := U.calling g mk a) rfl qN⟩, va_recv hK hP (ci := 0) (q0 := 46) rfl hQ.x46, fun U hU hW => ⟨rfl, by rw [hU], by rw [hU], by rw [hU]; exact hPc, va_K.moved hW.alike hKc, hDc.weaken (fun _ _ _ _ => trivial), nx_warm hW hN⟩⟩ rfl rfl hl.1 rfl (lv_room (Nat.le_of_ble_eq_true rfl)) dX5_add_30 ⟨by show ce + 1 ≤ 600; omega, by show se + (2 * (gc_50 1)) ≤ 33000; omega⟩) hS (fun q _ h => hFc q h) hFc (fun u_62 t H1 locs ht hvm hw hB hz1 hk1 hS => ?_)
  obtain ⟨ad_63, ac_64, af_65, ag_66⟩ := u_62
  obtain ⟨hP1, hD1, hK1, hy1, hy2⟩ := hB
  rw [ht] at hP1 hy1 hy2
  have hy1 : hpS H1 ≤ hpS H + (2 * ad_63 1 - 2 * (gc_50 1)) := hy1
  have hy2 : 16 * H1.size ≤ 16 * H.size + (ad_63 1 - (gc_50 1)) := hy2
  have hK1 := va_K.moved hvm.symm hK1
  have hK1 : va_K (dC, dI) vwCl [((ac_64 0), .int)] s := hK1
  have kA_67 : (ac_64 0) = kc 0 := va_K.one hK1 (hK.sub (tys' := [(kc 0, .int)]) [0] rfl)
  have hP1 : va_P (dC, dI) vwCl [((ad 46), .inr (0, [.int (n_51 18), .ref (ad_63 0), .int (af_65 1 0)])), ((ad_63 0), .inl ((ac_64 0), (ad_63 1), .inl (af_65 0)))] H1 := hP1
  have hD1 : va_D _ [((ad 46), .inr (0, [.int (n_51 18), .ref (ad_63 0), .int (af_65 1 0)])), ((ad_63 0), .inl ((ac_64 0), (ad_63 1), .inl (af_65 0)))] := hD1
  rw [kA_67] at hP1 hD1
  obtain ⟨hP, hD⟩ := va_repl (w1 := [((ad 46), .inr (0, [.int (n_51 18), .ref (ad_63 0), .int (af_65 1 0)])), ((ad_63 0), .inl (kc 0, (ad_63 1), .inl (af_65 0)))]) hP hD [46, 47] hCc hNd rfl hk1 hFc hP1 hD1
  have hw_68 : (ad_63 1 = (gc_50 1) ∨ (ad_63 1 = 2 * (gc_50 1) ∧ ((gc_50 1) : Int) ≤ (n_51 19).toInt ∧ (n_51 19).toInt < (n_51 18).toInt)) ∧ ((af_65 1 0) = (n_51 19) ∨ (af_65 1 0).toInt = (n_51 19).toInt + 1) := hw
  obtain ⟨ws_73, ga_69, gc_70, n_71, f_72, ega_69, egc_70, en_71, ef_72, hP, hD, hQ⟩ : ∃ (ws_73 : va_W) (ga_69 : Nat → Nat) (gc_70 : Nat → Nat) (n_71 : Nat → Int32) (f_72 : Nat → Nat → Int32), ga_69 = u1 ga_49 1 (ad_63 0) ∧ gc_70 = u1 gc_50 1 (ad_63 1) ∧ n_71 = u1 n_51 19 (af_65 1 0) ∧ f_72 = u1 f_52 30 (af_65 0) ∧ va_P (dC, dI) vwCl ws_73 H1 ∧ va_D A ws_73 ∧ Pic9 kc ws_73 ad ga_69 gc_70 M n_71 f_72 T G K F := ⟨_, _, _, _, _, rfl, rfl, rfl, rfl, hP, hD, hQ.gr1 (ad_63 0) (ad_63 1) (af_65 1 0) (af_65 0)⟩
  have hgu := S9_up M gc_50 (ad_63 1) (q := 1) (by omega)
  rw [← egc_70] at hgu
  have hg16 := i8_58.1 1 (by omega)
  have hg17 := i8_58.2.1 1 (by omega)
  have hg18 := i8_58.2.2.2
  have hgq : gc_70 1 = (ad_63 1) := by rw [egc_70, u1_eq]
  have i1_74 : i1 M n_71 := by rw [en_71]; exact i1.pn i1_54 _ (by decide)
  have i5_75 : i5 n_71 K := by rw [en_71]; exact i5.pn i5_55 _ (by decide)
  have i6_76 : i6 n_71 T G := by rw [en_71]; exact i6.pn i6_56 _ (by decide)
  have i7_77 : i7 n_71 G := by rw [en_71]; exact i7.pn i7_57 _ (by decide)
  have i8_78 : i8 M n_71 gc_70 G := by rw [en_71, egc_70]; exact i8.gr (i8.pn i8_58 _ (by decide)) (by omega) (by omega) (fun _ => by omega)
  have i9_79 : i9 M gc_70 G R := by rw [egc_70]; exact i9.gr i9_59 _ (by decide)
  have hn_80 : n_71 0 = n_51 0 := by rw [en_71, u1_ne _ _ (by decide)]
  have thn_80 := congrArg Int32.toInt hn_80
  have hSl := S9_le i8_78 i9_79
  have hb0_ := i8_78.2.1 0 (by omega)
  have hb1_ := i8_78.2.1 1 (by omega)
  have hb2_ := i8_78.2.1 2 (by omega)
  refine W_msr2 (fun hn1 hn2 hn3 => ?_)
  obtain ⟨ce2, se2, hk3, hk4, hr1, hr2⟩ : ∃ c2 s2 : Nat, H1.size ≤ s.heap.size + c2 ∧ hpS H1 ≤ hpS s.heap + s2 ∧ s2 + (260 * M + 2 * S9 M gc) ≤ (260 * M + 2 * S9 M gc_70) ∧ 16 * c2 + (256 * M + S9 M gc) ≤ (256 * M + S9 M gc_70) := ⟨H1.size - s.heap.size, hpS H1 - hpS s.heap, by omega, by omega, by have := hS.1; omega, by have := hS.1; omega⟩
  refine W_tightP hk3 hk4 ?_
  clear hm1 hm2 hm3 hn1 hn2 hn3 hk3 hk4 hk1 hz1 hy1 hy2
  generalize ce2 = ce, se2 = se at hr1 hr2 ⊢
  generalize H1 = H at hP hS ⊢
  refine W_msr2 (fun hm1 hm2 hm3 => ?_)
  have hSl := S9_le i8_78 i9_79
  have hb0_ := i8_78.2.1 0 (by omega)
  have hb1_ := i8_78.2.1 1 (by omega)
  have hb2_ := i8_78.2.1 2 (by omega)
  refine W.widen (k := 600) (n := 33000) (by omega) (by omega) ?_
  exact W.vret hx hb hr (fun t ht hW => ⟨⟨(ad, ga_69, gc_70, M, n_71, f_72, T, G, K, F), rfl, (by show S9 M gc_70 + gc 1 ≤ S9 M gc + gc_70 1 ∧ (n_71 0).toInt = (n 0).toInt; omega), ws_73, by rw [ht]; exact hP, hD, hQ, ⟨i1_74, h_i2, h_i3, h_i4, i5_75, i6_76, i7_77, i8_78, i9_79⟩, by rw [ht]; show hpS H + (260 * M + 2 * S9 M gc) ≤ hpS s.heap + (260 * M + 2 * S9 M gc_70); omega, by rw [ht]; show 16 * H.size + (256 * M + S9 M gc) ≤ 16 * s.heap.size + (256 * M + S9 M gc_70); omega, by show (n 0).toInt ≤ (n_71 0).toInt; omega⟩, hS.F ht⟩) hS.2.2 dX5_add_33
