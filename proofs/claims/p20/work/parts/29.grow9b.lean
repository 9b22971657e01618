set_option maxHeartbeats 8000000 in
set_option maxRecDepth 100000 in
theorem c_X5_add_r (l : Launch) (dC : Nat → ClassId) (dI : Nat → Nat → Nat) (kc : Nat → ClassId) (ws : va_W) (ad : Nat → Nat) (ga : Nat → Nat) (gc : Nat → Nat) (M : Nat) (n : Nat → Int32) (f : Nat → Nat → Int32) (T : Nat → Option Nat) (G : Nat → Nat → Int32) (K : Nat → Nat → Option Nat) (F : Nat → Nat → Nat → Int32) (R : Nat) (v1 : Int32) (v2 : Int32) (v3 : Int32) (v4 : Int32) (sz hz : Nat) (hQ : Pic9 kc ws ad ga gc M n f T G K F) (hI : I9 M n f T gc G K F R) (hR : R ≤ 310000) : Met l yX5_add (.code yX5_add cX5_add 5 none :: gw) ({ frames := 2, cells := 600, slots := 33000, locals := 102 }) (va_Pc [.ref (ad 42), .int v1, .int v2, .int v3, .int v4] (fun U => U.heap.size = sz ∧ hpS U.heap = hz ∧ va_P (dC, dI) vwCl ws U.heap ∧ va_K (dC, dI) vwCl (t9 kc) U ∧ va_D (fun _ => True) ws ∧ nx U)) (va_Qv (fun (u : (Nat → Nat) × (Nat → Nat) × (Nat → Nat) × Nat × (Nat → Int32) × (Nat → Nat → Int32) × (Nat → Option Nat) × (Nat → Nat → Int32) × (Nat → Nat → Option Nat) × (Nat → Nat → Nat → Int32)) => (C9.mk u.2.2.2.2.1 u.2.2.2.2.2.1 T G K F) = k_led 16 15 29 v1 v2 v3 v4 (C9.mk n f T G K F) ∧ S9 M u.2.2.1 + gc 0 ≤ S9 M gc + u.2.2.1 0 ∧ (u.2.2.2.2.1 0).toInt = (n 0).toInt) (fun u t => ∃ w : va_W, va_P (dC, dI) vwCl w t.heap ∧ va_D (va_A ws sz) w ∧ Pic9 kc w ad u.2.1 u.2.2.1 M u.2.2.2.2.1 u.2.2.2.2.2.1 T G K F ∧ I9 M u.2.2.2.2.1 u.2.2.2.2.2.1 T u.2.2.1 G K F R ∧ hpS t.heap + (260 * M + 2 * S9 M gc) ≤ hz + (260 * M + 2 * S9 M u.2.2.1) ∧ 16 * t.heap.size + (256 * M + S9 M gc) ≤ 16 * sz + (256 * M + S9 M u.2.2.1) ∧ (n 0).toInt ≤ (u.2.2.2.2.1 0).toInt) (va_A ws sz)) 600 33000 (va_A ws sz) := by
  refine Met.ofW (cc := cX5_add) (maxL := 5) (ret := none) (by decide) rfl ?_
  intro p e s m args below meth c s₁ B hml hv
  obtain ⟨rfl, hsz, rfl, hP, hK, hD0, hN⟩ := hv
  have hx := B.exec
  have hb := B.bytes
  have hr := B.returns
  have hts := atoms_spec (ws := .code yX5_add cX5_add 5 none :: gw) B.pre
  have hg : ∀ w ∈ gw, w.before _ s = true := fun w h => hts w (List.mem_cons_of_mem _ h)
  have hown : s.vm.findClass RX5 = some m.cls := findClass_of_methodNamed B.named
  have hlocks := B.notSynchronized
  subst hsz
  have hD := hD0.self (sz := s.heap.size)
  generalize hAe : va_A ws s.heap.size = A at hD ⊢
  have hA : ∀ q : Nat, s.heap.size ≤ q → A q := fun q h => by rw [← hAe]; exact Or.inr h
  clear hAe
  have hS : va_S A s.heap s.heap [] := va_S.rf
  have hl := lv_entry ([.ref (ad 42), .int v1, .int v2, .int v3, .int v4]) (n := 5) (Nat.le_of_ble_eq_true rfl)
  rw [lg_entry_eq]
  generalize (lg_sl ([.ref (ad 42), .int v1, .int v2, .int v3, .int v4]) ++ List.replicate (5 - (lg_sl ([.ref (ad 42), .int v1, .int v2, .int v3, .int v4])).length) Slot.unset).toArray = ls at hl ⊢
  have hl : lv_has ls 5 [(0, .ref (ad 42)), (1, .int v1), (2, .int v2), (3, .int v3), (4, .int v4)] := hl
  obtain ⟨h_i1, h_i2, h_i3, h_i4, h_i5, h_i6, h_i7, h_i8, h_i9, h_i10, h_i11⟩ := id hI
  have q1_ := h_i1
  unfold i1 at q1_
  have hSl0 := S9_le h_i8 h_i9
  have hb0_ := h_i8.2.1 0 (by omega)
  have hb1_ := h_i8.2.1 1 (by omega)
  have hb2_ := h_i8.2.1 2 (by omega)
  have hr1 : 0 + (260 * M + 2 * S9 M gc) ≤ (260 * M + 2 * S9 M gc) := by omega
  have hr2 : 16 * 0 + (256 * M + S9 M gc) ≤ (256 * M + S9 M gc) := by omega
  obtain ⟨ce, hce⟩ : ∃ q : Nat, q = 0 := ⟨_, rfl⟩
  obtain ⟨se, hse⟩ : ∃ q : Nat, q = 0 := ⟨_, rfl⟩
  rw [← hse] at hr1
  have hr2 : 16 * ce + (256 * M + S9 M gc) ≤ (256 * M + S9 M gc) := by omega
  refine W.widen (k := ce) (n := se) (Nat.zero_le _) (Nat.zero_le _) ?_
  exact by
   refine lv_aload_n hx hb dX5_add_0 rfl (lv_at hl 0 rfl) ?_
   refine va_get (D := (dC, dI)) (ci := 5) (v := .ref (ad 43)) (C := RX5) (T := TX5) (N := 2) hx hb hg gb_5 hown hK hP 42 hQ.x42 rfl 1 (by decide) (hg _ gm_fieldLink_RX5_20_ErrandGuild_Ledger_cells_LErrandGuild_Cells_) (fun _ h9 => h9) rfl dX5_add_1 ?_
   refine lv_iload_n hx hb dX5_add_4 rfl (lv_at hl 1 rfl) ?_
   have hgz_ := h_i11.1
   have hgm_ := h_i8.1 0 (by omega)
   have hgn_ := h_i8.2.2.2
   have hCc : ([43, 44] : List Nat).map (fun i => ws[i]?) = ([(ad 43, .inr (0, [.int (n 15), .ref (ga 0), .int (n 16)])), (ga 0, .inl (kc 0, gc 0, .inl (f 29)))] : va_W).map some := mp2 hQ.x43 hQ.x44
   have hNd : ([43, 44] : List Nat).Nodup := (by decide)
   have hPc := hP.pick [43, 44] hCc
   have hDc := hD.pick [43, 44] hNd hCc
   have hKc := hK.sub (tys' := [((kc 0), .int)]) [0] rfl
   have hFc := va_free (wc := [(ad 43, .inr (0, [.int (n 15), .ref (ga 0), .int (n 16)])), (ga 0, .inl (kc 0, gc 0, .inl (f 29)))]) hD hS hA [43, 44] hCc
   refine W_msr2 (fun hm1 hm2 hm3 => ?_)
   exact by
    refine va_callv (va_runV (As := [.int v1]) (rest := []) ⟨hx, hb, hml, hown, hg⟩ (c_X0_add l dC dI (ad 43) (ga 0) (gc 0) (kc 0) (f 29) (n 15) (n 16) v1 (hpS s.heap) s.heap.size (by show 16 ≤ (gc 0) ∧ (gc 0) ≤ 1000000; omega) (by show (n 15).toInt ≤ 1048576; omega) (by show 0 ≤ (n 16).toInt ∧ (n 16).toInt ≤ ((gc 0) : Int); omega) hgz_.2) (cwV 1 hg (gw_V gm_methodLink_RX5_27_yX0_add gm_instanceMethod_yX0_add gm_selects_RX0_yX0_add_yX0_add gm_initialized_RX0 gm_code_yX0_add_cX0_add_3_none) rfl rfl rfl (by decide +kernel) ⟨Nat.le_of_ble_eq_true rfl, Nat.le_of_ble_eq_true rfl⟩) ⟨fun a U g mk q => by obtain ⟨q0, q1, q2, qP, qK, qD, qN⟩ := q; exact ⟨q0, q1, q2, qP, va_K.moved (u := U) (U := U.calling g mk a) (Vm.Alike.refl U.vm) qK, qD, nx_same (u := U) (U := U.calling g mk a) rfl qN⟩, va_recv hK hP (ci := 0) (q0 := 43) rfl hQ.x43, fun U hU hW => ⟨rfl, by rw [hU], by rw [hU], by rw [hU]; exact hPc, va_K.moved hW.alike hKc, hDc.weaken (fun _ _ _ _ => trivial), nx_warm hW hN⟩⟩ rfl rfl hl.1 rfl (lv_room (Nat.le_of_ble_eq_true rfl)) dX5_add_5 ⟨by show ce + 1 ≤ 600; omega, by show se + (2 * (gc 0)) ≤ 33000; omega⟩) hS (fun q _ h => hFc q h) hFc (fun u_2 t H1 locs ht hvm hw hB hz1 hk1 hS => ?_)
    obtain ⟨ad_3, ac_4, af_5, ag_6⟩ := u_2
    obtain ⟨hP1, hD1, hK1, ⟨hy1, hy2⟩, qe_7, qe_8⟩ := hB
    rw [ht] at hP1 hy1 hy2
    have hy1 : hpS H1 ≤ hpS s.heap + (2 * ad_3 1 - 2 * (gc 0)) := hy1
    have hy2 : 16 * H1.size ≤ 16 * s.heap.size + (ad_3 1 - (gc 0)) := hy2
    have hK1 := va_K.moved hvm.symm hK1
    have hK1 : va_K (dC, dI) vwCl [((ac_4 0), .int)] s := hK1
    have kA_9 : (ac_4 0) = kc 0 := va_K.one hK1 (hK.sub (tys' := [(kc 0, .int)]) [0] rfl)
    have hP1 : va_P (dC, dI) vwCl [((ad 43), .inr (0, [.int (n 15), .ref (ad_3 0), .int (af_5 1 0)])), ((ad_3 0), .inl ((ac_4 0), (ad_3 1), .inl (af_5 0)))] H1 := hP1
    have hD1 : va_D _ [((ad 43), .inr (0, [.int (n 15), .ref (ad_3 0), .int (af_5 1 0)])), ((ad_3 0), .inl ((ac_4 0), (ad_3 1), .inl (af_5 0)))] := hD1
    rw [kA_9] at hP1 hD1
    have qe_7 : (af_5 0) = aF (n 16) (n 15) (f 29) v1 := qe_7
    have qe_8 : (af_5 1 0) = aN (n 16) (n 15) := qe_8
    rw [qe_7, qe_8] at hP1 hD1
    obtain ⟨hP, hD⟩ := va_repl (w1 := [((ad 43), .inr (0, [.int (n 15), .ref (ad_3 0), .int (aN (n 16) (n 15))])), ((ad_3 0), .inl (kc 0, (ad_3 1), .inl (aF (n 16) (n 15) (f 29) v1)))]) hP hD [43, 44] hCc hNd rfl hk1 hFc hP1 hD1
    have hw_10 : (ad_3 1 = (gc 0) ∨ (ad_3 1 = 2 * (gc 0) ∧ ((gc 0) : Int) ≤ (n 16).toInt ∧ (n 16).toInt < (n 15).toInt)) ∧ ((af_5 1 0) = (n 16) ∨ (af_5 1 0).toInt = (n 16).toInt + 1) ∧ (af_5 1 0).toInt ≤ ((ad_3 1 : Nat) : Int) := hw
    rw [qe_8] at hw_10
    obtain ⟨ws_15, ga_11, gc_12, n_13, f_14, ega_11, egc_12, en_13, ef_14, hP, hD, hQ⟩ : ∃ (ws_15 : va_W) (ga_11 : Nat → Nat) (gc_12 : Nat → Nat) (n_13 : Nat → Int32) (f_14 : Nat → Nat → Int32), ga_11 = u1 ga 0 (ad_3 0) ∧ gc_12 = u1 gc 0 (ad_3 1) ∧ n_13 = u1 n 16 (aN (n 16) (n 15)) ∧ f_14 = u1 f 29 (aF (n 16) (n 15) (f 29) v1) ∧ va_P (dC, dI) vwCl ws_15 H1 ∧ va_D A ws_15 ∧ Pic9 kc ws_15 ad ga_11 gc_12 M n_13 f_14 T G K F := ⟨_, _, _, _, _, rfl, rfl, rfl, rfl, hP, hD, hQ.gr0 (ad_3 0) (ad_3 1) (aN (n 16) (n 15)) (aF (n 16) (n 15) (f 29) v1)⟩
    have hgu := S9_up M gc (ad_3 1) (q := 0) (by omega)
    rw [← egc_12] at hgu
    have hg16 := h_i8.1 0 (by omega)
    have hg17 := h_i8.2.1 0 (by omega)
    have hg18 := h_i8.2.2.2
    have hgq : gc_12 0 = (ad_3 1) := by rw [egc_12, u1_eq]
    have i1_16 : i1 M n_13 := by rw [en_13]; exact i1.pn h_i1 _ (by decide)
    have i5_17 : i5 n_13 K := by rw [en_13]; exact i5.pn h_i5 _ (by decide)
    have i6_18 : i6 n_13 T G := by rw [en_13]; exact i6.pn h_i6 _ (by decide)
    have i7_19 : i7 n_13 G := by rw [en_13]; exact i7.pn h_i7 _ (by decide)
    have i8_20 : i8 M n_13 gc_12 G := by rw [en_13, egc_12]; exact i8.gr (i8.pn h_i8 _ (by decide)) (by omega) (by omega) (fun _ => by omega)
    have i9_21 : i9 M gc_12 G R := by rw [egc_12]; exact i9.gr h_i9 _ (by decide)
    have i11_22 : i11 M n_13 gc_12 f_14 G F := by rw [en_13, egc_12, ef_14]; exact i11.gr0 h_i11 _ (by omega) hw_10.2.2
    have hn_23 : n_13 0 = n 0 := by rw [en_13, u1_ne _ _ (by decide)]
    have thn_23 := congrArg Int32.toInt hn_23
    have hSl := S9_le i8_20 i9_21
    have hb0_ := i8_20.2.1 0 (by omega)
    have hb1_ := i8_20.2.1 1 (by omega)
    have hb2_ := i8_20.2.1 2 (by omega)
    refine W_msr2 (fun hn1 hn2 hn3 => ?_)
    obtain ⟨ce2, se2, hk3, hk4, hr1, hr2⟩ : ∃ c2 s2 : Nat, H1.size ≤ s.heap.size + c2 ∧ hpS H1 ≤ hpS s.heap + s2 ∧ s2 + (260 * M + 2 * S9 M gc) ≤ (260 * M + 2 * S9 M gc_12) ∧ 16 * c2 + (256 * M + S9 M gc) ≤ (256 * M + S9 M gc_12) := ⟨H1.size - s.heap.size, hpS H1 - hpS s.heap, by omega, by omega, by have := hS.1; omega, by have := hS.1; omega⟩
    refine W_tightP hk3 hk4 ?_
    clear hm1 hm2 hm3 hn1 hn2 hn3 hk3 hk4 hk1 hz1 hy1 hy2
    generalize ce2 = ce, se2 = se at hr1 hr2 ⊢
    generalize H1 = H at hP hS ⊢
    exact by
     refine lv_aload_n hx hb dX5_add_8 rfl (lv_at hl 0 rfl) ?_
     refine va_get (D := (dC, dI)) (ci := 5) (v := .ref (ad 43)) (C := RX5) (T := TX5) (N := 2) hx hb hg gb_5 hown hK hP 42 hQ.x42 rfl 1 (by decide) (hg _ gm_fieldLink_RX5_20_ErrandGuild_Ledger_cells_LErrandGuild_Cells_) (fun _ h9 => h9) rfl dX5_add_9 ?_
     refine lv_iload_n hx hb dX5_add_12 rfl (lv_at hl 2 rfl) ?_
     have hgz_ := i11_22.1
     have hgm_ := i8_20.1 0 (by omega)
     have hgn_ := i8_20.2.2.2
     have hCc : ([43, 44] : List Nat).map (fun i => ws_15[i]?) = ([(ad 43, .inr (0, [.int (n_13 15), .ref (ga_11 0), .int (n_13 16)])), (ga_11 0, .inl (kc 0, gc_12 0, .inl (f_14 29)))] : va_W).map some := mp2 hQ.x43 hQ.x44
     have hNd : ([43, 44] : List Nat).Nodup := (by decide)
     have hPc := hP.pick [43, 44] hCc
     have hDc := hD.pick [43, 44] hNd hCc
     have hKc := hK.sub (tys' := [((kc 0), .int)]) [0] rfl
     have hFc := va_free (wc := [(ad 43, .inr (0, [.int (n_13 15), .ref (ga_11 0), .int (n_13 16)])), (ga_11 0, .inl (kc 0, gc_12 0, .inl (f_14 29)))]) hD hS hA [43, 44] hCc
     refine W_msr2 (fun hm1 hm2 hm3 => ?_)
     exact by
      refine va_callv (va_runV (As := [.int v2]) (rest := []) ⟨hx, hb, hml, hown, hg⟩ (c_X0_add l dC dI (ad 43) (ga_11 0) (gc_12 0) (kc 0) (f_14 29) (n_13 15) (n_13 16) v2 (hpS H) H.size (by show 16 ≤ (gc_12 0) ∧ (gc_12 0) ≤ 1000000; omega) (by show (n_13 15).toInt ≤ 1048576; omega) (by show 0 ≤ (n_13 16).toInt ∧ (n_13 16).toInt ≤ ((gc_12 0) : Int); omega) hgz_.2) (cwV 1 hg (gw_V gm_methodLink_RX5_27_yX0_add gm_instanceMethod_yX0_add gm_selects_RX0_yX0_add_yX0_add gm_initialized_RX0 gm_code_yX0_add_cX0_add_3_none) rfl rfl rfl (by decide +kernel) ⟨Nat.le_of_ble_eq_true rfl, Nat.le_of_ble_eq_true rfl⟩) ⟨fun a U g mk q => by obtain ⟨q0, q1, q2, qP, qK, qD, qN⟩ := q; exact ⟨q0, q1, q2, qP, va_K.moved (u := U) (U := U.calling g mk a) (Vm.Alike.refl U.vm) qK, qD, nx_same (u := U) (U := U.calling g mk a) rfl qN⟩, va_recv hK hP (ci := 0) (q0 := 43) rfl hQ.x43, fun U hU hW => ⟨rfl, by rw [hU], by rw [hU], by rw [hU]; exact hPc, va_K.moved hW.alike hKc, hDc.weaken (fun _ _ _ _ => trivial), nx_warm hW hN⟩⟩ rfl rfl hl.1 rfl (lv_room (Nat.le_of_ble_eq_true rfl)) dX5_add_13 ⟨by show ce + 1 ≤ 600; omega, by show se + (2 * (gc_12 0)) ≤ 33000; omega⟩) hS (fun q _ h => hFc q h) hFc (fun u_25 t H1 locs ht hvm hw hB hz1 hk1 hS => ?_)
      obtain ⟨ad_26, ac_27, af_28, ag_29⟩ := u_25
      obtain ⟨hP1, hD1, hK1, ⟨hy1, hy2⟩, qe_30, qe_31⟩ := hB
      rw [ht] at hP1 hy1 hy2
      have hy1 : hpS H1 ≤ hpS H + (2 * ad_26 1 - 2 * (gc_12 0)) := hy1
      have hy2 : 16 * H1.size ≤ 16 * H.size + (ad_26 1 - (gc_12 0)) := hy2
      have hK1 := va_K.moved hvm.symm hK1
      have hK1 : va_K (dC, dI) vwCl [((ac_27 0), .int)] s := hK1
      have kA_32 : (ac_27 0) = kc 0 := va_K.one hK1 (hK.sub (tys' := [(kc 0, .int)]) [0] rfl)
      have hP1 : va_P (dC, dI) vwCl [((ad 43), .inr (0, [.int (n_13 15), .ref (ad_26 0), .int (af_28 1 0)])), ((ad_26 0), .inl ((ac_27 0), (ad_26 1), .inl (af_28 0)))] H1 := hP1
      have hD1 : va_D _ [((ad 43), .inr (0, [.int (n_13 15), .ref (ad_26 0), .int (af_28 1 0)])), ((ad_26 0), .inl ((ac_27 0), (ad_26 1), .inl (af_28 0)))] := hD1
      rw [kA_32] at hP1 hD1
      have qe_30 : (af_28 0) = aF (n_13 16) (n_13 15) (f_14 29) v2 := qe_30
      have qe_31 : (af_28 1 0) = aN (n_13 16) (n_13 15) := qe_31
      rw [qe_30, qe_31] at hP1 hD1
      obtain ⟨hP, hD⟩ := va_repl (w1 := [((ad 43), .inr (0, [.int (n_13 15), .ref (ad_26 0), .int (aN (n_13 16) (n_13 15))])), ((ad_26 0), .inl (kc 0, (ad_26 1), .inl (aF (n_13 16) (n_13 15) (f_14 29) v2)))]) hP hD [43, 44] hCc hNd rfl hk1 hFc hP1 hD1
      have hw_33 : (ad_26 1 = (gc_12 0) ∨ (ad_26 1 = 2 * (gc_12 0) ∧ ((gc_12 0) : Int) ≤ (n_13 16).toInt ∧ (n_13 16).toInt < (n_13 15).toInt)) ∧ ((af_28 1 0) = (n_13 16) ∨ (af_28 1 0).toInt = (n_13 16).toInt + 1) ∧ (af_28 1 0).toInt ≤ ((ad_26 1 : Nat) : Int) := hw
      rw [qe_31] at hw_33
      obtain ⟨ws_38, ga_34, gc_35, n_36, f_37, ega_34, egc_35, en_36, ef_37, hP, hD, hQ⟩ : ∃ (ws_38 : va_W) (ga_34 : Nat → Nat) (gc_35 : Nat → Nat) (n_36 : Nat → Int32) (f_37 : Nat → Nat → Int32), ga_34 = u1 ga_11 0 (ad_26 0) ∧ gc_35 = u1 gc_12 0 (ad_26 1) ∧ n_36 = u1 n_13 16 (aN (n_13 16) (n_13 15)) ∧ f_37 = u1 f_14 29 (aF (n_13 16) (n_13 15) (f_14 29) v2) ∧ va_P (dC, dI) vwCl ws_38 H1 ∧ va_D A ws_38 ∧ Pic9 kc ws_38 ad ga_34 gc_35 M n_36 f_37 T G K F := ⟨_, _, _, _, _, rfl, rfl, rfl, rfl, hP, hD, hQ.gr0 (ad_26 0) (ad_26 1) (aN (n_13 16) (n_13 15)) (aF (n_13 16) (n_13 15) (f_14 29) v2)⟩
      have hgu := S9_up M gc_12 (ad_26 1) (q := 0) (by omega)
      rw [← egc_35] at hgu
      have hg16 := i8_20.1 0 (by omega)
      have hg17 := i8_20.2.1 0 (by omega)
      have hg18 := i8_20.2.2.2
      have hgq : gc_35 0 = (ad_26 1) := by rw [egc_35, u1_eq]
      have i1_39 : i1 M n_36 := by rw [en_36]; exact i1.pn i1_16 _ (by decide)
      have i5_40 : i5 n_36 K := by rw [en_36]; exact i5.pn i5_17 _ (by decide)
      have i6_41 : i6 n_36 T G := by rw [en_36]; exact i6.pn i6_18 _ (by decide)
      have i7_42 : i7 n_36 G := by rw [en_36]; exact i7.pn i7_19 _ (by decide)
      have i8_43 : i8 M n_36 gc_35 G := by rw [en_36, egc_35]; exact i8.gr (i8.pn i8_20 _ (by decide)) (by omega) (by omega) (fun _ => by omega)
      have i9_44 : i9 M gc_35 G R := by rw [egc_35]; exact i9.gr i9_21 _ (by decide)
      have i11_45 : i11 M n_36 gc_35 f_37 G F := by rw [en_36, egc_35, ef_37]; exact i11.gr0 i11_22 _ (by omega) hw_33.2.2
      have hn_46 : n_36 0 = n_13 0 := by rw [en_36, u1_ne _ _ (by decide)]
      have thn_46 := congrArg Int32.toInt hn_46
      have hSl := S9_le i8_43 i9_44
      have hb0_ := i8_43.2.1 0 (by omega)
      have hb1_ := i8_43.2.1 1 (by omega)
      have hb2_ := i8_43.2.1 2 (by omega)
      refine W_msr2 (fun hn1 hn2 hn3 => ?_)
      obtain ⟨ce2, se2, hk3, hk4, hr1, hr2⟩ : ∃ c2 s2 : Nat, H1.size ≤ s.heap.size + c2 ∧ hpS H1 ≤ hpS s.heap + s2 ∧ s2 + (260 * M + 2 * S9 M gc) ≤ (260 * M + 2 * S9 M gc_35) ∧ 16 * c2 + (256 * M + S9 M gc) ≤ (256 * M + S9 M gc_35) := ⟨H1.size - s.heap.size, hpS H1 - hpS s.heap, by omega, by omega, by have := hS.1; omega, by have := hS.1; omega⟩
      refine W_tightP hk3 hk4 ?_
      clear hm1 hm2 hm3 hn1 hn2 hn3 hk3 hk4 hk1 hz1 hy1 hy2
      generalize ce2 = ce, se2 = se at hr1 hr2 ⊢
      generalize H1 = H at hP hS ⊢
      exact by
       refine lv_aload_n hx hb dX5_add_16 rfl (lv_at hl 0 rfl) ?_
       refine va_get (D := (dC, dI)) (ci := 5) (v := .ref (ad 43)) (C := RX5) (T := TX5) (N := 2) hx hb hg gb_5 hown hK hP 42 hQ.x42 rfl 1 (by decide) (hg _ gm_fieldLink_RX5_20_ErrandGuild_Ledger_cells_LErrandGuild_Cells_) (fun _ h9 => h9) rfl dX5_add_17 ?_
       refine lv_iload_n hx hb dX5_add_20 rfl (lv_at hl 3 rfl) ?_
       have hgz_ := i11_45.1
       have hgm_ := i8_43.1 0 (by omega)
       have hgn_ := i8_43.2.2.2
       have hCc : ([43, 44] : List Nat).map (fun i => ws_38[i]?) = ([(ad 43, .inr (0, [.int (n_36 15), .ref (ga_34 0), .int (n_36 16)])), (ga_34 0, .inl (kc 0, gc_35 0, .inl (f_37 29)))] : va_W).map some := mp2 hQ.x43 hQ.x44
       have hNd : ([43, 44] : List Nat).Nodup := (by decide)
       have hPc := hP.pick [43, 44] hCc
       have hDc := hD.pick [43, 44] hNd hCc
       have hKc := hK.sub (tys' := [((kc 0), .int)]) [0] rfl
       have hFc := va_free (wc := [(ad 43, .inr (0, [.int (n_36 15), .ref (ga_34 0), .int (n_36 16)])), (ga_34 0, .inl (kc 0, gc_35 0, .inl (f_37 29)))]) hD hS hA [43, 44] hCc
       refine W_msr2 (fun hm1 hm2 hm3 => ?_)
       exact by
        refine va_callv (va_runV (As := [.int v3]) (rest := []) ⟨hx, hb, hml, hown, hg⟩ (c_X0_add l dC dI (ad 43) (ga_34 0) (gc_35 0) (kc 0) (f_37 29) (n_36 15) (n_36 16) v3 (hpS H) H.size (by show 16 ≤ (gc_35 0) ∧ (gc_35 0) ≤ 1000000; omega) (by show (n_36 15).toInt ≤ 1048576; omega) (by show 0 ≤ (n_36 16).toInt ∧ (n_36 16).toInt ≤ ((gc_35 0) : Int); omega) hgz_.2) (cwV 1 hg (gw_V gm_methodLink_RX5_27_yX0_add gm_instanceMethod_yX0_add gm_selects_RX0_yX0_add_yX0_add gm_initialized_RX0 gm_code_yX0_add_cX0_add_3_none) rfl rfl rfl (by decide +kernel) ⟨Nat.le_of_ble_eq_true rfl, Nat.le_of_ble_eq_true rfl⟩) ⟨fun a U g mk q => by obtain ⟨q0, q1, q2, qP, qK, qD, qN⟩ := q; exact ⟨q0, q1, q2, qP, va_K.moved (u := U) (U := U.calling g mk a) (Vm.Alike.refl U.vm) qK, qD, nx_same (u := U) (U := U.calling g mk a) rfl qN⟩, va_recv hK hP (ci := 0) (q0 := 43) rfl hQ.x43, fun U hU hW => ⟨rfl, by rw [hU], by rw [hU], by rw [hU]; exact hPc, va_K.moved hW.alike hKc, hDc.weaken (fun _ _ _ _ => trivial), nx_warm hW hN⟩⟩ rfl rfl hl.1 rfl (lv_room (Nat.le_of_ble_eq_true rfl)) dX5_add_21 ⟨by show ce + 1 ≤ 600; omega, by show se + (2 * (gc_35 0)) ≤ 33000; omega⟩) hS (fun q _ h => hFc q h) hFc (fun u_48 t H1 locs ht hvm hw hB hz1 hk1 hS => ?_)
        obtain ⟨ad_49, ac_50, af_51, ag_52⟩ := u_48
        obtain ⟨hP1, hD1, hK1, ⟨hy1, hy2⟩, qe_53, qe_54⟩ := hB
        rw [ht] at hP1 hy1 hy2
        have hy1 : hpS H1 ≤ hpS H + (2 * ad_49 1 - 2 * (gc_35 0)) := hy1
        have hy2 : 16 * H1.size ≤ 16 * H.size + (ad_49 1 - (gc_35 0)) := hy2
        have hK1 := va_K.moved hvm.symm hK1
        have hK1 : va_K (dC, dI) vwCl [((ac_50 0), .int)] s := hK1
        have kA_55 : (ac_50 0) = kc 0 := va_K.one hK1 (hK.sub (tys' := [(kc 0, .int)]) [0] rfl)
        have hP1 : va_P (dC, dI) vwCl [((ad 43), .inr (0, [.int (n_36 15), .ref (ad_49 0), .int (af_51 1 0)])), ((ad_49 0), .inl ((ac_50 0), (ad_49 1), .inl (af_51 0)))] H1 := hP1
        have hD1 : va_D _ [((ad 43), .inr (0, [.int (n_36 15), .ref (ad_49 0), .int (af_51 1 0)])), ((ad_49 0), .inl ((ac_50 0), (ad_49 1), .inl (af_51 0)))] := hD1
        rw [kA_55] at hP1 hD1
        have qe_53 : (af_51 0) = aF (n_36 16) (n_36 15) (f_37 29) v3 := qe_53
        have qe_54 : (af_51 1 0) = aN (n_36 16) (n_36 15) := qe_54
        rw [qe_53, qe_54] at hP1 hD1
        obtain ⟨hP, hD⟩ := va_repl (w1 := [((ad 43), .inr (0, [.int (n_36 15), .ref (ad_49 0), .int (aN (n_36 16) (n_36 15))])), ((ad_49 0), .inl (kc 0, (ad_49 1), .inl (aF (n_36 16) (n_36 15) (f_37 29) v3)))]) hP hD [43, 44] hCc hNd rfl hk1 hFc hP1 hD1
        have hw_56 : (ad_49 1 = (gc_35 0) ∨ (ad_49 1 = 2 * (gc_35 0) ∧ ((gc_35 0) : Int) ≤ (n_36 16).toInt ∧ (n_36 16).toInt < (n_36 15).toInt)) ∧ ((af_51 1 0) = (n_36 16) ∨ (af_51 1 0).toInt = (n_36 16).toInt + 1) ∧ (af_51 1 0).toInt ≤ ((ad_49 1 : Nat) : Int) := hw
        rw [qe_54] at hw_56
        obtain ⟨ws_61, ga_57, gc_58, n_59, f_60, ega_57, egc_58, en_59, ef_60, hP, hD, hQ⟩ : ∃ (ws_61 : va_W) (ga_57 : Nat → Nat) (gc_58 : Nat → Nat) (n_59 : Nat → Int32) (f_60 : Nat → Nat → Int32), ga_57 = u1 ga_34 0 (ad_49 0) ∧ gc_58 = u1 gc_35 0 (ad_49 1) ∧ n_59 = u1 n_36 16 (aN (n_36 16) (n_36 15)) ∧ f_60 = u1 f_37 29 (aF (n_36 16) (n_36 15) (f_37 29) v3) ∧ va_P (dC, dI) vwCl ws_61 H1 ∧ va_D A ws_61 ∧ Pic9 kc ws_61 ad ga_57 gc_58 M n_59 f_60 T G K F := ⟨_, _, _, _, _, rfl, rfl, rfl, rfl, hP, hD, hQ.gr0 (ad_49 0) (ad_49 1) (aN (n_36 16) (n_36 15)) (aF (n_36 16) (n_36 15) (f_37 29) v3)⟩
        have hgu := S9_up M gc_35 (ad_49 1) (q := 0) (by omega)
        rw [← egc_58] at hgu
        have hg16 := i8_43.1 0 (by omega)
        have hg17 := i8_43.2.1 0 (by omega)
        have hg18 := i8_43.2.2.2
        have hgq : gc_58 0 = (ad_49 1) := by rw [egc_58, u1_eq]
        have i1_62 : i1 M n_59 := by rw [en_59]; exact i1.pn i1_39 _ (by decide)
        have i5_63 : i5 n_59 K := by rw [en_59]; exact i5.pn i5_40 _ (by decide)
        have i6_64 : i6 n_59 T G := by rw [en_59]; exact i6.pn i6_41 _ (by decide)
        have i7_65 : i7 n_59 G := by rw [en_59]; exact i7.pn i7_42 _ (by decide)
        have i8_66 : i8 M n_59 gc_58 G := by rw [en_59, egc_58]; exact i8.gr (i8.pn i8_43 _ (by decide)) (by omega) (by omega) (fun _ => by omega)
        have i9_67 : i9 M gc_58 G R := by rw [egc_58]; exact i9.gr i9_44 _ (by decide)
        have i11_68 : i11 M n_59 gc_58 f_60 G F := by rw [en_59, egc_58, ef_60]; exact i11.gr0 i11_45 _ (by omega) hw_56.2.2
        have hn_69 : n_59 0 = n_36 0 := by rw [en_59, u1_ne _ _ (by decide)]
        have thn_69 := congrArg Int32.toInt hn_69
        have hSl := S9_le i8_66 i9_67
        have hb0_ := i8_66.2.1 0 (by omega)
        have hb1_ := i8_66.2.1 1 (by omega)
        have hb2_ := i8_66.2.1 2 (by omega)
        refine W_msr2 (fun hn1 hn2 hn3 => ?_)
        obtain ⟨ce2, se2, hk3, hk4, hr1, hr2⟩ : ∃ c2 s2 : Nat, H1.size ≤ s.heap.size + c2 ∧ hpS H1 ≤ hpS s.heap + s2 ∧ s2 + (260 * M + 2 * S9 M gc) ≤ (260 * M + 2 * S9 M gc_58) ∧ 16 * c2 + (256 * M + S9 M gc) ≤ (256 * M + S9 M gc_58) := ⟨H1.size - s.heap.size, hpS H1 - hpS s.heap, by omega, by omega, by have := hS.1; omega, by have := hS.1; omega⟩
        refine W_tightP hk3 hk4 ?_
        clear hm1 hm2 hm3 hn1 hn2 hn3 hk3 hk4 hk1 hz1 hy1 hy2
        generalize ce2 = ce, se2 = se at hr1 hr2 ⊢
        generalize H1 = H at hP hS ⊢
        exact by
         refine lv_aload_n hx hb dX5_add_24 rfl (lv_at hl 0 rfl) ?_
         refine va_get (D := (dC, dI)) (ci := 5) (v := .ref (ad 43)) (C := RX5) (T := TX5) (N := 2) hx hb hg gb_5 hown hK hP 42 hQ.x42 rfl 1 (by decide) (hg _ gm_fieldLink_RX5_20_ErrandGuild_Ledger_cells_LErrandGuild_Cells_) (fun _ h9 => h9) rfl dX5_add_25 ?_
         refine lv_iload hx hb dX5_add_28 (lv_at hl 4 rfl) ?_
         have hgz_ := i11_68.1
         have hgm_ := i8_66.1 0 (by omega)
         have hgn_ := i8_66.2.2.2
         have hCc : ([43, 44] : List Nat).map (fun i => ws_61[i]?) = ([(ad 43, .inr (0, [.int (n_59 15), .ref (ga_57 0), .int (n_59 16)])), (ga_57 0, .inl (kc 0, gc_58 0, .inl (f_60 29)))] : va_W).map some := mp2 hQ.x43 hQ.x44
         have hNd : ([43, 44] : List Nat).Nodup := (by decide)
         have hPc := hP.pick [43, 44] hCc
         have hDc := hD.pick [43, 44] hNd hCc
         have hKc := hK.sub (tys' := [((kc 0), .int)]) [0] rfl
         have hFc := va_free (wc := [(ad 43, .inr (0, [.int (n_59 15), .ref (ga_57 0), .int (n_59 16)])), (ga_57 0, .inl (kc 0, gc_58 0, .inl (f_60 29)))]) hD hS hA [43, 44] hCc
         refine W_msr2 (fun hm1 hm2 hm3 => ?_)
         exact by
          refine va_callv (va_runV (As := [.int v4]) (rest := []) ⟨hx, hb, hml, hown, hg⟩ (c_X0_add l dC dI (ad 43) (ga_57 0) (gc_58 0) (kc 0) (f_60 29) (n_59 15) (n_59 16) v4 (hpS H) H.size (by show 16 ≤ (gc_58 0) ∧ (gc_58 0) ≤ 1000000; omega) (by show (n_59 15).toInt ≤ 1048576; omega) (by show 0 ≤ (n_59 16).toInt ∧ (n_59 16).toInt ≤ ((gc_58 0) : Int); omega) hgz_.2) (cwV 1 hg (gw_V gm_methodLink_RX5_27_yX0_add gm_instanceMethod_yX0_add gm_selects_RX0_yX0_add_yX0_add gm_initialized_RX0 gm_code_yX0_add_cX0_add_3_none) rfl rfl rfl (by decide +kernel) ⟨Nat.le_of_ble_eq_true rfl, Nat.le_of_ble_eq_true rfl⟩) ⟨fun a U g mk q => by obtain ⟨q0, q1, q2, qP, qK, qD, qN⟩ := q; exact ⟨q0, q1, q2, qP, va_K.moved (u := U) (U := U.calling g mk a) (Vm.Alike.refl U.vm) qK, qD, nx_same (u := U) (U := U.calling g mk a) rfl qN⟩, va_recv hK hP (ci := 0) (q0 := 43) rfl hQ.x43, fun U hU hW => ⟨rfl, by rw [hU], by rw [hU], by rw [hU]; exact hPc, va_K.moved hW.alike hKc, hDc.weaken (fun _ _ _ _ => trivial), nx_warm hW hN⟩⟩ rfl rfl hl.1 rfl (lv_room (Nat.le_of_ble_eq_true rfl)) dX5_add_30 ⟨by show ce + 1 ≤ 600; omega, by show se + (2 * (gc_58 0)) ≤ 33000; omega⟩) hS (fun q _ h => hFc q h) hFc (fun u_71 t H1 locs ht hvm hw hB hz1 hk1 hS => ?_)
          obtain ⟨ad_72, ac_73, af_74, ag_75⟩ := u_71
          obtain ⟨hP1, hD1, hK1, ⟨hy1, hy2⟩, qe_76, qe_77⟩ := hB
          rw [ht] at hP1 hy1 hy2
          have hy1 : hpS H1 ≤ hpS H + (2 * ad_72 1 - 2 * (gc_58 0)) := hy1
          have hy2 : 16 * H1.size ≤ 16 * H.size + (ad_72 1 - (gc_58 0)) := hy2
          have hK1 := va_K.moved hvm.symm hK1
          have hK1 : va_K (dC, dI) vwCl [((ac_73 0), .int)] s := hK1
          have kA_78 : (ac_73 0) = kc 0 := va_K.one hK1 (hK.sub (tys' := [(kc 0, .int)]) [0] rfl)
          have hP1 : va_P (dC, dI) vwCl [((ad 43), .inr (0, [.int (n_59 15), .ref (ad_72 0), .int (af_74 1 0)])), ((ad_72 0), .inl ((ac_73 0), (ad_72 1), .inl (af_74 0)))] H1 := hP1
          have hD1 : va_D _ [((ad 43), .inr (0, [.int (n_59 15), .ref (ad_72 0), .int (af_74 1 0)])), ((ad_72 0), .inl ((ac_73 0), (ad_72 1), .inl (af_74 0)))] := hD1
          rw [kA_78] at hP1 hD1
          have qe_76 : (af_74 0) = aF (n_59 16) (n_59 15) (f_60 29) v4 := qe_76
          have qe_77 : (af_74 1 0) = aN (n_59 16) (n_59 15) := qe_77
          rw [qe_76, qe_77] at hP1 hD1
          obtain ⟨hP, hD⟩ := va_repl (w1 := [((ad 43), .inr (0, [.int (n_59 15), .ref (ad_72 0), .int (aN (n_59 16) (n_59 15))])), ((ad_72 0), .inl (kc 0, (ad_72 1), .inl (aF (n_59 16) (n_59 15) (f_60 29) v4)))]) hP hD [43, 44] hCc hNd rfl hk1 hFc hP1 hD1
          have hw_79 : (ad_72 1 = (gc_58 0) ∨ (ad_72 1 = 2 * (gc_58 0) ∧ ((gc_58 0) : Int) ≤ (n_59 16).toInt ∧ (n_59 16).toInt < (n_59 15).toInt)) ∧ ((af_74 1 0) = (n_59 16) ∨ (af_74 1 0).toInt = (n_59 16).toInt + 1) ∧ (af_74 1 0).toInt ≤ ((ad_72 1 : Nat) : Int) := hw
          rw [qe_77] at hw_79
          obtain ⟨ws_84, ga_80, gc_81, n_82, f_83, ega_80, egc_81, en_82, ef_83, hP, hD, hQ⟩ : ∃ (ws_84 : va_W) (ga_80 : Nat → Nat) (gc_81 : Nat → Nat) (n_82 : Nat → Int32) (f_83 : Nat → Nat → Int32), ga_80 = u1 ga_57 0 (ad_72 0) ∧ gc_81 = u1 gc_58 0 (ad_72 1) ∧ n_82 = u1 n_59 16 (aN (n_59 16) (n_59 15)) ∧ f_83 = u1 f_60 29 (aF (n_59 16) (n_59 15) (f_60 29) v4) ∧ va_P (dC, dI) vwCl ws_84 H1 ∧ va_D A ws_84 ∧ Pic9 kc ws_84 ad ga_80 gc_81 M n_82 f_83 T G K F := ⟨_, _, _, _, _, rfl, rfl, rfl, rfl, hP, hD, hQ.gr0 (ad_72 0) (ad_72 1) (aN (n_59 16) (n_59 15)) (aF (n_59 16) (n_59 15) (f_60 29) v4)⟩
          have hgu := S9_up M gc_58 (ad_72 1) (q := 0) (by omega)
          rw [← egc_81] at hgu
          have hg16 := i8_66.1 0 (by omega)
          have hg17 := i8_66.2.1 0 (by omega)
          have hg18 := i8_66.2.2.2
          have hgq : gc_81 0 = (ad_72 1) := by rw [egc_81, u1_eq]
          have i1_85 : i1 M n_82 := by rw [en_82]; exact i1.pn i1_62 _ (by decide)
          have i5_86 : i5 n_82 K := by rw [en_82]; exact i5.pn i5_63 _ (by decide)
          have i6_87 : i6 n_82 T G := by rw [en_82]; exact i6.pn i6_64 _ (by decide)
          have i7_88 : i7 n_82 G := by rw [en_82]; exact i7.pn i7_65 _ (by decide)
          have i8_89 : i8 M n_82 gc_81 G := by rw [en_82, egc_81]; exact i8.gr (i8.pn i8_66 _ (by decide)) (by omega) (by omega) (fun _ => by omega)
          have i9_90 : i9 M gc_81 G R := by rw [egc_81]; exact i9.gr i9_67 _ (by decide)
          have i11_91 : i11 M n_82 gc_81 f_83 G F := by rw [en_82, egc_81, ef_83]; exact i11.gr0 i11_68 _ (by omega) hw_79.2.2
          have hn_92 : n_82 0 = n_59 0 := by rw [en_82, u1_ne _ _ (by decide)]
          have thn_92 := congrArg Int32.toInt hn_92
          have hSl := S9_le i8_89 i9_90
          have hb0_ := i8_89.2.1 0 (by omega)
          have hb1_ := i8_89.2.1 1 (by omega)
          have hb2_ := i8_89.2.1 2 (by omega)
          refine W_msr2 (fun hn1 hn2 hn3 => ?_)
          obtain ⟨ce2, se2, hk3, hk4, hr1, hr2⟩ : ∃ c2 s2 : Nat, H1.size ≤ s.heap.size + c2 ∧ hpS H1 ≤ hpS s.heap + s2 ∧ s2 + (260 * M + 2 * S9 M gc) ≤ (260 * M + 2 * S9 M gc_81) ∧ 16 * c2 + (256 * M + S9 M gc) ≤ (256 * M + S9 M gc_81) := ⟨H1.size - s.heap.size, hpS H1 - hpS s.heap, by omega, by omega, by have := hS.1; omega, by have := hS.1; omega⟩
          refine W_tightP hk3 hk4 ?_
          clear hm1 hm2 hm3 hn1 hn2 hn3 hk3 hk4 hk1 hz1 hy1 hy2
          generalize ce2 = ce, se2 = se at hr1 hr2 ⊢
          generalize H1 = H at hP hS ⊢
          refine W_msr2 (fun hm1 hm2 hm3 => ?_)
          have hSl := S9_le i8_89 i9_90
          have hb0_ := i8_89.2.1 0 (by omega)
          have hb1_ := i8_89.2.1 1 (by omega)
          have hb2_ := i8_89.2.1 2 (by omega)
          refine W.widen (k := 600) (n := 33000) (by omega) (by omega) ?_
          exact W.vret hx hb hr (fun t ht hW => ⟨⟨(ad, ga_80, gc_81, M, n_82, f_83, T, G, K, F), rfl, ⟨(by show (C9.mk n_82 f_83 T G K F) = k_led 16 15 29 v1 v2 v3 v4 (C9.mk n f T G K F); subst ega_11; subst egc_12; subst en_13; subst ef_14; subst ega_34; subst egc_35; subst en_36; subst ef_37; subst ega_57; subst egc_58; subst en_59; subst ef_60; subst ega_80; subst egc_81; subst en_82; subst ef_83; have hX := (k_led.eq_1 16 15 29 v1 v2 v3 v4 (C9.mk n f T G K F)).symm; (repeat (first | dsimp +instances only [c9n, c9f, c9T, c9G, c9K, c9F, b_come, b_leave, b_fill, awB, b_settle, b_wake, b_take, f_take, b_gather, f_gather, b_ask, a_ask, b_tell, c_close, d_close, k_add, k_rem, sco, k_clrF, k_mem, k_rebind, k_bnd, k_beg0, k_beg1, b_giveN, b_giveR, f_open, b_hand, k_op, b_turn, wlB, b_beat, f_anew, b_wipe, b_off, k_sadd, fits, frP, cntB, b_trace, b_child, k_lat, cond_true, cond_false, Option.elim_none, Option.elim_some, Option.getD_none, Option.getD_some] at hX | rw [if_pos (by first | with_reducible assumption | omega)] at hX | rw [if_neg (by first | with_reducible assumption | omega)] at hX | rw [jx_of (by omega)] at hX)); first | exact hX | (exfalso; omega) | exact hX), (by show S9 M gc_81 + gc 0 ≤ S9 M gc + gc_81 0 ∧ (n_82 0).toInt = (n 0).toInt; omega)⟩, ws_84, by rw [ht]; exact hP, hD, hQ, ⟨i1_85, h_i2, h_i3, h_i4, i5_86, i6_87, i7_88, i8_89, i9_90, h_i10, i11_91⟩, by rw [ht]; show hpS H + (260 * M + 2 * S9 M gc) ≤ hpS s.heap + (260 * M + 2 * S9 M gc_81); omega, by rw [ht]; show 16 * H.size + (256 * M + S9 M gc) ≤ 16 * s.heap.size + (256 * M + S9 M gc_81); omega, by show (n 0).toInt ≤ (n_82 0).toInt; omega⟩, hS.F ht⟩) hS.2.2 dX5_add_33

set_option maxHeartbeats 8000000 in
set_option maxRecDepth 100000 in
theorem c_X5_add_a (l : Launch) (dC : Nat → ClassId) (dI : Nat → Nat → Nat) (kc : Nat → ClassId) (ws : va_W) (ad : Nat → Nat) (ga : Nat → Nat) (gc : Nat → Nat) (M : Nat) (n : Nat → Int32) (f : Nat → Nat → Int32) (T : Nat → Option Nat) (G : Nat → Nat → Int32) (K : Nat → Nat → Option Nat) (F : Nat → Nat → Nat → Int32) (R : Nat) (v1 : Int32) (v2 : Int32) (v3 : Int32) (v4 : Int32) (sz hz : Nat) (hQ : Pic9 kc ws ad ga gc M n f T G K F) (hI : I9 M n f T gc G K F R) (hR : R ≤ 310000) : Met l yX5_add (.code yX5_add cX5_add 5 none :: gw) ({ frames := 2, cells := 600, slots := 33000, locals := 102 }) (va_Pc [.ref (ad 45), .int v1, .int v2, .int v3, .int v4] (fun U => U.heap.size = sz ∧ hpS U.heap = hz ∧ va_P (dC, dI) vwCl ws U.heap ∧ va_K (dC, dI) vwCl (t9 kc) U ∧ va_D (fun _ => True) ws ∧ nx U)) (va_Qv (fun (u : (Nat → Nat) × (Nat → Nat) × (Nat → Nat) × Nat × (Nat → Int32) × (Nat → Nat → Int32) × (Nat → Option Nat) × (Nat → Nat → Int32) × (Nat → Nat → Option Nat) × (Nat → Nat → Nat → Int32)) => (C9.mk u.2.2.2.2.1 u.2.2.2.2.2.1 T G K F) = k_led 19 18 30 v1 v2 v3 v4 (C9.mk n f T G K F) ∧ S9 M u.2.2.1 + gc 1 ≤ S9 M gc + u.2.2.1 1 ∧ (u.2.2.2.2.1 0).toInt = (n 0).toInt) (fun u t => ∃ w : va_W, va_P (dC, dI) vwCl w t.heap ∧ va_D (va_A ws sz) w ∧ Pic9 kc w ad u.2.1 u.2.2.1 M u.2.2.2.2.1 u.2.2.2.2.2.1 T G K F ∧ I9 M u.2.2.2.2.1 u.2.2.2.2.2.1 T u.2.2.1 G K F R ∧ hpS t.heap + (260 * M + 2 * S9 M gc) ≤ hz + (260 * M + 2 * S9 M u.2.2.1) ∧ 16 * t.heap.size + (256 * M + S9 M gc) ≤ 16 * sz + (256 * M + S9 M u.2.2.1) ∧ (n 0).toInt ≤ (u.2.2.2.2.1 0).toInt) (va_A ws sz)) 600 33000 (va_A ws sz) := by
  refine Met.ofW (cc := cX5_add) (maxL := 5) (ret := none) (by decide) rfl ?_
  intro p e s m args below meth c s₁ B hml hv
  obtain ⟨rfl, hsz, rfl, hP, hK, hD0, hN⟩ := hv
  have hx := B.exec
  have hb := B.bytes
  have hr := B.returns
  have hts := atoms_spec (ws := .code yX5_add cX5_add 5 none :: gw) B.pre
  have hg : ∀ w ∈ gw, w.before _ s = true := fun w h => hts w (List.mem_cons_of_mem _ h)
  have hown : s.vm.findClass RX5 = some m.cls := findClass_of_methodNamed B.named
  have hlocks := B.notSynchronized
  subst hsz
  have hD := hD0.self (sz := s.heap.size)
  generalize hAe : va_A ws s.heap.size = A at hD ⊢
  have hA : ∀ q : Nat, s.heap.size ≤ q → A q := fun q h => by rw [← hAe]; exact Or.inr h
  clear hAe
  have hS : va_S A s.heap s.heap [] := va_S.rf
  have hl := lv_entry ([.ref (ad 45), .int v1, .int v2, .int v3, .int v4]) (n := 5) (Nat.le_of_ble_eq_true rfl)
  rw [lg_entry_eq]
  generalize (lg_sl ([.ref (ad 45), .int v1, .int v2, .int v3, .int v4]) ++ List.replicate (5 - (lg_sl ([.ref (ad 45), .int v1, .int v2, .int v3, .int v4])).length) Slot.unset).toArray = ls at hl ⊢
  have hl : lv_has ls 5 [(0, .ref (ad 45)), (1, .int v1), (2, .int v2), (3, .int v3), (4, .int v4)] := hl
  obtain ⟨h_i1, h_i2, h_i3, h_i4, h_i5, h_i6, h_i7, h_i8, h_i9, h_i10, h_i11⟩ := id hI
  have q1_ := h_i1
  unfold i1 at q1_
  have hSl0 := S9_le h_i8 h_i9
  have hb0_ := h_i8.2.1 0 (by omega)
  have hb1_ := h_i8.2.1 1 (by omega)
  have hb2_ := h_i8.2.1 2 (by omega)
  have hr1 : 0 + (260 * M + 2 * S9 M gc) ≤ (260 * M + 2 * S9 M gc) := by omega
  have hr2 : 16 * 0 + (256 * M + S9 M gc) ≤ (256 * M + S9 M gc) := by omega
  obtain ⟨ce, hce⟩ : ∃ q : Nat, q = 0 := ⟨_, rfl⟩
  obtain ⟨se, hse⟩ : ∃ q : Nat, q = 0 := ⟨_, rfl⟩
  rw [← hse] at hr1
  have hr2 : 16 * ce + (256 * M + S9 M gc) ≤ (256 * M + S9 M gc) := by omega
  refine W.widen (k := ce) (n := se) (Nat.zero_le _) (Nat.zero_le _) ?_
  exact by
   refine lv_aload_n hx hb dX5_add_0 rfl (lv_at hl 0 rfl) ?_
   refine va_get (D := (dC, dI)) (ci := 5) (v := .ref (ad 46)) (C := RX5) (T := TX5) (N := 2) hx hb hg gb_5 hown hK hP 45 hQ.x45 rfl 1 (by decide) (hg _ gm_fieldLink_RX5_20_ErrandGuild_Ledger_cells_LErrandGuild_Cells_) (fun _ h9 => h9) rfl dX5_add_1 ?_
   refine lv_iload_n hx hb dX5_add_4 rfl (lv_at hl 1 rfl) ?_
   have hgz_ := h_i11.2.1
   have hgm_ := h_i8.1 1 (by omega)
   have hgn_ := h_i8.2.2.2
   have hCc : ([46, 47] : List Nat).map (fun i => ws[i]?) = ([(ad 46, .inr (0, [.int (n 18), .ref (ga 1), .int (n 19)])), (ga 1, .inl (kc 0, gc 1, .inl (f 30)))] : va_W).map some := mp2 hQ.x46 hQ.x47
   have hNd : ([46, 47] : List Nat).Nodup := (by decide)
   have hPc := hP.pick [46, 47] hCc
   have hDc := hD.pick [46, 47] hNd hCc
   have hKc := hK.sub (tys' := [((kc 0), .int)]) [0] rfl
   have hFc := va_free (wc := [(ad 46, .inr (0, [.int (n 18), .ref (ga 1), .int (n 19)])), (ga 1, .inl (kc 0, gc 1, .inl (f 30)))]) hD hS hA [46, 47] hCc
   refine W_msr2 (fun hm1 hm2 hm3 => ?_)
   exact by
    refine va_callv (va_runV (As := [.int v1]) (rest := []) ⟨hx, hb, hml, hown, hg⟩ (c_X0_add l dC dI (ad 46) (ga 1) (gc 1) (kc 0) (f 30) (n 18) (n 19) v1 (hpS s.heap) s.heap.size (by show 16 ≤ (gc 1) ∧ (gc 1) ≤ 1000000; omega) (by show (n 18).toInt ≤ 1048576; omega) (by show 0 ≤ (n 19).toInt ∧ (n 19).toInt ≤ ((gc 1) : Int); omega) hgz_.2) (cwV 1 hg (gw_V gm_methodLink_RX5_27_yX0_add gm_instanceMethod_yX0_add gm_selects_RX0_yX0_add_yX0_add gm_initialized_RX0 gm_code_yX0_add_cX0_add_3_none) rfl rfl rfl (by decide +kernel) ⟨Nat.le_of_ble_eq_true rfl, Nat.le_of_ble_eq_true rfl⟩) ⟨fun a U g mk q => by obtain ⟨q0, q1, q2, qP, qK, qD, qN⟩ := q; exact ⟨q0, q1, q2, qP, va_K.moved (u := U) (U := U.calling g mk a) (Vm.Alike.refl U.vm) qK, qD, nx_same (u := U) (U := U.calling g mk a) rfl qN⟩, va_recv hK hP (ci := 0) (q0 := 46) rfl hQ.x46, fun U hU hW => ⟨rfl, by rw [hU], by rw [hU], by rw [hU]; exact hPc, va_K.moved hW.alike hKc, hDc.weaken (fun _ _ _ _ => trivial), nx_warm hW hN⟩⟩ rfl rfl hl.1 rfl (lv_room (Nat.le_of_ble_eq_true rfl)) dX5_add_5 ⟨by show ce + 1 ≤ 600; omega, by show se + (2 * (gc 1)) ≤ 33000; omega⟩) hS (fun q _ h => hFc q h) hFc (fun u_2 t H1 locs ht hvm hw hB hz1 hk1 hS => ?_)
    obtain ⟨ad_3, ac_4, af_5, ag_6⟩ := u_2
    obtain ⟨hP1, hD1, hK1, ⟨hy1, hy2⟩, qe_7, qe_8⟩ := hB
    rw [ht] at hP1 hy1 hy2
    have hy1 : hpS H1 ≤ hpS s.heap + (2 * ad_3 1 - 2 * (gc 1)) := hy1
    have hy2 : 16 * H1.size ≤ 16 * s.heap.size + (ad_3 1 - (gc 1)) := hy2
    have hK1 := va_K.moved hvm.symm hK1
    have hK1 : va_K (dC, dI) vwCl [((ac_4 0), .int)] s := hK1
    have kA_9 : (ac_4 0) = kc 0 := va_K.one hK1 (hK.sub (tys' := [(kc 0, .int)]) [0] rfl)
    have hP1 : va_P (dC, dI) vwCl [((ad 46), .inr (0, [.int (n 18), .ref (ad_3 0), .int (af_5 1 0)])), ((ad_3 0), .inl ((ac_4 0), (ad_3 1), .inl (af_5 0)))] H1 := hP1
    have hD1 : va_D _ [((ad 46), .inr (0, [.int (n 18), .ref (ad_3 0), .int (af_5 1 0)])), ((ad_3 0), .inl ((ac_4 0), (ad_3 1), .inl (af_5 0)))] := hD1
    rw [kA_9] at hP1 hD1
    have qe_7 : (af_5 0) = aF (n 19) (n 18) (f 30) v1 := qe_7
    have qe_8 : (af_5 1 0) = aN (n 19) (n 18) := qe_8
    rw [qe_7, qe_8] at hP1 hD1
    obtain ⟨hP, hD⟩ := va_repl (w1 := [((ad 46), .inr (0, [.int (n 18), .ref (ad_3 0), .int (aN (n 19) (n 18))])), ((ad_3 0), .inl (kc 0, (ad_3 1), .inl (aF (n 19) (n 18) (f 30) v1)))]) hP hD [46, 47] hCc hNd rfl hk1 hFc hP1 hD1
    have hw_10 : (ad_3 1 = (gc 1) ∨ (ad_3 1 = 2 * (gc 1) ∧ ((gc 1) : Int) ≤ (n 19).toInt ∧ (n 19).toInt < (n 18).toInt)) ∧ ((af_5 1 0) = (n 19) ∨ (af_5 1 0).toInt = (n 19).toInt + 1) ∧ (af_5 1 0).toInt ≤ ((ad_3 1 : Nat) : Int) := hw
    rw [qe_8] at hw_10
    obtain ⟨ws_15, ga_11, gc_12, n_13, f_14, ega_11, egc_12, en_13, ef_14, hP, hD, hQ⟩ : ∃ (ws_15 : va_W) (ga_11 : Nat → Nat) (gc_12 : Nat → Nat) (n_13 : Nat → Int32) (f_14 : Nat → Nat → Int32), ga_11 = u1 ga 1 (ad_3 0) ∧ gc_12 = u1 gc 1 (ad_3 1) ∧ n_13 = u1 n 19 (aN (n 19) (n 18)) ∧ f_14 = u1 f 30 (aF (n 19) (n 18) (f 30) v1) ∧ va_P (dC, dI) vwCl ws_15 H1 ∧ va_D A ws_15 ∧ Pic9 kc ws_15 ad ga_11 gc_12 M n_13 f_14 T G K F := ⟨_, _, _, _, _, rfl, rfl, rfl, rfl, hP, hD, hQ.gr1 (ad_3 0) (ad_3 1) (aN (n 19) (n 18)) (aF (n 19) (n 18) (f 30) v1)⟩
    have hgu := S9_up M gc (ad_3 1) (q := 1) (by omega)
    rw [← egc_12] at hgu
    have hg16 := h_i8.1 1 (by omega)
    have hg17 := h_i8.2.1 1 (by omega)
    have hg18 := h_i8.2.2.2
    have hgq : gc_12 1 = (ad_3 1) := by rw [egc_12, u1_eq]
    have i1_16 : i1 M n_13 := by rw [en_13]; exact i1.pn h_i1 _ (by decide)
    have i5_17 : i5 n_13 K := by rw [en_13]; exact i5.pn h_i5 _ (by decide)
    have i6_18 : i6 n_13 T G := by rw [en_13]; exact i6.pn h_i6 _ (by decide)
    have i7_19 : i7 n_13 G := by rw [en_13]; exact i7.pn h_i7 _ (by decide)
    have i8_20 : i8 M n_13 gc_12 G := by rw [en_13, egc_12]; exact i8.gr (i8.pn h_i8 _ (by decide)) (by omega) (by omega) (fun _ => by omega)
    have i9_21 : i9 M gc_12 G R := by rw [egc_12]; exact i9.gr h_i9 _ (by decide)
    have i11_22 : i11 M n_13 gc_12 f_14 G F := by rw [en_13, egc_12, ef_14]; exact i11.gr1 h_i11 _ (by omega) hw_10.2.2
    have hn_23 : n_13 0 = n 0 := by rw [en_13, u1_ne _ _ (by decide)]
    have thn_23 := congrArg Int32.toInt hn_23
    have hSl := S9_le i8_20 i9_21
    have hb0_ := i8_20.2.1 0 (by omega)
    have hb1_ := i8_20.2.1 1 (by omega)
    have hb2_ := i8_20.2.1 2 (by omega)
    refine W_msr2 (fun hn1 hn2 hn3 => ?_)
    obtain ⟨ce2, se2, hk3, hk4, hr1, hr2⟩ : ∃ c2 s2 : Nat, H1.size ≤ s.heap.size + c2 ∧ hpS H1 ≤ hpS s.heap + s2 ∧ s2 + (260 * M + 2 * S9 M gc) ≤ (260 * M + 2 * S9 M gc_12) ∧ 16 * c2 + (256 * M + S9 M gc) ≤ (256 * M + S9 M gc_12) := ⟨H1.size - s.heap.size, hpS H1 - hpS s.heap, by omega, by omega, by have := hS.1; omega, by have := hS.1; omega⟩
    refine W_tightP hk3 hk4 ?_
    clear hm1 hm2 hm3 hn1 hn2 hn3 hk3 hk4 hk1 hz1 hy1 hy2
    generalize ce2 = ce, se2 = se at hr1 hr2 ⊢
    generalize H1 = H at hP hS ⊢
    exact by
     refine lv_aload_n hx hb dX5_add_8 rfl (lv_at hl 0 rfl) ?_
     refine va_get (D := (dC, dI)) (ci := 5) (v := .ref (ad 46)) (C := RX5) (T := TX5) (N := 2) hx hb hg gb_5 hown hK hP 45 hQ.x45 rfl 1 (by decide) (hg _ gm_fieldLink_RX5_20_ErrandGuild_Ledger_cells_LErrandGuild_Cells_) (fun _ h9 => h9) rfl dX5_add_9 ?_
     refine lv_iload_n hx hb dX5_add_12 rfl (lv_at hl 2 rfl) ?_
     have hgz_ := i11_22.2.1
     have hgm_ := i8_20.1 1 (by omega)
     have hgn_ := i8_20.2.2.2
     have hCc : ([46, 47] : List Nat).map (fun i => ws_15[i]?) = ([(ad 46, .inr (0, [.int (n_13 18), .ref (ga_11 1), .int (n_13 19)])), (ga_11 1, .inl (kc 0, gc_12 1, .inl (f_14 30)))] : va_W).map some := mp2 hQ.x46 hQ.x47
     have hNd : ([46, 47] : List Nat).Nodup := (by decide)
     have hPc := hP.pick [46, 47] hCc
     have hDc := hD.pick [46, 47] hNd hCc
     have hKc := hK.sub (tys' := [((kc 0), .int)]) [0] rfl
     have hFc := va_free (wc := [(ad 46, .inr (0, [.int (n_13 18), .ref (ga_11 1), .int (n_13 19)])), (ga_11 1, .inl (kc 0, gc_12 1, .inl (f_14 30)))]) hD hS hA [46, 47] hCc
     refine W_msr2 (fun hm1 hm2 hm3 => ?_)
     exact by
      refine va_callv (va_runV (As := [.int v2]) (rest := []) ⟨hx, hb, hml, hown, hg⟩ (c_X0_add l dC dI (ad 46) (ga_11 1) (gc_12 1) (kc 0) (f_14 30) (n_13 18) (n_13 19) v2 (hpS H) H.size (by show 16 ≤ (gc_12 1) ∧ (gc_12 1) ≤ 1000000; omega) (by show (n_13 18).toInt ≤ 1048576; omega) (by show 0 ≤ (n_13 19).toInt ∧ (n_13 19).toInt ≤ ((gc_12 1) : Int); omega) hgz_.2) (cwV 1 hg (gw_V gm_methodLink_RX5_27_yX0_add gm_instanceMethod_yX0_add gm_selects_RX0_yX0_add_yX0_add gm_initialized_RX0 gm_code_yX0_add_cX0_add_3_none) rfl rfl rfl (by decide +kernel) ⟨Nat.le_of_ble_eq_true rfl, Nat.le_of_ble_eq_true rfl⟩) ⟨fun a U g mk q => by obtain ⟨q0, q1, q2, qP, qK, qD, qN⟩ := q; exact ⟨q0, q1, q2, qP, va_K.moved (u := U) (U := U.calling g mk a) (Vm.Alike.refl U.vm) qK, qD, nx_same (u := U) (U := U.calling g mk a) rfl qN⟩, va_recv hK hP (ci := 0) (q0 := 46) rfl hQ.x46, fun U hU hW => ⟨rfl, by rw [hU], by rw [hU], by rw [hU]; exact hPc, va_K.moved hW.alike hKc, hDc.weaken (fun _ _ _ _ => trivial), nx_warm hW hN⟩⟩ rfl rfl hl.1 rfl (lv_room (Nat.le_of_ble_eq_true rfl)) dX5_add_13 ⟨by show ce + 1 ≤ 600; omega, by show se + (2 * (gc_12 1)) ≤ 33000; omega⟩) hS (fun q _ h => hFc q h) hFc (fun u_25 t H1 locs ht hvm hw hB hz1 hk1 hS => ?_)
      obtain ⟨ad_26, ac_27, af_28, ag_29⟩ := u_25
      obtain ⟨hP1, hD1, hK1, ⟨hy1, hy2⟩, qe_30, qe_31⟩ := hB
      rw [ht] at hP1 hy1 hy2
      have hy1 : hpS H1 ≤ hpS H + (2 * ad_26 1 - 2 * (gc_12 1)) := hy1
      have hy2 : 16 * H1.size ≤ 16 * H.size + (ad_26 1 - (gc_12 1)) := hy2
      have hK1 := va_K.moved hvm.symm hK1
      have hK1 : va_K (dC, dI) vwCl [((ac_27 0), .int)] s := hK1
      have kA_32 : (ac_27 0) = kc 0 := va_K.one hK1 (hK.sub (tys' := [(kc 0, .int)]) [0] rfl)
      have hP1 : va_P (dC, dI) vwCl [((ad 46), .inr (0, [.int (n_13 18), .ref (ad_26 0), .int (af_28 1 0)])), ((ad_26 0), .inl ((ac_27 0), (ad_26 1), .inl (af_28 0)))] H1 := hP1
      have hD1 : va_D _ [((ad 46), .inr (0, [.int (n_13 18), .ref (ad_26 0), .int (af_28 1 0)])), ((ad_26 0), .inl ((ac_27 0), (ad_26 1), .inl (af_28 0)))] := hD1
      rw [kA_32] at hP1 hD1
      have qe_30 : (af_28 0) = aF (n_13 19) (n_13 18) (f_14 30) v2 := qe_30
      have qe_31 : (af_28 1 0) = aN (n_13 19) (n_13 18) := qe_31
      rw [qe_30, qe_31] at hP1 hD1
      obtain ⟨hP, hD⟩ := va_repl (w1 := [((ad 46), .inr (0, [.int (n_13 18), .ref (ad_26 0), .int (aN (n_13 19) (n_13 18))])), ((ad_26 0), .inl (kc 0, (ad_26 1), .inl (aF (n_13 19) (n_13 18) (f_14 30) v2)))]) hP hD [46, 47] hCc hNd rfl hk1 hFc hP1 hD1
      have hw_33 : (ad_26 1 = (gc_12 1) ∨ (ad_26 1 = 2 * (gc_12 1) ∧ ((gc_12 1) : Int) ≤ (n_13 19).toInt ∧ (n_13 19).toInt < (n_13 18).toInt)) ∧ ((af_28 1 0) = (n_13 19) ∨ (af_28 1 0).toInt = (n_13 19).toInt + 1) ∧ (af_28 1 0).toInt ≤ ((ad_26 1 : Nat) : Int) := hw
      rw [qe_31] at hw_33
      obtain ⟨ws_38, ga_34, gc_35, n_36, f_37, ega_34, egc_35, en_36, ef_37, hP, hD, hQ⟩ : ∃ (ws_38 : va_W) (ga_34 : Nat → Nat) (gc_35 : Nat → Nat) (n_36 : Nat → Int32) (f_37 : Nat → Nat → Int32), ga_34 = u1 ga_11 1 (ad_26 0) ∧ gc_35 = u1 gc_12 1 (ad_26 1) ∧ n_36 = u1 n_13 19 (aN (n_13 19) (n_13 18)) ∧ f_37 = u1 f_14 30 (aF (n_13 19) (n_13 18) (f_14 30) v2) ∧ va_P (dC, dI) vwCl ws_38 H1 ∧ va_D A ws_38 ∧ Pic9 kc ws_38 ad ga_34 gc_35 M n_36 f_37 T G K F := ⟨_, _, _, _, _, rfl, rfl, rfl, rfl, hP, hD, hQ.gr1 (ad_26 0) (ad_26 1) (aN (n_13 19) (n_13 18)) (aF (n_13 19) (n_13 18) (f_14 30) v2)⟩
      have hgu := S9_up M gc_12 (ad_26 1) (q := 1) (by omega)
      rw [← egc_35] at hgu
      have hg16 := i8_20.1 1 (by omega)
      have hg17 := i8_20.2.1 1 (by omega)
      have hg18 := i8_20.2.2.2
      have hgq : gc_35 1 = (ad_26 1) := by rw [egc_35, u1_eq]
      have i1_39 : i1 M n_36 := by rw [en_36]; exact i1.pn i1_16 _ (by decide)
      have i5_40 : i5 n_36 K := by rw [en_36]; exact i5.pn i5_17 _ (by decide)
      have i6_41 : i6 n_36 T G := by rw [en_36]; exact i6.pn i6_18 _ (by decide)
      have i7_42 : i7 n_36 G := by rw [en_36]; exact i7.pn i7_19 _ (by decide)
      have i8_43 : i8 M n_36 gc_35 G := by rw [en_36, egc_35]; exact i8.gr (i8.pn i8_20 _ (by decide)) (by omega) (by omega) (fun _ => by omega)
      have i9_44 : i9 M gc_35 G R := by rw [egc_35]; exact i9.gr i9_21 _ (by decide)
      have i11_45 : i11 M n_36 gc_35 f_37 G F := by rw [en_36, egc_35, ef_37]; exact i11.gr1 i11_22 _ (by omega) hw_33.2.2
      have hn_46 : n_36 0 = n_13 0 := by rw [en_36, u1_ne _ _ (by decide)]
      have thn_46 := congrArg Int32.toInt hn_46
      have hSl := S9_le i8_43 i9_44
      have hb0_ := i8_43.2.1 0 (by omega)
      have hb1_ := i8_43.2.1 1 (by omega)
      have hb2_ := i8_43.2.1 2 (by omega)
      refine W_msr2 (fun hn1 hn2 hn3 => ?_)
      obtain ⟨ce2, se2, hk3, hk4, hr1, hr2⟩ : ∃ c2 s2 : Nat, H1.size ≤ s.heap.size + c2 ∧ hpS H1 ≤ hpS s.heap + s2 ∧ s2 + (260 * M + 2 * S9 M gc) ≤ (260 * M + 2 * S9 M gc_35) ∧ 16 * c2 + (256 * M + S9 M gc) ≤ (256 * M + S9 M gc_35) := ⟨H1.size - s.heap.size, hpS H1 - hpS s.heap, by omega, by omega, by have := hS.1; omega, by have := hS.1; omega⟩
      refine W_tightP hk3 hk4 ?_
      clear hm1 hm2 hm3 hn1 hn2 hn3 hk3 hk4 hk1 hz1 hy1 hy2
      generalize ce2 = ce, se2 = se at hr1 hr2 ⊢
      generalize H1 = H at hP hS ⊢
      exact by
       refine lv_aload_n hx hb dX5_add_16 rfl (lv_at hl 0 rfl) ?_
       refine va_get (D := (dC, dI)) (ci := 5) (v := .ref (ad 46)) (C := RX5) (T := TX5) (N := 2) hx hb hg gb_5 hown hK hP 45 hQ.x45 rfl 1 (by decide) (hg _ gm_fieldLink_RX5_20_ErrandGuild_Ledger_cells_LErrandGuild_Cells_) (fun _ h9 => h9) rfl dX5_add_17 ?_
       refine lv_iload_n hx hb dX5_add_20 rfl (lv_at hl 3 rfl) ?_
       have hgz_ := i11_45.2.1
       have hgm_ := i8_43.1 1 (by omega)
       have hgn_ := i8_43.2.2.2
       have hCc : ([46, 47] : List Nat).map (fun i => ws_38[i]?) = ([(ad 46, .inr (0, [.int (n_36 18), .ref (ga_34 1), .int (n_36 19)])), (ga_34 1, .inl (kc 0, gc_35 1, .inl (f_37 30)))] : va_W).map some := mp2 hQ.x46 hQ.x47
       have hNd : ([46, 47] : List Nat).Nodup := (by decide)
       have hPc := hP.pick [46, 47] hCc
       have hDc := hD.pick [46, 47] hNd hCc
       have hKc := hK.sub (tys' := [((kc 0), .int)]) [0] rfl
       have hFc := va_free (wc := [(ad 46, .inr (0, [.int (n_36 18), .ref (ga_34 1), .int (n_36 19)])), (ga_34 1, .inl (kc 0, gc_35 1, .inl (f_37 30)))]) hD hS hA [46, 47] hCc
       refine W_msr2 (fun hm1 hm2 hm3 => ?_)
       exact by
        refine va_callv (va_runV (As := [.int v3]) (rest := []) ⟨hx, hb, hml, hown, hg⟩ (c_X0_add l dC dI (ad 46) (ga_34 1) (gc_35 1) (kc 0) (f_37 30) (n_36 18) (n_36 19) v3 (hpS H) H.size (by show 16 ≤ (gc_35 1) ∧ (gc_35 1) ≤ 1000000; omega) (by show (n_36 18).toInt ≤ 1048576; omega) (by show 0 ≤ (n_36 19).toInt ∧ (n_36 19).toInt ≤ ((gc_35 1) : Int); omega) hgz_.2) (cwV 1 hg (gw_V gm_methodLink_RX5_27_yX0_add gm_instanceMethod_yX0_add gm_selects_RX0_yX0_add_yX0_add gm_initialized_RX0 gm_code_yX0_add_cX0_add_3_none) rfl rfl rfl (by decide +kernel) ⟨Nat.le_of_ble_eq_true rfl, Nat.le_of_ble_eq_true rfl⟩) ⟨fun a U g mk q => by obtain ⟨q0, q1, q2, qP, qK, qD, qN⟩ := q; exact ⟨q0, q1, q2, qP, va_K.moved (u := U) (U := U.calling g mk a) (Vm.Alike.refl U.vm) qK, qD, nx_same (u := U) (U := U.calling g mk a) rfl qN⟩, va_recv hK hP (ci := 0) (q0 := 46) rfl hQ.x46, fun U hU hW => ⟨rfl, by rw [hU], by rw [hU], by rw [hU]; exact hPc, va_K.moved hW.alike hKc, hDc.weaken (fun _ _ _ _ => trivial), nx_warm hW hN⟩⟩ rfl rfl hl.1 rfl (lv_room (Nat.le_of_ble_eq_true rfl)) dX5_add_21 ⟨by show ce + 1 ≤ 600; omega, by show se + (2 * (gc_35 1)) ≤ 33000; omega⟩) hS (fun q _ h => hFc q h) hFc (fun u_48 t H1 locs ht hvm hw hB hz1 hk1 hS => ?_)
        obtain ⟨ad_49, ac_50, af_51, ag_52⟩ := u_48
        obtain ⟨hP1, hD1, hK1, ⟨hy1, hy2⟩, qe_53, qe_54⟩ := hB
        rw [ht] at hP1 hy1 hy2
        have hy1 : hpS H1 ≤ hpS H + (2 * ad_49 1 - 2 * (gc_35 1)) := hy1
        have hy2 : 16 * H1.size ≤ 16 * H.size + (ad_49 1 - (gc_35 1)) := hy2
        have hK1 := va_K.moved hvm.symm hK1
        have hK1 : va_K (dC, dI) vwCl [((ac_50 0), .int)] s := hK1
        have kA_55 : (ac_50 0) = kc 0 := va_K.one hK1 (hK.sub (tys' := [(kc 0, .int)]) [0] rfl)
        have hP1 : va_P (dC, dI) vwCl [((ad 46), .inr (0, [.int (n_36 18), .ref (ad_49 0), .int (af_51 1 0)])), ((ad_49 0), .inl ((ac_50 0), (ad_49 1), .inl (af_51 0)))] H1 := hP1
        have hD1 : va_D _ [((ad 46), .inr (0, [.int (n_36 18), .ref (ad_49 0), .int (af_51 1 0)])), ((ad_49 0), .inl ((ac_50 0), (ad_49 1), .inl (af_51 0)))] := hD1
        rw [kA_55] at hP1 hD1
        have qe_53 : (af_51 0) = aF (n_36 19) (n_36 18) (f_37 30) v3 := qe_53
        have qe_54 : (af_51 1 0) = aN (n_36 19) (n_36 18) := qe_54
        rw [qe_53, qe_54] at hP1 hD1
        obtain ⟨hP, hD⟩ := va_repl (w1 := [((ad 46), .inr (0, [.int (n_36 18), .ref (ad_49 0), .int (aN (n_36 19) (n_36 18))])), ((ad_49 0), .inl (kc 0, (ad_49 1), .inl (aF (n_36 19) (n_36 18) (f_37 30) v3)))]) hP hD [46, 47] hCc hNd rfl hk1 hFc hP1 hD1
        have hw_56 : (ad_49 1 = (gc_35 1) ∨ (ad_49 1 = 2 * (gc_35 1) ∧ ((gc_35 1) : Int) ≤ (n_36 19).toInt ∧ (n_36 19).toInt < (n_36 18).toInt)) ∧ ((af_51 1 0) = (n_36 19) ∨ (af_51 1 0).toInt = (n_36 19).toInt + 1) ∧ (af_51 1 0).toInt ≤ ((ad_49 1 : Nat) : Int) := hw
        rw [qe_54] at hw_56
        obtain ⟨ws_61, ga_57, gc_58, n_59, f_60, ega_57, egc_58, en_59, ef_60, hP, hD, hQ⟩ : ∃ (ws_61 : va_W) (ga_57 : Nat → Nat) (gc_58 : Nat → Nat) (n_59 : Nat → Int32) (f_60 : Nat → Nat → Int32), ga_57 = u1 ga_34 1 (ad_49 0) ∧ gc_58 = u1 gc_35 1 (ad_49 1) ∧ n_59 = u1 n_36 19 (aN (n_36 19) (n_36 18)) ∧ f_60 = u1 f_37 30 (aF (n_36 19) (n_36 18) (f_37 30) v3) ∧ va_P (dC, dI) vwCl ws_61 H1 ∧ va_D A ws_61 ∧ Pic9 kc ws_61 ad ga_57 gc_58 M n_59 f_60 T G K F := ⟨_, _, _, _, _, rfl, rfl, rfl, rfl, hP, hD, hQ.gr1 (ad_49 0) (ad_49 1) (aN (n_36 19) (n_36 18)) (aF (n_36 19) (n_36 18) (f_37 30) v3)⟩
        have hgu := S9_up M gc_35 (ad_49 1) (q := 1) (by omega)
        rw [← egc_58] at hgu
        have hg16 := i8_43.1 1 (by omega)
        have hg17 := i8_43.2.1 1 (by omega)
        have hg18 := i8_43.2.2.2
        have hgq : gc_58 1 = (ad_49 1) := by rw [egc_58, u1_eq]
        have i1_62 : i1 M n_59 := by rw [en_59]; exact i1.pn i1_39 _ (by decide)
        have i5_63 : i5 n_59 K := by rw [en_59]; exact i5.pn i5_40 _ (by decide)
        have i6_64 : i6 n_59 T G := by rw [en_59]; exact i6.pn i6_41 _ (by decide)
        have i7_65 : i7 n_59 G := by rw [en_59]; exact i7.pn i7_42 _ (by decide)
        have i8_66 : i8 M n_59 gc_58 G := by rw [en_59, egc_58]; exact i8.gr (i8.pn i8_43 _ (by decide)) (by omega) (by omega) (fun _ => by omega)
        have i9_67 : i9 M gc_58 G R := by rw [egc_58]; exact i9.gr i9_44 _ (by decide)
        have i11_68 : i11 M n_59 gc_58 f_60 G F := by rw [en_59, egc_58, ef_60]; exact i11.gr1 i11_45 _ (by omega) hw_56.2.2
        have hn_69 : n_59 0 = n_36 0 := by rw [en_59, u1_ne _ _ (by decide)]
        have thn_69 := congrArg Int32.toInt hn_69
        have hSl := S9_le i8_66 i9_67
        have hb0_ := i8_66.2.1 0 (by omega)
        have hb1_ := i8_66.2.1 1 (by omega)
        have hb2_ := i8_66.2.1 2 (by omega)
        refine W_msr2 (fun hn1 hn2 hn3 => ?_)
        obtain ⟨ce2, se2, hk3, hk4, hr1, hr2⟩ : ∃ c2 s2 : Nat, H1.size ≤ s.heap.size + c2 ∧ hpS H1 ≤ hpS s.heap + s2 ∧ s2 + (260 * M + 2 * S9 M gc) ≤ (260 * M + 2 * S9 M gc_58) ∧ 16 * c2 + (256 * M + S9 M gc) ≤ (256 * M + S9 M gc_58) := ⟨H1.size - s.heap.size, hpS H1 - hpS s.heap, by omega, by omega, by have := hS.1; omega, by have := hS.1; omega⟩
        refine W_tightP hk3 hk4 ?_
        clear hm1 hm2 hm3 hn1 hn2 hn3 hk3 hk4 hk1 hz1 hy1 hy2
        generalize ce2 = ce, se2 = se at hr1 hr2 ⊢
        generalize H1 = H at hP hS ⊢
        exact by
         refine lv_aload_n hx hb dX5_add_24 rfl (lv_at hl 0 rfl) ?_
         refine va_get (D := (dC, dI)) (ci := 5) (v := .ref (ad 46)) (C := RX5) (T := TX5) (N := 2) hx hb hg gb_5 hown hK hP 45 hQ.x45 rfl 1 (by decide) (hg _ gm_fieldLink_RX5_20_ErrandGuild_Ledger_cells_LErrandGuild_Cells_) (fun _ h9 => h9) rfl dX5_add_25 ?_
         refine lv_iload hx hb dX5_add_28 (lv_at hl 4 rfl) ?_
         have hgz_ := i11_68.2.1
         have hgm_ := i8_66.1 1 (by omega)
         have hgn_ := i8_66.2.2.2
         have hCc : ([46, 47] : List Nat).map (fun i => ws_61[i]?) = ([(ad 46, .inr (0, [.int (n_59 18), .ref (ga_57 1), .int (n_59 19)])), (ga_57 1, .inl (kc 0, gc_58 1, .inl (f_60 30)))] : va_W).map some := mp2 hQ.x46 hQ.x47
         have hNd : ([46, 47] : List Nat).Nodup := (by decide)
         have hPc := hP.pick [46, 47] hCc
         have hDc := hD.pick [46, 47] hNd hCc
         have hKc := hK.sub (tys' := [((kc 0), .int)]) [0] rfl
         have hFc := va_free (wc := [(ad 46, .inr (0, [.int (n_59 18), .ref (ga_57 1), .int (n_59 19)])), (ga_57 1, .inl (kc 0, gc_58 1, .inl (f_60 30)))]) hD hS hA [46, 47] hCc
         refine W_msr2 (fun hm1 hm2 hm3 => ?_)
         exact by
          refine va_callv (va_runV (As := [.int v4]) (rest := []) ⟨hx, hb, hml, hown, hg⟩ (c_X0_add l dC dI (ad 46) (ga_57 1) (gc_58 1) (kc 0) (f_60 30) (n_59 18) (n_59 19) v4 (hpS H) H.size (by show 16 ≤ (gc_58 1) ∧ (gc_58 1) ≤ 1000000; omega) (by show (n_59 18).toInt ≤ 1048576; omega) (by show 0 ≤ (n_59 19).toInt ∧ (n_59 19).toInt ≤ ((gc_58 1) : Int); omega) hgz_.2) (cwV 1 hg (gw_V gm_methodLink_RX5_27_yX0_add gm_instanceMethod_yX0_add gm_selects_RX0_yX0_add_yX0_add gm_initialized_RX0 gm_code_yX0_add_cX0_add_3_none) rfl rfl rfl (by decide +kernel) ⟨Nat.le_of_ble_eq_true rfl, Nat.le_of_ble_eq_true rfl⟩) ⟨fun a U g mk q => by obtain ⟨q0, q1, q2, qP, qK, qD, qN⟩ := q; exact ⟨q0, q1, q2, qP, va_K.moved (u := U) (U := U.calling g mk a) (Vm.Alike.refl U.vm) qK, qD, nx_same (u := U) (U := U.calling g mk a) rfl qN⟩, va_recv hK hP (ci := 0) (q0 := 46) rfl hQ.x46, fun U hU hW => ⟨rfl, by rw [hU], by rw [hU], by rw [hU]; exact hPc, va_K.moved hW.alike hKc, hDc.weaken (fun _ _ _ _ => trivial), nx_warm hW hN⟩⟩ rfl rfl hl.1 rfl (lv_room (Nat.le_of_ble_eq_true rfl)) dX5_add_30 ⟨by show ce + 1 ≤ 600; omega, by show se + (2 * (gc_58 1)) ≤ 33000; omega⟩) hS (fun q _ h => hFc q h) hFc (fun u_71 t H1 locs ht hvm hw hB hz1 hk1 hS => ?_)
          obtain ⟨ad_72, ac_73, af_74, ag_75⟩ := u_71
          obtain ⟨hP1, hD1, hK1, ⟨hy1, hy2⟩, qe_76, qe_77⟩ := hB
          rw [ht] at hP1 hy1 hy2
          have hy1 : hpS H1 ≤ hpS H + (2 * ad_72 1 - 2 * (gc_58 1)) := hy1
          have hy2 : 16 * H1.size ≤ 16 * H.size + (ad_72 1 - (gc_58 1)) := hy2
          have hK1 := va_K.moved hvm.symm hK1
          have hK1 : va_K (dC, dI) vwCl [((ac_73 0), .int)] s := hK1
          have kA_78 : (ac_73 0) = kc 0 := va_K.one hK1 (hK.sub (tys' := [(kc 0, .int)]) [0] rfl)
          have hP1 : va_P (dC, dI) vwCl [((ad 46), .inr (0, [.int (n_59 18), .ref (ad_72 0), .int (af_74 1 0)])), ((ad_72 0), .inl ((ac_73 0), (ad_72 1), .inl (af_74 0)))] H1 := hP1
          have hD1 : va_D _ [((ad 46), .inr (0, [.int (n_59 18), .ref (ad_72 0), .int (af_74 1 0)])), ((ad_72 0), .inl ((ac_73 0), (ad_72 1), .inl (af_74 0)))] := hD1
          rw [kA_78] at hP1 hD1
          have qe_76 : (af_74 0) = aF (n_59 19) (n_59 18) (f_60 30) v4 := qe_76
          have qe_77 : (af_74 1 0) = aN (n_59 19) (n_59 18) := qe_77
          rw [qe_76, qe_77] at hP1 hD1
          obtain ⟨hP, hD⟩ := va_repl (w1 := [((ad 46), .inr (0, [.int (n_59 18), .ref (ad_72 0), .int (aN (n_59 19) (n_59 18))])), ((ad_72 0), .inl (kc 0, (ad_72 1), .inl (aF (n_59 19) (n_59 18) (f_60 30) v4)))]) hP hD [46, 47] hCc hNd rfl hk1 hFc hP1 hD1
          have hw_79 : (ad_72 1 = (gc_58 1) ∨ (ad_72 1 = 2 * (gc_58 1) ∧ ((gc_58 1) : Int) ≤ (n_59 19).toInt ∧ (n_59 19).toInt < (n_59 18).toInt)) ∧ ((af_74 1 0) = (n_59 19) ∨ (af_74 1 0).toInt = (n_59 19).toInt + 1) ∧ (af_74 1 0).toInt ≤ ((ad_72 1 : Nat) : Int) := hw
          rw [qe_77] at hw_79
          obtain ⟨ws_84, ga_80, gc_81, n_82, f_83, ega_80, egc_81, en_82, ef_83, hP, hD, hQ⟩ : ∃ (ws_84 : va_W) (ga_80 : Nat → Nat) (gc_81 : Nat → Nat) (n_82 : Nat → Int32) (f_83 : Nat → Nat → Int32), ga_80 = u1 ga_57 1 (ad_72 0) ∧ gc_81 = u1 gc_58 1 (ad_72 1) ∧ n_82 = u1 n_59 19 (aN (n_59 19) (n_59 18)) ∧ f_83 = u1 f_60 30 (aF (n_59 19) (n_59 18) (f_60 30) v4) ∧ va_P (dC, dI) vwCl ws_84 H1 ∧ va_D A ws_84 ∧ Pic9 kc ws_84 ad ga_80 gc_81 M n_82 f_83 T G K F := ⟨_, _, _, _, _, rfl, rfl, rfl, rfl, hP, hD, hQ.gr1 (ad_72 0) (ad_72 1) (aN (n_59 19) (n_59 18)) (aF (n_59 19) (n_59 18) (f_60 30) v4)⟩
          have hgu := S9_up M gc_58 (ad_72 1) (q := 1) (by omega)
          rw [← egc_81] at hgu
          have hg16 := i8_66.1 1 (by omega)
          have hg17 := i8_66.2.1 1 (by omega)
          have hg18 := i8_66.2.2.2
          have hgq : gc_81 1 = (ad_72 1) := by rw [egc_81, u1_eq]
          have i1_85 : i1 M n_82 := by rw [en_82]; exact i1.pn i1_62 _ (by decide)
          have i5_86 : i5 n_82 K := by rw [en_82]; exact i5.pn i5_63 _ (by decide)
          have i6_87 : i6 n_82 T G := by rw [en_82]; exact i6.pn i6_64 _ (by decide)
          have i7_88 : i7 n_82 G := by rw [en_82]; exact i7.pn i7_65 _ (by decide)
          have i8_89 : i8 M n_82 gc_81 G := by rw [en_82, egc_81]; exact i8.gr (i8.pn i8_66 _ (by decide)) (by omega) (by omega) (fun _ => by omega)
          have i9_90 : i9 M gc_81 G R := by rw [egc_81]; exact i9.gr i9_67 _ (by decide)
          have i11_91 : i11 M n_82 gc_81 f_83 G F := by rw [en_82, egc_81, ef_83]; exact i11.gr1 i11_68 _ (by omega) hw_79.2.2
          have hn_92 : n_82 0 = n_59 0 := by rw [en_82, u1_ne _ _ (by decide)]
          have thn_92 := congrArg Int32.toInt hn_92
          have hSl := S9_le i8_89 i9_90
          have hb0_ := i8_89.2.1 0 (by omega)
          have hb1_ := i8_89.2.1 1 (by omega)
          have hb2_ := i8_89.2.1 2 (by omega)
          refine W_msr2 (fun hn1 hn2 hn3 => ?_)
          obtain ⟨ce2, se2, hk3, hk4, hr1, hr2⟩ : ∃ c2 s2 : Nat, H1.size ≤ s.heap.size + c2 ∧ hpS H1 ≤ hpS s.heap + s2 ∧ s2 + (260 * M + 2 * S9 M gc) ≤ (260 * M + 2 * S9 M gc_81) ∧ 16 * c2 + (256 * M + S9 M gc) ≤ (256 * M + S9 M gc_81) := ⟨H1.size - s.heap.size, hpS H1 - hpS s.heap, by omega, by omega, by have := hS.1; omega, by have := hS.1; omega⟩
          refine W_tightP hk3 hk4 ?_
          clear hm1 hm2 hm3 hn1 hn2 hn3 hk3 hk4 hk1 hz1 hy1 hy2
          generalize ce2 = ce, se2 = se at hr1 hr2 ⊢
          generalize H1 = H at hP hS ⊢
          refine W_msr2 (fun hm1 hm2 hm3 => ?_)
          have hSl := S9_le i8_89 i9_90
          have hb0_ := i8_89.2.1 0 (by omega)
          have hb1_ := i8_89.2.1 1 (by omega)
          have hb2_ := i8_89.2.1 2 (by omega)
          refine W.widen (k := 600) (n := 33000) (by omega) (by omega) ?_
          exact W.vret hx hb hr (fun t ht hW => ⟨⟨(ad, ga_80, gc_81, M, n_82, f_83, T, G, K, F), rfl, ⟨(by show (C9.mk n_82 f_83 T G K F) = k_led 19 18 30 v1 v2 v3 v4 (C9.mk n f T G K F); subst ega_11; subst egc_12; subst en_13; subst ef_14; subst ega_34; subst egc_35; subst en_36; subst ef_37; subst ega_57; subst egc_58; subst en_59; subst ef_60; subst ega_80; subst egc_81; subst en_82; subst ef_83; have hX := (k_led.eq_1 19 18 30 v1 v2 v3 v4 (C9.mk n f T G K F)).symm; (repeat (first | dsimp +instances only [c9n, c9f, c9T, c9G, c9K, c9F, b_come, b_leave, b_fill, awB, b_settle, b_wake, b_take, f_take, b_gather, f_gather, b_ask, a_ask, b_tell, c_close, d_close, k_add, k_rem, sco, k_clrF, k_mem, k_rebind, k_bnd, k_beg0, k_beg1, b_giveN, b_giveR, f_open, b_hand, k_op, b_turn, wlB, b_beat, f_anew, b_wipe, b_off, k_sadd, fits, frP, cntB, b_trace, b_child, k_lat, cond_true, cond_false, Option.elim_none, Option.elim_some, Option.getD_none, Option.getD_some] at hX | rw [if_pos (by first | with_reducible assumption | omega)] at hX | rw [if_neg (by first | with_reducible assumption | omega)] at hX | rw [jx_of (by omega)] at hX)); first | exact hX | (exfalso; omega) | exact hX), (by show S9 M gc_81 + gc 1 ≤ S9 M gc + gc_81 1 ∧ (n_82 0).toInt = (n 0).toInt; omega)⟩, ws_84, by rw [ht]; exact hP, hD, hQ, ⟨i1_85, h_i2, h_i3, h_i4, i5_86, i6_87, i7_88, i8_89, i9_90, h_i10, i11_91⟩, by rw [ht]; show hpS H + (260 * M + 2 * S9 M gc) ≤ hpS s.heap + (260 * M + 2 * S9 M gc_81); omega, by rw [ht]; show 16 * H.size + (256 * M + S9 M gc) ≤ 16 * s.heap.size + (256 * M + S9 M gc_81); omega, by show (n 0).toInt ≤ (n_82 0).toInt; omega⟩, hS.F ht⟩) hS.2.2 dX5_add_33
