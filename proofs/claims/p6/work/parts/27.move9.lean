theorem T_off {T : Nat → Option Nat} {a : Nat} (t : Nat) : u1 T a none t = T t ∨ u1 T a none t = none := by
  by_cases h : t = a
  · right; rw [h, u1_eq]
  · left; rw [u1_ne _ _ h]

set_option maxHeartbeats 8000000 in
set_option maxRecDepth 100000 in
theorem c_X9_writeIn (l : Launch) (dC : Nat → ClassId) (dI : Nat → Nat → Nat) (kc : Nat → ClassId) (ws : va_W) (ad : Nat → Nat) (ga : Nat → Nat) (gc : Nat → Nat) (M : Nat) (n : Nat → Int32) (f : Nat → Nat → Int32) (T : Nat → Option Nat) (G : Nat → Nat → Int32) (K : Nat → Nat → Option Nat) (F : Nat → Nat → Nat → Int32) (R : Nat) (i : Nat) (v2 : Int32) (v3 : Int32) (sz hz : Nat) (hQ : Pic9 kc ws ad ga gc M n f T G K F) (hI : I9 M n T gc G K R) (hi : i < M) : Met l yX9_writeIn (.code yX9_writeIn cX9_writeIn 4 (some .int) :: gw) ({ frames := 2, cells := 0, slots := 0, locals := 45 }) (va_Pc [.ref (ad 0), .ref (ad (50 + 16 * i)), .int v2, .int v3] (fun U => U.heap.size = sz ∧ hpS U.heap = hz ∧ va_P (dC, dI) vwCl ws U.heap ∧ va_K (dC, dI) vwCl (t9 kc) U ∧ va_D (fun _ => True) ws ∧ nx U)) (va_Qi (fun (r : Int32) (u : (Nat → Nat) × (Nat → Nat) × (Nat → Nat) × Nat × (Nat → Int32) × (Nat → Nat → Int32) × (Nat → Option Nat) × (Nat → Nat → Int32) × (Nat → Nat → Option Nat) × (Nat → Nat → Nat → Int32)) => True) (fun u t => ∃ w : va_W, va_P (dC, dI) vwCl w t.heap ∧ va_D (va_A ws sz) w ∧ Pic9 kc w ad ga gc M n f T u.2.2.2.2.2.2.2.1 K u.2.2.2.2.2.2.2.2.2 ∧ I9 M n T gc u.2.2.2.2.2.2.2.1 K R ∧ hpS t.heap + (260 * M + 2 * S9 M gc) ≤ hz + (260 * M + 2 * S9 M gc) ∧ 16 * t.heap.size + (256 * M + S9 M gc) ≤ 16 * sz + (256 * M + S9 M gc)) (va_A ws sz)) 0 0 (va_A ws sz) := by
  refine Met.ofW (cc := cX9_writeIn) (maxL := 4) (ret := (some .int)) (by decide) rfl ?_
  intro p e s m args below meth c s₁ B hml hv
  obtain ⟨rfl, hsz, rfl, hP, hK, hD0, hN⟩ := hv
  have hx := B.exec
  have hb := B.bytes
  have hr := B.returns
  have hts := atoms_spec (ws := .code yX9_writeIn cX9_writeIn 4 (some .int) :: gw) B.pre
  have hg : ∀ w ∈ gw, w.before _ s = true := fun w h => hts w (List.mem_cons_of_mem _ h)
  have hown : s.vm.findClass RX9 = some m.cls := findClass_of_methodNamed B.named
  have hlocks := B.notSynchronized
  subst hsz
  have hD := hD0.self (sz := s.heap.size)
  generalize hAe : va_A ws s.heap.size = A at hD ⊢
  have hA : ∀ q : Nat, s.heap.size ≤ q → A q := fun q h => by rw [← hAe]; exact Or.inr h
  clear hAe
  have hS : va_S A s.heap s.heap [] := va_S.rf
  have hl := lv_entry ([.ref (ad 0), .ref (ad (50 + 16 * i)), .int v2, .int v3]) (n := 4) (Nat.le_of_ble_eq_true rfl)
  rw [lg_entry_eq]
  generalize (lg_sl ([.ref (ad 0), .ref (ad (50 + 16 * i)), .int v2, .int v3]) ++ List.replicate (4 - (lg_sl ([.ref (ad 0), .ref (ad (50 + 16 * i)), .int v2, .int v3])).length) Slot.unset).toArray = ls at hl ⊢
  have hl : lv_has ls 4 [(0, .ref (ad 0)), (1, .ref (ad (50 + 16 * i))), (2, .int v2), (3, .int v3)] := hl
  obtain ⟨h_i1, h_i2, h_i3, h_i4, h_i5, h_i6, h_i7, h_i8, h_i9⟩ := id hI
  have q1_ := h_i1
  unfold i1 at q1_
  refine lv_iload_n hx hb dX9_writeIn_0 rfl (lv_at hl 2 rfl) ?_
  have hCc : ([] : List Nat).map (fun i => ws[i]?) = ([] : va_W).map some := rfl
  have hNd : ([] : List Nat).Nodup := List.nodup_nil
  have hPc := hP.pick [] hCc
  have hDc := hD.pick [] hNd hCc
  have hKc := hK.sub (tys' := []) [] rfl
  have hFc := va_free (wc := []) hD hS hA [] hCc
  refine va_calli (va_runS (As := [.int v2]) (rest := []) ⟨hx, hb, hml, hown, hg⟩ (c_X9_isSlot l dC dI v2 s.heap.size ) (va_cwS 1 hg (gw_S gm_methodLink_RX9_62_yX9_isSlot gm_static_yX9_isSlot gm_initialized_RX9 gm_code_yX9_isSlot_cX9_isSlot_1_some_boolean_) rfl rfl rfl (by decide +kernel) ⟨Nat.le_of_ble_eq_true rfl, Nat.le_of_ble_eq_true rfl⟩) ⟨fun a U g mk q => by obtain ⟨q0, q1, qP, qK, qD, qN⟩ := q; exact ⟨q0, q1, qP, va_K.moved (u := U) (U := U.calling g mk a) (Vm.Alike.refl U.vm) qK, qD, nx_same (u := U) (U := U.calling g mk a) rfl qN⟩, fun U hU hW => ⟨rfl, by rw [hU], by rw [hU]; exact hPc, va_K.moved hW.alike hKc, hDc.weaken (fun _ _ _ _ => trivial), nx_warm hW hN⟩⟩ rfl rfl hl.1 rfl (lv_room (Nat.le_of_ble_eq_true rfl)) dX9_writeIn_1 ⟨Nat.le_of_ble_eq_true rfl, Nat.le_of_ble_eq_true rfl⟩) hS (fun q _ h => hFc q h) hFc (fun r_1 u_2 t H1 locs ht hvm hw hB hz1 hk1 hS => ?_)
  obtain ⟨hP, hD⟩ := va_replS hP hD [] rfl List.nodup_nil hk1 hFc nil_P nil_D
  generalize H1 = H at hP hS ⊢
  rcases hw with ⟨rfl, w_3⟩ | ⟨rfl, w_3⟩
  · refine lv_if_ne (tgt := 9) hx hb dX9_writeIn_4 (by decide) (fun _ => ?_) (fun c_4 => absurd c_4 (by decide))
    refine lv_aload_n hx hb dX9_writeIn_9 rfl (lv_at hl 0 rfl) ?_
    refine va_get (D := (dC, dI)) (ci := 9) (v := .ref (ad 1)) (C := RX9) (T := TX9) (N := 15) hx hb hg gb_9 hown hK hP 0 hQ.x0 rfl 0 (by decide) (hg _ gm_fieldLink_RX9_9_ErrandGuild_manners_AI_) (fun _ h9 => h9) rfl dX9_writeIn_10 ?_
    refine lv_iload_n hx hb dX9_writeIn_13 rfl (lv_at hl 2 rfl) ?_
    refine va_iald (f := f 0) hx hb hK hP 1 0 hQ.x1 rfl (vp_in_iff.mpr ⟨by omega, by omega⟩) dX9_writeIn_14 ?_
    refine lv_topi (fun z_5 ez_5 => ?_)
    rcases (show (¬ z_5.toInt = 2 ∧ ¬ z_5.toInt = 3) ∨ z_5.toInt = 2 ∨ z_5.toInt = 3 by omega) with sw_6 | sw_6 | sw_6
    · refine lv_lookup (off := 57) (tgt := 72) hx hb dX9_writeIn_15 (by decide) (by simp only [Op.lookupswitch.offset]; rw [if_neg (by omega)]; rw [if_neg (by omega)]) (by decide) ?_
      refine lv_aload_n hx hb dX9_writeIn_72 rfl (lv_at hl 1 rfl) ?_
      refine va_get (D := (dC, dI)) (ci := 7) (v := .ref (ad (50 + 16 * i + 2))) (C := RX7) (T := TX7) (N := 15) hx hb hg gb_7 hown hK hP (50 + 16 * i) (hQ.b0 hi) rfl 11 (by decide) (hg _ gm_fieldLink_RX9_253_ErrandGuild_Run_memory_LErrandGuild_Memory_) (fun _ h9 => h9) rfl dX9_writeIn_73 ?_
      refine lv_iload_n hx hb dX9_writeIn_76 rfl (lv_at hl 2 rfl) ?_
      refine lv_iload_n hx hb dX9_writeIn_77 rfl (lv_at hl 3 rfl) ?_
      have hCc : ([(50 + 16 * i + 2), (50 + 16 * i + 3), (50 + 16 * i + 4)] : List Nat).map (fun i => ws[i]?) = ([(ad (50 + 16 * i + 2), .inr (6, [.ref (ad (50 + 16 * i + 3)), .ref (ad (50 + 16 * i + 4)), .ref (ad (50 + 16 * i + 5))])), (ad (50 + 16 * i + 3), .inl (kc 1, 8, .inl (F i 0))), (ad (50 + 16 * i + 4), .inl (kc 0, 8, .inl (F i 1)))] : va_W).map some := mp3 (hQ.b2 hi) (hQ.b3 hi) (hQ.b4 hi)
      have hNd : ([(50 + 16 * i + 2), (50 + 16 * i + 3), (50 + 16 * i + 4)] : List Nat).Nodup := (nd_off (50 + 16 * i) (l := [2, 3, 4]) (by decide))
      have hPc := hP.pick [(50 + 16 * i + 2), (50 + 16 * i + 3), (50 + 16 * i + 4)] hCc
      have hDc := hD.pick [(50 + 16 * i + 2), (50 + 16 * i + 3), (50 + 16 * i + 4)] hNd hCc
      have hKc := hK.sub (tys' := [((kc 1), .boolean), ((kc 0), .int)]) [1, 0] rfl
      have hFc := va_free (wc := [(ad (50 + 16 * i + 2), .inr (6, [.ref (ad (50 + 16 * i + 3)), .ref (ad (50 + 16 * i + 4)), .ref (ad (50 + 16 * i + 5))])), (ad (50 + 16 * i + 3), .inl (kc 1, 8, .inl (F i 0))), (ad (50 + 16 * i + 4), .inl (kc 0, 8, .inl (F i 1)))]) hD hS hA [(50 + 16 * i + 2), (50 + 16 * i + 3), (50 + 16 * i + 4)] hCc
      refine va_callv (va_runV (As := [.int v2, .int v3]) (rest := []) ⟨hx, hb, hml, hown, hg⟩ (c_X6_write l dC dI (ad (50 + 16 * i + 2)) (ad (50 + 16 * i + 3)) (ad (50 + 16 * i + 4)) (ad (50 + 16 * i + 5)) (kc 1) (kc 0) (F i 0) (F i 1) v2 v3 H.size ) (cwV 2 hg (gw_V gm_methodLink_RX9_268_yX6_write gm_instanceMethod_yX6_write gm_selects_RX6_yX6_write_yX6_write gm_initialized_RX6 gm_code_yX6_write_cX6_write_3_none) rfl rfl rfl (by decide +kernel) ⟨Nat.le_of_ble_eq_true rfl, Nat.le_of_ble_eq_true rfl⟩) ⟨fun a U g mk q => by obtain ⟨q0, q1, qP, qK, qD, qN⟩ := q; exact ⟨q0, q1, qP, va_K.moved (u := U) (U := U.calling g mk a) (Vm.Alike.refl U.vm) qK, qD, nx_same (u := U) (U := U.calling g mk a) rfl qN⟩, va_recv hK hP (ci := 6) (q0 := (50 + 16 * i + 2)) rfl (hQ.b2 hi), fun U hU hW => ⟨rfl, by rw [hU], by rw [hU]; exact hPc, va_K.moved hW.alike hKc, hDc.weaken (fun _ _ _ _ => trivial), nx_warm hW hN⟩⟩ rfl rfl hl.1 rfl (lv_room (Nat.le_of_ble_eq_true rfl)) dX9_writeIn_78 ⟨Nat.le_of_ble_eq_true rfl, Nat.le_of_ble_eq_true rfl⟩) hS (fun q _ h => hFc q h) hFc (fun u_8 t H1 locs ht hvm hw hB hz1 hk1 hS => ?_)
      obtain ⟨ad_9, ac_10, af_11, ag_12⟩ := u_8
      obtain ⟨hP1, hD1, hK1⟩ := hB
      rw [ht] at hP1
      obtain ⟨hP, hD⟩ := va_repl (w1 := [((ad (50 + 16 * i + 2)), .inr (6, [.ref (ad (50 + 16 * i + 3)), .ref (ad (50 + 16 * i + 4)), .ref (ad (50 + 16 * i + 5))])), ((ad (50 + 16 * i + 3)), .inl ((kc 1), 8, .inl (af_11 0))), ((ad (50 + 16 * i + 4)), .inl ((kc 0), 8, .inl (af_11 1)))]) hP hD [(50 + 16 * i + 2), (50 + 16 * i + 3), (50 + 16 * i + 4)] hCc hNd rfl hk1 hFc hP1 hD1
      obtain ⟨ws_14, F_13, eF_13, hP, hD, hQ⟩ : ∃ (ws_14 : va_W) (F_13 : Nat → Nat → Nat → Int32), F_13 = u2 (u2 F i 0 (af_11 0)) i 1 (af_11 1) ∧ va_P (dC, dI) vwCl ws_14 H1 ∧ va_D A ws_14 ∧ Pic9 kc ws_14 ad ga gc M n f T G K F_13 := ⟨_, _, rfl, hP, hD, ((hQ.same (hQ.b2 hi)).arr hi 3 0 (by decide) (af_11 0) rfl).arr hi 4 1 (by decide) (af_11 1) rfl⟩
      generalize H1 = H at hP hS ⊢
      refine lv_iconst (v := -1) hx hb dX9_writeIn_81 (by decide) ?_
      refine W_msr2 (fun hm1 hm2 hm3 => ?_)
      exact W.iret (v := -1) hx hb hr (fun t ht hW => ⟨⟨-1, (ad, ga, gc, M, n, f, T, G, K, F_13), rfl, trivial, ws_14, by rw [ht]; exact hP, hD, hQ, ⟨h_i1, h_i2, h_i3, h_i4, h_i5, h_i6, h_i7, h_i8, h_i9⟩, by rw [ht]; show hpS H + (260 * M + 2 * S9 M gc) ≤ hpS s.heap + (260 * M + 2 * S9 M gc); omega, by rw [ht]; show 16 * H.size + (256 * M + S9 M gc) ≤ 16 * s.heap.size + (256 * M + S9 M gc); omega⟩, hS.F ht⟩) hS.2.2 dX9_writeIn_82
    · refine lv_lookup (off := 25) (tgt := 40) hx hb dX9_writeIn_15 (by decide) (by rw [sw_6]; rfl) (by decide) ?_
      refine lv_aload_n hx hb dX9_writeIn_40 rfl (lv_at hl 1 rfl) ?_
      have hFc := free_all hD hS hA
      refine va_callq (va_runV (As := []) (rest := []) ⟨hx, hb, hml, hown, hg⟩ (c_X7_root l dC dI kc ws ad ga gc M n f T G K F R i H.size (hpS H) hQ ⟨h_i1, h_i2, h_i3, h_i4, h_i5, h_i6, h_i7, h_i8, h_i9⟩ (by show i < M; omega)) (cwV 0 hg (gw_V gm_methodLink_RX9_161_yX7_root gm_instanceMethod_yX7_root gm_selects_RX7_yX7_root_yX7_root gm_initialized_RX7 gm_code_yX7_root_cX7_root_1_some_object_ErrandGuild_Run_) rfl rfl rfl (by decide +kernel) ⟨Nat.le_of_ble_eq_true rfl, Nat.le_of_ble_eq_true rfl⟩) ⟨fun a U g mk q => by obtain ⟨q0, q1, q2, qP, qK, qD, qN⟩ := q; exact ⟨q0, q1, q2, qP, va_K.moved (u := U) (U := U.calling g mk a) (Vm.Alike.refl U.vm) qK, qD, nx_same (u := U) (U := U.calling g mk a) rfl qN⟩, va_recv hK hP (ci := 7) (q0 := (50 + 16 * i)) rfl (hQ.b0 hi), fun U hU hW => ⟨rfl, by rw [hU], by rw [hU], by rw [hU]; exact hP, va_K.moved hW.alike hK, hD.weaken (fun _ _ _ _ => trivial), nx_warm hW hN⟩⟩ rfl rfl hl.1 rfl (lv_room (Nat.le_of_ble_eq_true rfl)) dX9_writeIn_41 ⟨Nat.le_of_ble_eq_true rfl, Nat.le_of_ble_eq_true rfl⟩) hS (fun q _ h => hFc q h) hFc (fun r_15 u_16 t H1 locs ht hvm hw hB hz1 hk1 hS => ?_)
      obtain ⟨hP, hD, hy1, hy2⟩ := hB
      rw [ht] at hP hy1 hy2
      have hD := hD.weaken (fun k q _ h => hFc _ h)
      have q1_ := h_i1
      unfold i1 at q1_
      generalize H1 = H at hP hS ⊢
      obtain rfl : r_15 = some (ad (50 + 16 * (rt9 K i))) := hw
      have hl_18 : (rt9 K i) < M := rt9_lt h_i3 hi
      refine W.eq (g2 := F0 m 44 ls [.ref (ad (50 + 16 * (rt9 K i)))]) rfl ?_
      refine va_get (D := (dC, dI)) (ci := 7) (v := .ref (ad (50 + 16 * (rt9 K i) + 2))) (C := RX7) (T := TX7) (N := 15) hx hb hg gb_7 hown hK hP (50 + 16 * (rt9 K i)) (hQ.b0 hl_18) rfl 11 (by decide) (hg _ gm_fieldLink_RX9_253_ErrandGuild_Run_memory_LErrandGuild_Memory_) (fun _ h9 => h9) rfl dX9_writeIn_44 ?_
      refine lv_iload_n hx hb dX9_writeIn_47 rfl (lv_at hl 2 rfl) ?_
      refine lv_iload_n hx hb dX9_writeIn_48 rfl (lv_at hl 3 rfl) ?_
      have hCc : ([(50 + 16 * (rt9 K i) + 2), (50 + 16 * (rt9 K i) + 3), (50 + 16 * (rt9 K i) + 4)] : List Nat).map (fun i => ws[i]?) = ([(ad (50 + 16 * (rt9 K i) + 2), .inr (6, [.ref (ad (50 + 16 * (rt9 K i) + 3)), .ref (ad (50 + 16 * (rt9 K i) + 4)), .ref (ad (50 + 16 * (rt9 K i) + 5))])), (ad (50 + 16 * (rt9 K i) + 3), .inl (kc 1, 8, .inl (F (rt9 K i) 0))), (ad (50 + 16 * (rt9 K i) + 4), .inl (kc 0, 8, .inl (F (rt9 K i) 1)))] : va_W).map some := mp3 (hQ.b2 hl_18) (hQ.b3 hl_18) (hQ.b4 hl_18)
      have hNd : ([(50 + 16 * (rt9 K i) + 2), (50 + 16 * (rt9 K i) + 3), (50 + 16 * (rt9 K i) + 4)] : List Nat).Nodup := (nd_off (50 + 16 * (rt9 K i)) (l := [2, 3, 4]) (by decide))
      have hPc := hP.pick [(50 + 16 * (rt9 K i) + 2), (50 + 16 * (rt9 K i) + 3), (50 + 16 * (rt9 K i) + 4)] hCc
      have hDc := hD.pick [(50 + 16 * (rt9 K i) + 2), (50 + 16 * (rt9 K i) + 3), (50 + 16 * (rt9 K i) + 4)] hNd hCc
      have hKc := hK.sub (tys' := [((kc 1), .boolean), ((kc 0), .int)]) [1, 0] rfl
      have hFc := va_free (wc := [(ad (50 + 16 * (rt9 K i) + 2), .inr (6, [.ref (ad (50 + 16 * (rt9 K i) + 3)), .ref (ad (50 + 16 * (rt9 K i) + 4)), .ref (ad (50 + 16 * (rt9 K i) + 5))])), (ad (50 + 16 * (rt9 K i) + 3), .inl (kc 1, 8, .inl (F (rt9 K i) 0))), (ad (50 + 16 * (rt9 K i) + 4), .inl (kc 0, 8, .inl (F (rt9 K i) 1)))]) hD hS hA [(50 + 16 * (rt9 K i) + 2), (50 + 16 * (rt9 K i) + 3), (50 + 16 * (rt9 K i) + 4)] hCc
      refine va_callv (va_runV (As := [.int v2, .int v3]) (rest := []) ⟨hx, hb, hml, hown, hg⟩ (c_X6_write l dC dI (ad (50 + 16 * (rt9 K i) + 2)) (ad (50 + 16 * (rt9 K i) + 3)) (ad (50 + 16 * (rt9 K i) + 4)) (ad (50 + 16 * (rt9 K i) + 5)) (kc 1) (kc 0) (F (rt9 K i) 0) (F (rt9 K i) 1) v2 v3 H.size ) (cwV 2 hg (gw_V gm_methodLink_RX9_268_yX6_write gm_instanceMethod_yX6_write gm_selects_RX6_yX6_write_yX6_write gm_initialized_RX6 gm_code_yX6_write_cX6_write_3_none) rfl rfl rfl (by decide +kernel) ⟨Nat.le_of_ble_eq_true rfl, Nat.le_of_ble_eq_true rfl⟩) ⟨fun a U g mk q => by obtain ⟨q0, q1, qP, qK, qD, qN⟩ := q; exact ⟨q0, q1, qP, va_K.moved (u := U) (U := U.calling g mk a) (Vm.Alike.refl U.vm) qK, qD, nx_same (u := U) (U := U.calling g mk a) rfl qN⟩, va_recv hK hP (ci := 6) (q0 := (50 + 16 * (rt9 K i) + 2)) rfl (hQ.b2 hl_18), fun U hU hW => ⟨rfl, by rw [hU], by rw [hU]; exact hPc, va_K.moved hW.alike hKc, hDc.weaken (fun _ _ _ _ => trivial), nx_warm hW hN⟩⟩ rfl rfl hl.1 rfl (lv_room (Nat.le_of_ble_eq_true rfl)) dX9_writeIn_49 ⟨Nat.le_of_ble_eq_true rfl, Nat.le_of_ble_eq_true rfl⟩) hS (fun q _ h => hFc q h) hFc (fun u_20 t H1 locs ht hvm hw hB hz1 hk1 hS => ?_)
      obtain ⟨ad_21, ac_22, af_23, ag_24⟩ := u_20
      obtain ⟨hP1, hD1, hK1⟩ := hB
      rw [ht] at hP1
      obtain ⟨hP, hD⟩ := va_repl (w1 := [((ad (50 + 16 * (rt9 K i) + 2)), .inr (6, [.ref (ad (50 + 16 * (rt9 K i) + 3)), .ref (ad (50 + 16 * (rt9 K i) + 4)), .ref (ad (50 + 16 * (rt9 K i) + 5))])), ((ad (50 + 16 * (rt9 K i) + 3)), .inl ((kc 1), 8, .inl (af_23 0))), ((ad (50 + 16 * (rt9 K i) + 4)), .inl ((kc 0), 8, .inl (af_23 1)))]) hP hD [(50 + 16 * (rt9 K i) + 2), (50 + 16 * (rt9 K i) + 3), (50 + 16 * (rt9 K i) + 4)] hCc hNd rfl hk1 hFc hP1 hD1
      obtain ⟨ws_26, F_25, eF_25, hP, hD, hQ⟩ : ∃ (ws_26 : va_W) (F_25 : Nat → Nat → Nat → Int32), F_25 = u2 (u2 F (rt9 K i) 0 (af_23 0)) (rt9 K i) 1 (af_23 1) ∧ va_P (dC, dI) vwCl ws_26 H1 ∧ va_D A ws_26 ∧ Pic9 kc ws_26 ad ga gc M n f T G K F_25 := ⟨_, _, rfl, hP, hD, ((hQ.same (hQ.b2 hl_18)).arr hl_18 3 0 (by decide) (af_23 0) rfl).arr hl_18 4 1 (by decide) (af_23 1) rfl⟩
      generalize H1 = H at hP hS ⊢
      refine lv_iconst (v := -1) hx hb dX9_writeIn_52 (by decide) ?_
      refine W_msr2 (fun hm1 hm2 hm3 => ?_)
      exact W.iret (v := -1) hx hb hr (fun t ht hW => ⟨⟨-1, (ad, ga, gc, M, n, f, T, G, K, F_25), rfl, trivial, ws_26, by rw [ht]; exact hP, hD, hQ, ⟨h_i1, h_i2, h_i3, h_i4, h_i5, h_i6, h_i7, h_i8, h_i9⟩, by rw [ht]; show hpS H + (260 * M + 2 * S9 M gc) ≤ hpS s.heap + (260 * M + 2 * S9 M gc); omega, by rw [ht]; show 16 * H.size + (256 * M + S9 M gc) ≤ 16 * s.heap.size + (256 * M + S9 M gc); omega⟩, hS.F ht⟩) hS.2.2 dX9_writeIn_53
    · refine lv_lookup (off := 39) (tgt := 54) hx hb dX9_writeIn_15 (by decide) (by rw [sw_6]; rfl) (by decide) ?_
      refine lv_aload_n hx hb dX9_writeIn_54 rfl (lv_at hl 1 rfl) ?_
      refine va_get (D := (dC, dI)) (ci := 7) (v := .ref (ad (50 + 16 * i + 6))) (C := RX7) (T := TX7) (N := 15) hx hb hg gb_7 hown hK hP (50 + 16 * i) (hQ.b0 hi) rfl 12 (by decide) (hg _ gm_fieldLink_RX9_177_ErrandGuild_Run_scopes_LErrandGuild_Scopes_) (fun _ h9 => h9) rfl dX9_writeIn_55 ?_
      refine lv_iload_n hx hb dX9_writeIn_58 rfl (lv_at hl 2 rfl) ?_
      refine lv_iload_n hx hb dX9_writeIn_59 rfl (lv_at hl 3 rfl) ?_
      have hCc : ([(50 + 16 * i + 6), (50 + 16 * i + 7), (50 + 16 * i + 8)] : List Nat).map (fun i => ws[i]?) = ([(ad (50 + 16 * i + 6), .inr (8, [.ref (ad (50 + 16 * i + 7)), .ref (ad (50 + 16 * i + 8)), .ref (ad (50 + 16 * i + 9)), .int (G i 14), .ref (ad (50 + 16 * i + 10)), .ref (ad (50 + 16 * i + 11)), .ref (ad (50 + 16 * i + 12)), .int (G i 15), .int (G i 16)])), (ad (50 + 16 * i + 7), .inl (kc 0, 24, .inl (F i 3))), (ad (50 + 16 * i + 8), .inl (kc 0, 24, .inl (F i 4)))] : va_W).map some := mp3 (hQ.b6 hi) (hQ.b7 hi) (hQ.b8 hi)
      have hNd : ([(50 + 16 * i + 6), (50 + 16 * i + 7), (50 + 16 * i + 8)] : List Nat).Nodup := (nd_off (50 + 16 * i) (l := [6, 7, 8]) (by decide))
      have hPc := hP.pick [(50 + 16 * i + 6), (50 + 16 * i + 7), (50 + 16 * i + 8)] hCc
      have hDc := hD.pick [(50 + 16 * i + 6), (50 + 16 * i + 7), (50 + 16 * i + 8)] hNd hCc
      have hKc := hK.sub (tys' := [((kc 0), .int), ((kc 0), .int)]) [0, 0] rfl
      have hFc := va_free (wc := [(ad (50 + 16 * i + 6), .inr (8, [.ref (ad (50 + 16 * i + 7)), .ref (ad (50 + 16 * i + 8)), .ref (ad (50 + 16 * i + 9)), .int (G i 14), .ref (ad (50 + 16 * i + 10)), .ref (ad (50 + 16 * i + 11)), .ref (ad (50 + 16 * i + 12)), .int (G i 15), .int (G i 16)])), (ad (50 + 16 * i + 7), .inl (kc 0, 24, .inl (F i 3))), (ad (50 + 16 * i + 8), .inl (kc 0, 24, .inl (F i 4)))]) hD hS hA [(50 + 16 * i + 6), (50 + 16 * i + 7), (50 + 16 * i + 8)] hCc
      refine va_calli (va_runV (As := [.int v2, .int v3]) (rest := []) ⟨hx, hb, hml, hown, hg⟩ (c_X8_rebind l dC dI (ad (50 + 16 * i + 6)) (ad (50 + 16 * i + 7)) (ad (50 + 16 * i + 8)) (ad (50 + 16 * i + 9)) (ad (50 + 16 * i + 10)) (ad (50 + 16 * i + 11)) (ad (50 + 16 * i + 12)) (kc 0) (kc 0) (F i 3) (F i 4) (G i 14) (G i 15) (G i 16) v2 v3 H.size ) (cwV 2 hg (gw_V gm_methodLink_RX9_272_yX8_rebind gm_instanceMethod_yX8_rebind gm_selects_RX8_yX8_rebind_yX8_rebind gm_initialized_RX8 gm_code_yX8_rebind_cX8_rebind_4_some_boolean_) rfl rfl rfl (by decide +kernel) ⟨Nat.le_of_ble_eq_true rfl, Nat.le_of_ble_eq_true rfl⟩) ⟨fun a U g mk q => by obtain ⟨q0, q1, qP, qK, qD, qN⟩ := q; exact ⟨q0, q1, qP, va_K.moved (u := U) (U := U.calling g mk a) (Vm.Alike.refl U.vm) qK, qD, nx_same (u := U) (U := U.calling g mk a) rfl qN⟩, va_recv hK hP (ci := 8) (q0 := (50 + 16 * i + 6)) rfl (hQ.b6 hi), fun U hU hW => ⟨rfl, by rw [hU], by rw [hU]; exact hPc, va_K.moved hW.alike hKc, hDc.weaken (fun _ _ _ _ => trivial), nx_warm hW hN⟩⟩ rfl rfl hl.1 rfl (lv_room (Nat.le_of_ble_eq_true rfl)) dX9_writeIn_60 ⟨Nat.le_of_ble_eq_true rfl, Nat.le_of_ble_eq_true rfl⟩) hS (fun q _ h => hFc q h) hFc (fun r_27 u_28 t H1 locs ht hvm hw hB hz1 hk1 hS => ?_)
      obtain ⟨ad_29, ac_30, af_31, ag_32⟩ := u_28
      obtain ⟨hP1, hD1, hK1⟩ := hB
      rw [ht] at hP1
      obtain ⟨hP, hD⟩ := va_repl (w1 := [((ad (50 + 16 * i + 6)), .inr (8, [.ref (ad (50 + 16 * i + 7)), .ref (ad (50 + 16 * i + 8)), .ref (ad (50 + 16 * i + 9)), .int (af_31 6 0), .ref (ad (50 + 16 * i + 10)), .ref (ad (50 + 16 * i + 11)), .ref (ad (50 + 16 * i + 12)), .int (af_31 7 0), .int (af_31 8 0)])), ((ad (50 + 16 * i + 7)), .inl ((kc 0), 24, .inl (F i 3))), ((ad (50 + 16 * i + 8)), .inl ((kc 0), 24, .inl (af_31 1)))]) hP hD [(50 + 16 * i + 6), (50 + 16 * i + 7), (50 + 16 * i + 8)] hCc hNd rfl hk1 hFc hP1 hD1
      obtain ⟨ws_35, G_33, F_34, eG_33, eF_34, hP, hD, hQ⟩ : ∃ (ws_35 : va_W) (G_33 : Nat → Nat → Int32) (F_34 : Nat → Nat → Nat → Int32), G_33 = u2 (u2 (u2 G i 14 (af_31 6 0)) i 15 (af_31 7 0)) i 16 (af_31 8 0) ∧ F_34 = u2 (u2 F i 3 (F i 3)) i 4 (af_31 1) ∧ va_P (dC, dI) vwCl ws_35 H1 ∧ va_D A ws_35 ∧ Pic9 kc ws_35 ad ga gc M n f T G_33 K F_34 := ⟨_, _, _, rfl, rfl, hP, hD, ((hQ.sco2 hi (af_31 6 0) (af_31 7 0) (af_31 8 0)).arr hi 7 3 (by decide) (F i 3) rfl).arr hi 8 4 (by decide) (af_31 1) rfl⟩
      have i6_36 : i6 n T G_33 := by rw [eG_33]; exact (i6.pG (i6.pG (i6.pG h_i6 i _ (by decide)) i _ (by decide)) i _ (by decide))
      have i7_37 : i7 n G_33 := by rw [eG_33]; exact (i7.pG (i7.pG (i7.pG h_i7 i _ (by decide)) i _ (by decide)) i _ (by decide))
      have i8_38 : i8 M n gc G_33 := by rw [eG_33]; exact (i8.pG (i8.pG (i8.pG h_i8 i _ (by decide)) i _ (by decide)) i _ (by decide))
      have i9_39 : i9 M gc G_33 R := by rw [eG_33]; exact (i9.pG (i9.pG (i9.pG h_i9 i _ (by decide)) i _ (by decide)) i _ (by decide))
      generalize H1 = H at hP hS ⊢
      rcases hw with ⟨rfl, w_40⟩ | ⟨rfl, w_40⟩
      · refine lv_if_eq (tgt := 70) hx hb dX9_writeIn_63 (by decide) (fun c_41 => absurd c_41 (by decide)) (fun _ => ?_)
        refine lv_iconst (v := -1) hx hb dX9_writeIn_66 (by decide) ?_
        refine lv_goto (tgt := 71) hx hb dX9_writeIn_67 (by decide) ?_
        refine W_msr2 (fun hm1 hm2 hm3 => ?_)
        exact W.iret (v := -1) hx hb hr (fun t ht hW => ⟨⟨-1, (ad, ga, gc, M, n, f, T, G_33, K, F_34), rfl, trivial, ws_35, by rw [ht]; exact hP, hD, hQ, ⟨h_i1, h_i2, h_i3, h_i4, h_i5, i6_36, i7_37, i8_38, i9_39⟩, by rw [ht]; show hpS H + (260 * M + 2 * S9 M gc) ≤ hpS s.heap + (260 * M + 2 * S9 M gc); omega, by rw [ht]; show 16 * H.size + (256 * M + S9 M gc) ≤ 16 * s.heap.size + (256 * M + S9 M gc); omega⟩, hS.F ht⟩) hS.2.2 dX9_writeIn_71
      · refine lv_if_eq (tgt := 70) hx hb dX9_writeIn_63 (by decide) (fun _ => ?_) (fun c_42 => absurd c_42 (by decide))
        refine lv_iconst (v := 5) hx hb dX9_writeIn_70 (by decide) ?_
        refine W_msr2 (fun hm1 hm2 hm3 => ?_)
        exact W.iret (v := 5) hx hb hr (fun t ht hW => ⟨⟨5, (ad, ga, gc, M, n, f, T, G_33, K, F_34), rfl, trivial, ws_35, by rw [ht]; exact hP, hD, hQ, ⟨h_i1, h_i2, h_i3, h_i4, h_i5, i6_36, i7_37, i8_38, i9_39⟩, by rw [ht]; show hpS H + (260 * M + 2 * S9 M gc) ≤ hpS s.heap + (260 * M + 2 * S9 M gc); omega, by rw [ht]; show 16 * H.size + (256 * M + S9 M gc) ≤ 16 * s.heap.size + (256 * M + S9 M gc); omega⟩, hS.F ht⟩) hS.2.2 dX9_writeIn_71
  · refine lv_if_ne (tgt := 9) hx hb dX9_writeIn_4 (by decide) (fun c_43 => absurd c_43 (by decide)) (fun _ => ?_)
    refine lv_iconst (v := 5) hx hb dX9_writeIn_7 (by decide) ?_
    refine W_msr2 (fun hm1 hm2 hm3 => ?_)
    exact W.iret (v := 5) hx hb hr (fun t ht hW => ⟨⟨5, (ad, ga, gc, M, n, f, T, G, K, F), rfl, trivial, ws, by rw [ht]; exact hP, hD, hQ, ⟨h_i1, h_i2, h_i3, h_i4, h_i5, h_i6, h_i7, h_i8, h_i9⟩, by rw [ht]; show hpS H + (260 * M + 2 * S9 M gc) ≤ hpS s.heap + (260 * M + 2 * S9 M gc); omega, by rw [ht]; show 16 * H.size + (256 * M + S9 M gc) ≤ 16 * s.heap.size + (256 * M + S9 M gc); omega⟩, hS.F ht⟩) hS.2.2 dX9_writeIn_8

set_option maxHeartbeats 8000000 in
set_option maxRecDepth 100000 in
theorem c_X9_bind (l : Launch) (dC : Nat → ClassId) (dI : Nat → Nat → Nat) (kc : Nat → ClassId) (ws : va_W) (ad : Nat → Nat) (ga : Nat → Nat) (gc : Nat → Nat) (M : Nat) (n : Nat → Int32) (f : Nat → Nat → Int32) (T : Nat → Option Nat) (G : Nat → Nat → Int32) (K : Nat → Nat → Option Nat) (F : Nat → Nat → Nat → Int32) (R : Nat) (i : Nat) (v2 : Int32) (v3 : Int32) (sz hz : Nat) (hQ : Pic9 kc ws ad ga gc M n f T G K F) (hI : I9 M n T gc G K R) (hi : i < M) : Met l yX9_bind (.code yX9_bind cX9_bind 4 (some .int) :: gw) ({ frames := 1, cells := 0, slots := 0, locals := 22 }) (va_Pc [.ref (ad 0), .ref (ad (50 + 16 * i)), .int v2, .int v3] (fun U => U.heap.size = sz ∧ hpS U.heap = hz ∧ va_P (dC, dI) vwCl ws U.heap ∧ va_K (dC, dI) vwCl (t9 kc) U ∧ va_D (fun _ => True) ws ∧ nx U)) (va_Qi (fun (r : Int32) (u : (Nat → Nat) × (Nat → Nat) × (Nat → Nat) × Nat × (Nat → Int32) × (Nat → Nat → Int32) × (Nat → Option Nat) × (Nat → Nat → Int32) × (Nat → Nat → Option Nat) × (Nat → Nat → Nat → Int32)) => True) (fun u t => ∃ w : va_W, va_P (dC, dI) vwCl w t.heap ∧ va_D (va_A ws sz) w ∧ Pic9 kc w ad ga gc M n f T u.2.2.2.2.2.2.2.1 K u.2.2.2.2.2.2.2.2.2 ∧ I9 M n T gc u.2.2.2.2.2.2.2.1 K R ∧ hpS t.heap + (260 * M + 2 * S9 M gc) ≤ hz + (260 * M + 2 * S9 M gc) ∧ 16 * t.heap.size + (256 * M + S9 M gc) ≤ 16 * sz + (256 * M + S9 M gc)) (va_A ws sz)) 0 0 (va_A ws sz) := by
  refine Met.ofW (cc := cX9_bind) (maxL := 4) (ret := (some .int)) (by decide) rfl ?_
  intro p e s m args below meth c s₁ B hml hv
  obtain ⟨rfl, hsz, rfl, hP, hK, hD0, hN⟩ := hv
  have hx := B.exec
  have hb := B.bytes
  have hr := B.returns
  have hts := atoms_spec (ws := .code yX9_bind cX9_bind 4 (some .int) :: gw) B.pre
  have hg : ∀ w ∈ gw, w.before _ s = true := fun w h => hts w (List.mem_cons_of_mem _ h)
  have hown : s.vm.findClass RX9 = some m.cls := findClass_of_methodNamed B.named
  have hlocks := B.notSynchronized
  subst hsz
  have hD := hD0.self (sz := s.heap.size)
  generalize hAe : va_A ws s.heap.size = A at hD ⊢
  have hA : ∀ q : Nat, s.heap.size ≤ q → A q := fun q h => by rw [← hAe]; exact Or.inr h
  clear hAe
  have hS : va_S A s.heap s.heap [] := va_S.rf
  have hl := lv_entry ([.ref (ad 0), .ref (ad (50 + 16 * i)), .int v2, .int v3]) (n := 4) (Nat.le_of_ble_eq_true rfl)
  rw [lg_entry_eq]
  generalize (lg_sl ([.ref (ad 0), .ref (ad (50 + 16 * i)), .int v2, .int v3]) ++ List.replicate (4 - (lg_sl ([.ref (ad 0), .ref (ad (50 + 16 * i)), .int v2, .int v3])).length) Slot.unset).toArray = ls at hl ⊢
  have hl : lv_has ls 4 [(0, .ref (ad 0)), (1, .ref (ad (50 + 16 * i))), (2, .int v2), (3, .int v3)] := hl
  obtain ⟨h_i1, h_i2, h_i3, h_i4, h_i5, h_i6, h_i7, h_i8, h_i9⟩ := id hI
  have q1_ := h_i1
  unfold i1 at q1_
  refine lv_iload_n hx hb dX9_bind_0 rfl (lv_at hl 2 rfl) ?_
  have hCc : ([] : List Nat).map (fun i => ws[i]?) = ([] : va_W).map some := rfl
  have hNd : ([] : List Nat).Nodup := List.nodup_nil
  have hPc := hP.pick [] hCc
  have hDc := hD.pick [] hNd hCc
  have hKc := hK.sub (tys' := []) [] rfl
  have hFc := va_free (wc := []) hD hS hA [] hCc
  refine va_calli (va_runS (As := [.int v2]) (rest := []) ⟨hx, hb, hml, hown, hg⟩ (c_X9_isSlot l dC dI v2 s.heap.size ) (va_cwS 1 hg (gw_S gm_methodLink_RX9_62_yX9_isSlot gm_static_yX9_isSlot gm_initialized_RX9 gm_code_yX9_isSlot_cX9_isSlot_1_some_boolean_) rfl rfl rfl (by decide +kernel) ⟨Nat.le_of_ble_eq_true rfl, Nat.le_of_ble_eq_true rfl⟩) ⟨fun a U g mk q => by obtain ⟨q0, q1, qP, qK, qD, qN⟩ := q; exact ⟨q0, q1, qP, va_K.moved (u := U) (U := U.calling g mk a) (Vm.Alike.refl U.vm) qK, qD, nx_same (u := U) (U := U.calling g mk a) rfl qN⟩, fun U hU hW => ⟨rfl, by rw [hU], by rw [hU]; exact hPc, va_K.moved hW.alike hKc, hDc.weaken (fun _ _ _ _ => trivial), nx_warm hW hN⟩⟩ rfl rfl hl.1 rfl (lv_room (Nat.le_of_ble_eq_true rfl)) dX9_bind_1 ⟨Nat.le_of_ble_eq_true rfl, Nat.le_of_ble_eq_true rfl⟩) hS (fun q _ h => hFc q h) hFc (fun r_1 u_2 t H1 locs ht hvm hw hB hz1 hk1 hS => ?_)
  obtain ⟨hP, hD⟩ := va_replS hP hD [] rfl List.nodup_nil hk1 hFc nil_P nil_D
  generalize H1 = H at hP hS ⊢
  rcases hw with ⟨rfl, w_3⟩ | ⟨rfl, w_3⟩
  · refine lv_if_eq (tgt := 17) hx hb dX9_bind_4 (by decide) (fun c_4 => absurd c_4 (by decide)) (fun _ => ?_)
    refine lv_aload_n hx hb dX9_bind_7 rfl (lv_at hl 0 rfl) ?_
    refine va_get (D := (dC, dI)) (ci := 9) (v := .ref (ad 1)) (C := RX9) (T := TX9) (N := 15) hx hb hg gb_9 hown hK hP 0 hQ.x0 rfl 0 (by decide) (hg _ gm_fieldLink_RX9_9_ErrandGuild_manners_AI_) (fun _ h9 => h9) rfl dX9_bind_8 ?_
    refine lv_iload_n hx hb dX9_bind_11 rfl (lv_at hl 2 rfl) ?_
    refine va_iald (f := f 0) hx hb hK hP 1 0 hQ.x1 rfl (vp_in_iff.mpr ⟨by omega, by omega⟩) dX9_bind_12 ?_
    refine lv_topi (fun z_5 ez_5 => ?_)
    refine lv_iconst (v := 3) hx hb dX9_bind_13 (by decide) ?_
    refine lv_icmp_eq (tgt := 19) hx hb dX9_bind_14 (by decide) (fun c_6 => ?_) (fun c_6 => ?_)
    · simp only [i_lt, i_le, i_eq, ti_3] at c_6
      refine lv_aload_n hx hb dX9_bind_19 rfl (lv_at hl 1 rfl) ?_
      refine va_get (D := (dC, dI)) (ci := 7) (v := .ref (ad (50 + 16 * i + 6))) (C := RX7) (T := TX7) (N := 15) hx hb hg gb_7 hown hK hP (50 + 16 * i) (hQ.b0 hi) rfl 12 (by decide) (hg _ gm_fieldLink_RX9_177_ErrandGuild_Run_scopes_LErrandGuild_Scopes_) (fun _ h9 => h9) rfl dX9_bind_20 ?_
      refine lv_iload_n hx hb dX9_bind_23 rfl (lv_at hl 2 rfl) ?_
      refine lv_iload_n hx hb dX9_bind_24 rfl (lv_at hl 3 rfl) ?_
      have hCc : ([(50 + 16 * i + 6), (50 + 16 * i + 7), (50 + 16 * i + 8), (50 + 16 * i + 9)] : List Nat).map (fun i => ws[i]?) = ([(ad (50 + 16 * i + 6), .inr (8, [.ref (ad (50 + 16 * i + 7)), .ref (ad (50 + 16 * i + 8)), .ref (ad (50 + 16 * i + 9)), .int (G i 14), .ref (ad (50 + 16 * i + 10)), .ref (ad (50 + 16 * i + 11)), .ref (ad (50 + 16 * i + 12)), .int (G i 15), .int (G i 16)])), (ad (50 + 16 * i + 7), .inl (kc 0, 24, .inl (F i 3))), (ad (50 + 16 * i + 8), .inl (kc 0, 24, .inl (F i 4))), (ad (50 + 16 * i + 9), .inl (kc 0, 24, .inl (F i 5)))] : va_W).map some := mp4 (hQ.b6 hi) (hQ.b7 hi) (hQ.b8 hi) (hQ.b9 hi)
      have hNd : ([(50 + 16 * i + 6), (50 + 16 * i + 7), (50 + 16 * i + 8), (50 + 16 * i + 9)] : List Nat).Nodup := (nd_off (50 + 16 * i) (l := [6, 7, 8, 9]) (by decide))
      have hPc := hP.pick [(50 + 16 * i + 6), (50 + 16 * i + 7), (50 + 16 * i + 8), (50 + 16 * i + 9)] hCc
      have hDc := hD.pick [(50 + 16 * i + 6), (50 + 16 * i + 7), (50 + 16 * i + 8), (50 + 16 * i + 9)] hNd hCc
      have hKc := hK.sub (tys' := [((kc 0), .int), ((kc 0), .int), ((kc 0), .int)]) [0, 0, 0] rfl
      have hFc := va_free (wc := [(ad (50 + 16 * i + 6), .inr (8, [.ref (ad (50 + 16 * i + 7)), .ref (ad (50 + 16 * i + 8)), .ref (ad (50 + 16 * i + 9)), .int (G i 14), .ref (ad (50 + 16 * i + 10)), .ref (ad (50 + 16 * i + 11)), .ref (ad (50 + 16 * i + 12)), .int (G i 15), .int (G i 16)])), (ad (50 + 16 * i + 7), .inl (kc 0, 24, .inl (F i 3))), (ad (50 + 16 * i + 8), .inl (kc 0, 24, .inl (F i 4))), (ad (50 + 16 * i + 9), .inl (kc 0, 24, .inl (F i 5)))]) hD hS hA [(50 + 16 * i + 6), (50 + 16 * i + 7), (50 + 16 * i + 8), (50 + 16 * i + 9)] hCc
      refine va_callv (va_runV (As := [.int v2, .int v3]) (rest := []) ⟨hx, hb, hml, hown, hg⟩ (c_X8_bind l dC dI (ad (50 + 16 * i + 6)) (ad (50 + 16 * i + 7)) (ad (50 + 16 * i + 8)) (ad (50 + 16 * i + 9)) (ad (50 + 16 * i + 10)) (ad (50 + 16 * i + 11)) (ad (50 + 16 * i + 12)) (kc 0) (kc 0) (kc 0) (F i 3) (F i 4) (F i 5) (G i 14) (G i 15) (G i 16) v2 v3 H.size ) (cwV 2 hg (gw_V gm_methodLink_RX9_279_yX8_bind gm_instanceMethod_yX8_bind gm_selects_RX8_yX8_bind_yX8_bind gm_initialized_RX8 gm_code_yX8_bind_cX8_bind_3_none) rfl rfl rfl (by decide +kernel) ⟨Nat.le_of_ble_eq_true rfl, Nat.le_of_ble_eq_true rfl⟩) ⟨fun a U g mk q => by obtain ⟨q0, q1, qP, qK, qD, qN⟩ := q; exact ⟨q0, q1, qP, va_K.moved (u := U) (U := U.calling g mk a) (Vm.Alike.refl U.vm) qK, qD, nx_same (u := U) (U := U.calling g mk a) rfl qN⟩, va_recv hK hP (ci := 8) (q0 := (50 + 16 * i + 6)) rfl (hQ.b6 hi), fun U hU hW => ⟨rfl, by rw [hU], by rw [hU]; exact hPc, va_K.moved hW.alike hKc, hDc.weaken (fun _ _ _ _ => trivial), nx_warm hW hN⟩⟩ rfl rfl hl.1 rfl (lv_room (Nat.le_of_ble_eq_true rfl)) dX9_bind_25 ⟨Nat.le_of_ble_eq_true rfl, Nat.le_of_ble_eq_true rfl⟩) hS (fun q _ h => hFc q h) hFc (fun u_8 t H1 locs ht hvm hw hB hz1 hk1 hS => ?_)
      obtain ⟨ad_9, ac_10, af_11, ag_12⟩ := u_8
      obtain ⟨hP1, hD1, hK1⟩ := hB
      rw [ht] at hP1
      obtain ⟨hP, hD⟩ := va_repl (w1 := [((ad (50 + 16 * i + 6)), .inr (8, [.ref (ad (50 + 16 * i + 7)), .ref (ad (50 + 16 * i + 8)), .ref (ad (50 + 16 * i + 9)), .int (af_11 6 0), .ref (ad (50 + 16 * i + 10)), .ref (ad (50 + 16 * i + 11)), .ref (ad (50 + 16 * i + 12)), .int (af_11 7 0), .int (af_11 8 0)])), ((ad (50 + 16 * i + 7)), .inl ((kc 0), 24, .inl (af_11 0))), ((ad (50 + 16 * i + 8)), .inl ((kc 0), 24, .inl (af_11 1))), ((ad (50 + 16 * i + 9)), .inl ((kc 0), 24, .inl (af_11 2)))]) hP hD [(50 + 16 * i + 6), (50 + 16 * i + 7), (50 + 16 * i + 8), (50 + 16 * i + 9)] hCc hNd rfl hk1 hFc hP1 hD1
      obtain ⟨ws_15, G_13, F_14, eG_13, eF_14, hP, hD, hQ⟩ : ∃ (ws_15 : va_W) (G_13 : Nat → Nat → Int32) (F_14 : Nat → Nat → Nat → Int32), G_13 = u2 (u2 (u2 G i 14 (af_11 6 0)) i 15 (af_11 7 0)) i 16 (af_11 8 0) ∧ F_14 = u2 (u2 (u2 F i 3 (af_11 0)) i 4 (af_11 1)) i 5 (af_11 2) ∧ va_P (dC, dI) vwCl ws_15 H1 ∧ va_D A ws_15 ∧ Pic9 kc ws_15 ad ga gc M n f T G_13 K F_14 := ⟨_, _, _, rfl, rfl, hP, hD, (((hQ.sco2 hi (af_11 6 0) (af_11 7 0) (af_11 8 0)).arr hi 7 3 (by decide) (af_11 0) rfl).arr hi 8 4 (by decide) (af_11 1) rfl).arr hi 9 5 (by decide) (af_11 2) rfl⟩
      have i6_16 : i6 n T G_13 := by rw [eG_13]; exact (i6.pG (i6.pG (i6.pG h_i6 i _ (by decide)) i _ (by decide)) i _ (by decide))
      have i7_17 : i7 n G_13 := by rw [eG_13]; exact (i7.pG (i7.pG (i7.pG h_i7 i _ (by decide)) i _ (by decide)) i _ (by decide))
      have i8_18 : i8 M n gc G_13 := by rw [eG_13]; exact (i8.pG (i8.pG (i8.pG h_i8 i _ (by decide)) i _ (by decide)) i _ (by decide))
      have i9_19 : i9 M gc G_13 R := by rw [eG_13]; exact (i9.pG (i9.pG (i9.pG h_i9 i _ (by decide)) i _ (by decide)) i _ (by decide))
      generalize H1 = H at hP hS ⊢
      refine lv_iconst (v := -1) hx hb dX9_bind_28 (by decide) ?_
      refine W_msr2 (fun hm1 hm2 hm3 => ?_)
      exact W.iret (v := -1) hx hb hr (fun t ht hW => ⟨⟨-1, (ad, ga, gc, M, n, f, T, G_13, K, F_14), rfl, trivial, ws_15, by rw [ht]; exact hP, hD, hQ, ⟨h_i1, h_i2, h_i3, h_i4, h_i5, i6_16, i7_17, i8_18, i9_19⟩, by rw [ht]; show hpS H + (260 * M + 2 * S9 M gc) ≤ hpS s.heap + (260 * M + 2 * S9 M gc); omega, by rw [ht]; show 16 * H.size + (256 * M + S9 M gc) ≤ 16 * s.heap.size + (256 * M + S9 M gc); omega⟩, hS.F ht⟩) hS.2.2 dX9_bind_29
    · simp only [i_lt, i_le, i_eq, ti_3] at c_6
      refine lv_iconst (v := 5) hx hb dX9_bind_17 (by decide) ?_
      refine W_msr2 (fun hm1 hm2 hm3 => ?_)
      exact W.iret (v := 5) hx hb hr (fun t ht hW => ⟨⟨5, (ad, ga, gc, M, n, f, T, G, K, F), rfl, trivial, ws, by rw [ht]; exact hP, hD, hQ, ⟨h_i1, h_i2, h_i3, h_i4, h_i5, h_i6, h_i7, h_i8, h_i9⟩, by rw [ht]; show hpS H + (260 * M + 2 * S9 M gc) ≤ hpS s.heap + (260 * M + 2 * S9 M gc); omega, by rw [ht]; show 16 * H.size + (256 * M + S9 M gc) ≤ 16 * s.heap.size + (256 * M + S9 M gc); omega⟩, hS.F ht⟩) hS.2.2 dX9_bind_18
  · refine lv_if_eq (tgt := 17) hx hb dX9_bind_4 (by decide) (fun _ => ?_) (fun c_20 => absurd c_20 (by decide))
    refine lv_iconst (v := 5) hx hb dX9_bind_17 (by decide) ?_
    refine W_msr2 (fun hm1 hm2 hm3 => ?_)
    exact W.iret (v := 5) hx hb hr (fun t ht hW => ⟨⟨5, (ad, ga, gc, M, n, f, T, G, K, F), rfl, trivial, ws, by rw [ht]; exact hP, hD, hQ, ⟨h_i1, h_i2, h_i3, h_i4, h_i5, h_i6, h_i7, h_i8, h_i9⟩, by rw [ht]; show hpS H + (260 * M + 2 * S9 M gc) ≤ hpS s.heap + (260 * M + 2 * S9 M gc); omega, by rw [ht]; show 16 * H.size + (256 * M + S9 M gc) ≤ 16 * s.heap.size + (256 * M + S9 M gc); omega⟩, hS.F ht⟩) hS.2.2 dX9_bind_18

set_option maxHeartbeats 8000000 in
set_option maxRecDepth 100000 in
theorem c_X9_end (l : Launch) (dC : Nat → ClassId) (dI : Nat → Nat → Nat) (kc : Nat → ClassId) (ws : va_W) (ad : Nat → Nat) (ga : Nat → Nat) (gc : Nat → Nat) (M : Nat) (n : Nat → Int32) (f : Nat → Nat → Int32) (T : Nat → Option Nat) (G : Nat → Nat → Int32) (K : Nat → Nat → Option Nat) (F : Nat → Nat → Nat → Int32) (R : Nat) (i : Nat) (sz hz : Nat) (hQ : Pic9 kc ws ad ga gc M n f T G K F) (hI : I9 M n T gc G K R) (hi : i < M) : Met l yX9_end (.code yX9_end cX9_end 2 (some .int) :: gw) ({ frames := 1, cells := 0, slots := 0, locals := 20 }) (va_Pc [.ref (ad 0), .ref (ad (50 + 16 * i))] (fun U => U.heap.size = sz ∧ hpS U.heap = hz ∧ va_P (dC, dI) vwCl ws U.heap ∧ va_K (dC, dI) vwCl (t9 kc) U ∧ va_D (fun _ => True) ws ∧ nx U)) (va_Qi (fun (r : Int32) (u : (Nat → Nat) × (Nat → Nat) × (Nat → Nat) × Nat × (Nat → Int32) × (Nat → Nat → Int32) × (Nat → Option Nat) × (Nat → Nat → Int32) × (Nat → Nat → Option Nat) × (Nat → Nat → Nat → Int32)) => True) (fun u t => ∃ w : va_W, va_P (dC, dI) vwCl w t.heap ∧ va_D (va_A ws sz) w ∧ Pic9 kc w ad ga gc M n f T u.2.2.2.2.2.2.2.1 K F ∧ I9 M n T gc u.2.2.2.2.2.2.2.1 K R ∧ hpS t.heap + (260 * M + 2 * S9 M gc) ≤ hz + (260 * M + 2 * S9 M gc) ∧ 16 * t.heap.size + (256 * M + S9 M gc) ≤ 16 * sz + (256 * M + S9 M gc)) (va_A ws sz)) 0 0 (va_A ws sz) := by
  refine Met.ofW (cc := cX9_end) (maxL := 2) (ret := (some .int)) (by decide) rfl ?_
  intro p e s m args below meth c s₁ B hml hv
  obtain ⟨rfl, hsz, rfl, hP, hK, hD0, hN⟩ := hv
  have hx := B.exec
  have hb := B.bytes
  have hr := B.returns
  have hts := atoms_spec (ws := .code yX9_end cX9_end 2 (some .int) :: gw) B.pre
  have hg : ∀ w ∈ gw, w.before _ s = true := fun w h => hts w (List.mem_cons_of_mem _ h)
  have hown : s.vm.findClass RX9 = some m.cls := findClass_of_methodNamed B.named
  have hlocks := B.notSynchronized
  subst hsz
  have hD := hD0.self (sz := s.heap.size)
  generalize hAe : va_A ws s.heap.size = A at hD ⊢
  have hA : ∀ q : Nat, s.heap.size ≤ q → A q := fun q h => by rw [← hAe]; exact Or.inr h
  clear hAe
  have hS : va_S A s.heap s.heap [] := va_S.rf
  have hl := lv_entry ([.ref (ad 0), .ref (ad (50 + 16 * i))]) (n := 2) (Nat.le_of_ble_eq_true rfl)
  rw [lg_entry_eq]
  generalize (lg_sl ([.ref (ad 0), .ref (ad (50 + 16 * i))]) ++ List.replicate (2 - (lg_sl ([.ref (ad 0), .ref (ad (50 + 16 * i))])).length) Slot.unset).toArray = ls at hl ⊢
  have hl : lv_has ls 2 [(0, .ref (ad 0)), (1, .ref (ad (50 + 16 * i)))] := hl
  obtain ⟨h_i1, h_i2, h_i3, h_i4, h_i5, h_i6, h_i7, h_i8, h_i9⟩ := id hI
  have q1_ := h_i1
  unfold i1 at q1_
  refine lv_aload_n hx hb dX9_end_0 rfl (lv_at hl 1 rfl) ?_
  refine lv_iconst (v := 3) hx hb dX9_end_1 (by decide) ?_
  refine va_put (D := (dC, dI)) (ci := 7) (v := .int (3)) (ty := .int) (C := RX7) (T := TX7) (N := 15) hx hb hg gb_7 tyX7 tyX7_ok nmX7 hown hK hP hD hS (50 + 16 * i) (hQ.b0 hi) rfl 2 (by decide) (hg _ gm_fieldLink_RX9_145_ErrandGuild_Run_state_I_) (fun _ h9 => h9) rfl (by decide +kernel) rfl rfl (Nat.le_of_ble_eq_true rfl) dX9_end_2 (fun H locs hP hD hS => ?_)
  obtain ⟨ws_2, G_1, eG_1, hP, hD, hQ⟩ : ∃ (ws_2 : va_W) (G_1 : Nat → Nat → Int32), G_1 = u2 G i 2 3 ∧ va_P (dC, dI) vwCl ws_2 H ∧ va_D A ws_2 ∧ Pic9 kc ws_2 ad ga gc M n f T G_1 K F := ⟨_, _, rfl, hP, hD, hQ.run hi 2 (by decide) 3⟩
  have i6_3 : i6 n T G_1 := by rw [eG_1]; exact (i6.pG h_i6 i _ (by decide))
  have i7_4 : i7 n G_1 := by rw [eG_1]; exact (i7.st h_i7 i (by decide))
  have i8_5 : i8 M n gc G_1 := by rw [eG_1]; exact (i8.pG h_i8 i _ (by decide))
  have i9_6 : i9 M gc G_1 R := by rw [eG_1]; exact (i9.pG h_i9 i _ (by decide))
  have eg_7 : G_1 i 2 = 3 := by rw [eG_1, u2_eq]
  refine lv_aload_n hx hb dX9_end_5 rfl (lv_at hl 1 rfl) ?_
  refine lv_aload_n hx hb dX9_end_6 rfl (lv_at hl 0 rfl) ?_
  refine va_get (D := (dC, dI)) (ci := 9) (v := .int (n 2)) (C := RX9) (T := TX9) (N := 15) hx hb hg gb_9 hown hK hP 0 hQ.x0 rfl 8 (by decide) (hg _ gm_fieldLink_RX9_84_ErrandGuild_beats_I_) (fun _ h9 => h9) rfl dX9_end_7 ?_
  refine va_put (D := (dC, dI)) (ci := 7) (v := .int (n 2)) (ty := .int) (C := RX7) (T := TX7) (N := 15) hx hb hg gb_7 tyX7 tyX7_ok nmX7 hown hK hP hD hS (50 + 16 * i) (hQ.b0 hi) rfl 7 (by decide) (hg _ gm_fieldLink_RX9_189_ErrandGuild_Run_overBeat_I_) (fun _ h9 => h9) rfl (by decide +kernel) rfl rfl (Nat.le_of_ble_eq_true rfl) dX9_end_10 (fun H locs hP hD hS => ?_)
  obtain ⟨ws_9, G_8, eG_8, hP, hD, hQ⟩ : ∃ (ws_9 : va_W) (G_8 : Nat → Nat → Int32), G_8 = u2 G_1 i 7 (n 2) ∧ va_P (dC, dI) vwCl ws_9 H ∧ va_D A ws_9 ∧ Pic9 kc ws_9 ad ga gc M n f T G_8 K F := ⟨_, _, rfl, hP, hD, hQ.run hi 7 (by decide) (n 2)⟩
  have i6_10 : i6 n T G_8 := by rw [eG_8]; exact (i6.pG i6_3 i _ (by decide))
  have i7_11 : i7 n G_8 := by rw [eG_8]; exact (i7.pG i7_4 i _ (by decide))
  have i8_12 : i8 M n gc G_8 := by rw [eG_8]; exact (i8.pG i8_5 i _ (by decide))
  have i9_13 : i9 M gc G_8 R := by rw [eG_8]; exact (i9.pG i9_6 i _ (by decide))
  have eg_14 : G_8 i 7 = (n 2) := by rw [eG_8, u2_eq]
  refine lv_aload_n hx hb dX9_end_13 rfl (lv_at hl 1 rfl) ?_
  refine va_get (D := (dC, dI)) (ci := 7) (v := .ref (ad (50 + 16 * i + 6))) (C := RX7) (T := TX7) (N := 15) hx hb hg gb_7 hown hK hP (50 + 16 * i) (hQ.b0 hi) rfl 12 (by decide) (hg _ gm_fieldLink_RX9_177_ErrandGuild_Run_scopes_LErrandGuild_Scopes_) (fun _ h9 => h9) rfl dX9_end_14 ?_
  have hCc : ([(50 + 16 * i + 6)] : List Nat).map (fun i => ws_9[i]?) = ([(ad (50 + 16 * i + 6), .inr (8, [.ref (ad (50 + 16 * i + 7)), .ref (ad (50 + 16 * i + 8)), .ref (ad (50 + 16 * i + 9)), .int (G_8 i 14), .ref (ad (50 + 16 * i + 10)), .ref (ad (50 + 16 * i + 11)), .ref (ad (50 + 16 * i + 12)), .int (G_8 i 15), .int (G_8 i 16)]))] : va_W).map some := mp1 (hQ.b6 hi)
  have hNd : ([(50 + 16 * i + 6)] : List Nat).Nodup := (nd_off (50 + 16 * i) (l := [6]) (by decide))
  have hPc := hP.pick [(50 + 16 * i + 6)] hCc
  have hDc := hD.pick [(50 + 16 * i + 6)] hNd hCc
  have hKc := hK.sub (tys' := []) [] rfl
  have hFc := va_free (wc := [(ad (50 + 16 * i + 6), .inr (8, [.ref (ad (50 + 16 * i + 7)), .ref (ad (50 + 16 * i + 8)), .ref (ad (50 + 16 * i + 9)), .int (G_8 i 14), .ref (ad (50 + 16 * i + 10)), .ref (ad (50 + 16 * i + 11)), .ref (ad (50 + 16 * i + 12)), .int (G_8 i 15), .int (G_8 i 16)]))]) hD hS hA [(50 + 16 * i + 6)] hCc
  refine va_callv (va_runV (As := []) (rest := []) ⟨hx, hb, hml, hown, hg⟩ (c_X8_endBindings l dC dI (ad (50 + 16 * i + 6)) (ad (50 + 16 * i + 7)) (ad (50 + 16 * i + 8)) (ad (50 + 16 * i + 9)) (ad (50 + 16 * i + 10)) (ad (50 + 16 * i + 11)) (ad (50 + 16 * i + 12)) (G_8 i 14) (G_8 i 15) (G_8 i 16) H.size ) (cwV 0 hg (gw_V gm_methodLink_RX9_365_yX8_endBindings gm_instanceMethod_yX8_endBindings gm_selects_RX8_yX8_endBindings_yX8_endBindings gm_initialized_RX8 gm_code_yX8_endBindings_cX8_endBindings_1_none) rfl rfl rfl (by decide +kernel) ⟨Nat.le_of_ble_eq_true rfl, Nat.le_of_ble_eq_true rfl⟩) ⟨fun a U g mk q => by obtain ⟨q0, q1, qP, qK, qD, qN⟩ := q; exact ⟨q0, q1, qP, va_K.moved (u := U) (U := U.calling g mk a) (Vm.Alike.refl U.vm) qK, qD, nx_same (u := U) (U := U.calling g mk a) rfl qN⟩, va_recv hK hP (ci := 8) (q0 := (50 + 16 * i + 6)) rfl (hQ.b6 hi), fun U hU hW => ⟨rfl, by rw [hU], by rw [hU]; exact hPc, va_K.moved hW.alike hKc, hDc.weaken (fun _ _ _ _ => trivial), nx_warm hW hN⟩⟩ rfl rfl hl.1 rfl (lv_room (Nat.le_of_ble_eq_true rfl)) dX9_end_17 ⟨Nat.le_of_ble_eq_true rfl, Nat.le_of_ble_eq_true rfl⟩) hS (fun q _ h => hFc q h) hFc (fun u_16 t H1 locs ht hvm hw hB hz1 hk1 hS => ?_)
  obtain ⟨ad_17, ac_18, af_19, ag_20⟩ := u_16
  obtain ⟨hP1, hD1, hK1⟩ := hB
  rw [ht] at hP1
  obtain ⟨hP, hD⟩ := va_repl (w1 := [((ad (50 + 16 * i + 6)), .inr (8, [.ref (ad (50 + 16 * i + 7)), .ref (ad (50 + 16 * i + 8)), .ref (ad (50 + 16 * i + 9)), .int 0, .ref (ad (50 + 16 * i + 10)), .ref (ad (50 + 16 * i + 11)), .ref (ad (50 + 16 * i + 12)), .int (G_8 i 15), .int (G_8 i 16)]))]) hP hD [(50 + 16 * i + 6)] hCc hNd rfl hk1 hFc hP1 hD1
  obtain ⟨ws_22, G_21, eG_21, hP, hD, hQ⟩ : ∃ (ws_22 : va_W) (G_21 : Nat → Nat → Int32), G_21 = u2 (u2 (u2 G_8 i 14 0) i 15 (G_8 i 15)) i 16 (G_8 i 16) ∧ va_P (dC, dI) vwCl ws_22 H1 ∧ va_D A ws_22 ∧ Pic9 kc ws_22 ad ga gc M n f T G_21 K F := ⟨_, _, rfl, hP, hD, hQ.sco2 hi 0 (G_8 i 15) (G_8 i 16)⟩
  have i6_23 : i6 n T G_21 := by rw [eG_21]; exact (i6.pG (i6.pG (i6.pG i6_10 i _ (by decide)) i _ (by decide)) i _ (by decide))
  have i7_24 : i7 n G_21 := by rw [eG_21]; exact (i7.pG (i7.pG (i7.pG i7_11 i _ (by decide)) i _ (by decide)) i _ (by decide))
  have i8_25 : i8 M n gc G_21 := by rw [eG_21]; exact (i8.pG (i8.pG (i8.pG i8_12 i _ (by decide)) i _ (by decide)) i _ (by decide))
  have i9_26 : i9 M gc G_21 R := by rw [eG_21]; exact (i9.pG (i9.pG (i9.pG i9_13 i _ (by decide)) i _ (by decide)) i _ (by decide))
  generalize H1 = H at hP hS ⊢
  refine lv_bipush (v := -2) hx hb dX9_end_20 (by decide) ?_
  refine W_msr2 (fun hm1 hm2 hm3 => ?_)
  exact W.iret (v := -2) hx hb hr (fun t ht hW => ⟨⟨-2, (ad, ga, gc, M, n, f, T, G_21, K, F), rfl, trivial, ws_22, by rw [ht]; exact hP, hD, hQ, ⟨h_i1, h_i2, h_i3, h_i4, h_i5, i6_23, i7_24, i8_25, i9_26⟩, by rw [ht]; show hpS H + (260 * M + 2 * S9 M gc) ≤ hpS s.heap + (260 * M + 2 * S9 M gc); omega, by rw [ht]; show 16 * H.size + (256 * M + S9 M gc) ≤ 16 * s.heap.size + (256 * M + S9 M gc); omega⟩, hS.F ht⟩) hS.2.2 dX9_end_22

set_option maxHeartbeats 8000000 in
set_option maxRecDepth 100000 in
theorem c_X9_comeToThread (l : Launch) (dC : Nat → ClassId) (dI : Nat → Nat → Nat) (kc : Nat → ClassId) (ws : va_W) (ad : Nat → Nat) (ga : Nat → Nat) (gc : Nat → Nat) (M : Nat) (n : Nat → Int32) (f : Nat → Nat → Int32) (T : Nat → Option Nat) (G : Nat → Nat → Int32) (K : Nat → Nat → Option Nat) (F : Nat → Nat → Nat → Int32) (R : Nat) (i : Nat) (sz hz : Nat) (hQ : Pic9 kc ws ad ga gc M n f T G K F) (hI : I9 M n T gc G K R) (hi : i < M) : Met l yX9_comeToThread (.code yX9_comeToThread cX9_comeToThread 3 none :: gw) ({ frames := 0, cells := 0, slots := 0, locals := 0 }) (va_Pc [.ref (ad 0), .ref (ad (50 + 16 * i))] (fun U => U.heap.size = sz ∧ hpS U.heap = hz ∧ va_P (dC, dI) vwCl ws U.heap ∧ va_K (dC, dI) vwCl (t9 kc) U ∧ va_D (fun _ => True) ws ∧ nx U)) (va_Qv (fun (u : (Nat → Nat) × (Nat → Nat) × (Nat → Nat) × Nat × (Nat → Int32) × (Nat → Nat → Int32) × (Nat → Option Nat) × (Nat → Nat → Int32) × (Nat → Nat → Option Nat) × (Nat → Nat → Nat → Int32)) => True) (fun u t => ∃ w : va_W, va_P (dC, dI) vwCl w t.heap ∧ va_D (va_A ws sz) w ∧ Pic9 kc w ad ga gc M n f u.2.2.2.2.2.2.1 u.2.2.2.2.2.2.2.1 K F ∧ I9 M n u.2.2.2.2.2.2.1 gc u.2.2.2.2.2.2.2.1 K R ∧ hpS t.heap + (260 * M + 2 * S9 M gc) ≤ hz + (260 * M + 2 * S9 M gc) ∧ 16 * t.heap.size + (256 * M + S9 M gc) ≤ 16 * sz + (256 * M + S9 M gc)) (va_A ws sz)) 0 0 (va_A ws sz) := by
  refine Met.ofW (cc := cX9_comeToThread) (maxL := 3) (ret := none) (by decide) rfl ?_
  intro p e s m args below meth c s₁ B hml hv
  obtain ⟨rfl, hsz, rfl, hP, hK, hD0, hN⟩ := hv
  have hx := B.exec
  have hb := B.bytes
  have hr := B.returns
  have hts := atoms_spec (ws := .code yX9_comeToThread cX9_comeToThread 3 none :: gw) B.pre
  have hg : ∀ w ∈ gw, w.before _ s = true := fun w h => hts w (List.mem_cons_of_mem _ h)
  have hown : s.vm.findClass RX9 = some m.cls := findClass_of_methodNamed B.named
  have hlocks := B.notSynchronized
  subst hsz
  have hD := hD0.self (sz := s.heap.size)
  generalize hAe : va_A ws s.heap.size = A at hD ⊢
  have hA : ∀ q : Nat, s.heap.size ≤ q → A q := fun q h => by rw [← hAe]; exact Or.inr h
  clear hAe
  have hS : va_S A s.heap s.heap [] := va_S.rf
  have hl := lv_entry ([.ref (ad 0), .ref (ad (50 + 16 * i))]) (n := 3) (Nat.le_of_ble_eq_true rfl)
  rw [lg_entry_eq]
  generalize (lg_sl ([.ref (ad 0), .ref (ad (50 + 16 * i))]) ++ List.replicate (3 - (lg_sl ([.ref (ad 0), .ref (ad (50 + 16 * i))])).length) Slot.unset).toArray = ls at hl ⊢
  have hl : lv_has ls 3 [(0, .ref (ad 0)), (1, .ref (ad (50 + 16 * i)))] := hl
  obtain ⟨h_i1, h_i2, h_i3, h_i4, h_i5, h_i6, h_i7, h_i8, h_i9⟩ := id hI
  have q1_ := h_i1
  unfold i1 at q1_
  refine lv_iconst (v := 0) hx hb dX9_comeToThread_0 (by decide) ?_
  refine lv_istore_n (lv' := [(2, .int 0), (0, .ref (ad 0)), (1, .ref (ad (50 + 16 * i)))]) hx hb dX9_comeToThread_1 rfl hl (by decide) rfl (fun ls hl => ?_)
  have L2 : ∀ (fuel : Nat) (x_1 : Int32)     (H : Heap) (locs : List Loc) (ls : Array Slot), (7 - x_1.toInt).toNat < fuel → (0 ≤ x_1.toInt ∧ x_1.toInt ≤ 6) → va_P (dC, dI) vwCl ws H → va_D A ws → va_S A s.heap H locs → lv_has ls 3 [(2, .int x_1), (0, .ref (ad 0)), (1, .ref (ad (50 + 16 * i)))] → W p l e (headSpec (.code yX9_comeToThread cX9_comeToThread 3 none :: gw) ({ frames := 0, cells := 0, slots := 0, locals := 0 })).room s m ([.ref (ad 0), .ref (ad (50 + 16 * i))] : List Value).toArray below meth c H locs 0 0 (MQ below (va_Qv (fun (u : (Nat → Nat) × (Nat → Nat) × (Nat → Nat) × Nat × (Nat → Int32) × (Nat → Nat → Int32) × (Nat → Option Nat) × (Nat → Nat → Int32) × (Nat → Nat → Option Nat) × (Nat → Nat → Nat → Int32)) => True) (fun u t => ∃ w : va_W, va_P (dC, dI) vwCl w t.heap ∧ va_D A w ∧ Pic9 kc w ad ga gc M n f u.2.2.2.2.2.2.1 u.2.2.2.2.2.2.2.1 K F ∧ I9 M n u.2.2.2.2.2.2.1 gc u.2.2.2.2.2.2.2.1 K R ∧ hpS t.heap + (260 * M + 2 * S9 M gc) ≤ (hpS s.heap) + (260 * M + 2 * S9 M gc) ∧ 16 * t.heap.size + (256 * M + S9 M gc) ≤ 16 * s.heap.size + (256 * M + S9 M gc)) A) ([.ref (ad 0), .ref (ad (50 + 16 * i))] : List Value).toArray s 0 0 A) (F0 m 2 ls []) := by
    intro fuel
    induction fuel with
    | zero => intro x_1 H locs ls hm; exact absurd hm (Nat.not_lt_zero _)
    | succ fuel_5 ih_4 =>
      intro x_1 H locs ls hm_2 v_3 hP hD hS hl
      refine lv_iload_n hx hb dX9_comeToThread_2 rfl (lv_at hl 0 rfl) ?_
      refine lv_aload_n hx hb dX9_comeToThread_3 rfl (lv_at hl 1 rfl) ?_
      refine va_get (D := (dC, dI)) (ci := 9) (v := .int (n 1)) (C := RX9) (T := TX9) (N := 15) hx hb hg gb_9 hown hK hP 0 hQ.x0 rfl 7 (by decide) (hg _ gm_fieldLink_RX9_38_ErrandGuild_threadCount_I_) (fun _ h9 => h9) rfl dX9_comeToThread_4 ?_
      refine lv_icmp_ge (tgt := 59) hx hb dX9_comeToThread_7 (by decide) (fun c_6 => ?_) (fun c_6 => ?_)
      · simp only [i_lt, i_le, i_eq] at c_6
        refine W_msr2 (fun hm1 hm2 hm3 => ?_)
        exact W.vret hx hb hr (fun t ht hW => ⟨⟨(ad, ga, gc, M, n, f, T, G, K, F), rfl, trivial, ws, by rw [ht]; exact hP, hD, hQ, ⟨h_i1, h_i2, h_i3, h_i4, h_i5, h_i6, h_i7, h_i8, h_i9⟩, by rw [ht]; show hpS H + (260 * M + 2 * S9 M gc) ≤ hpS s.heap + (260 * M + 2 * S9 M gc); omega, by rw [ht]; show 16 * H.size + (256 * M + S9 M gc) ≤ 16 * s.heap.size + (256 * M + S9 M gc); omega⟩, hS.F ht⟩) hS.2.2 dX9_comeToThread_59
      · simp only [i_lt, i_le, i_eq] at c_6
        refine lv_iload_n hx hb dX9_comeToThread_10 rfl (lv_at hl 0 rfl) ?_
        refine lv_bipush (v := 6) hx hb dX9_comeToThread_11 (by decide) ?_
        refine lv_icmp_ge (tgt := 59) hx hb dX9_comeToThread_13 (by decide) (fun c_7 => ?_) (fun c_7 => ?_)
        · simp only [i_lt, i_le, i_eq, ti_6] at c_7
          refine W_msr2 (fun hm1 hm2 hm3 => ?_)
          exact W.vret hx hb hr (fun t ht hW => ⟨⟨(ad, ga, gc, M, n, f, T, G, K, F), rfl, trivial, ws, by rw [ht]; exact hP, hD, hQ, ⟨h_i1, h_i2, h_i3, h_i4, h_i5, h_i6, h_i7, h_i8, h_i9⟩, by rw [ht]; show hpS H + (260 * M + 2 * S9 M gc) ≤ hpS s.heap + (260 * M + 2 * S9 M gc); omega, by rw [ht]; show 16 * H.size + (256 * M + S9 M gc) ≤ 16 * s.heap.size + (256 * M + S9 M gc); omega⟩, hS.F ht⟩) hS.2.2 dX9_comeToThread_59
        · simp only [i_lt, i_le, i_eq, ti_6] at c_7
          refine lv_aload_n hx hb dX9_comeToThread_16 rfl (lv_at hl 1 rfl) ?_
          refine va_get (D := (dC, dI)) (ci := 9) (v := .ref (ad 41)) (C := RX9) (T := TX9) (N := 15) hx hb hg gb_9 hown hK hP 0 hQ.x0 rfl 6 (by decide) (hg _ gm_fieldLink_RX9_35_ErrandGuild_onThreads_ALErrandGuild_Run_) (fun _ h9 => h9) rfl dX9_comeToThread_17 ?_
          refine lv_iload_n hx hb dX9_comeToThread_20 rfl (lv_at hl 0 rfl) ?_
          refine va_aldq hx hb hK hP 41 3 hQ.x41 rfl (vp_in_iff.mpr ⟨by omega, by omega⟩) dX9_comeToThread_21 ?_
          rcases eo_8 : T (Int32.toNatClampNeg x_1) with _ | j_9
          · refine W.eq (g2 := F0 m 22 ls [.null]) (by first | rfl | (unfold thA; rw [eo_8]; rfl)) ?_
            refine lv_ifnonnullN hx hb dX9_comeToThread_22 ?_
            refine lv_aload_n hx hb dX9_comeToThread_25 rfl (lv_at hl 1 rfl) ?_
            refine va_get (D := (dC, dI)) (ci := 9) (v := .ref (ad 41)) (C := RX9) (T := TX9) (N := 15) hx hb hg gb_9 hown hK hP 0 hQ.x0 rfl 6 (by decide) (hg _ gm_fieldLink_RX9_35_ErrandGuild_onThreads_ALErrandGuild_Run_) (fun _ h9 => h9) rfl dX9_comeToThread_26 ?_
            refine lv_iload_n hx hb dX9_comeToThread_29 rfl (lv_at hl 0 rfl) ?_
            refine lv_aload_n hx hb dX9_comeToThread_30 rfl (lv_at hl 2 rfl) ?_
            refine va_astq (r := (RX7, TX7, 15)) hx hb hK hP hD hS 41 3 (50 + 16 * i) 7 hQ.x41 rfl (hQ.b0 hi) rfl (vp_in_iff.mpr ⟨by omega, by omega⟩) dX9_comeToThread_31 (fun H locs hP hD hS => ?_)
            obtain ⟨ws_11, T_10, eT_10, hP, hD, hQ⟩ : ∃ (ws_11 : va_W) (T_10 : Nat → Option Nat), T_10 = u1 T (Int32.toNatClampNeg x_1) (some i) ∧ va_P (dC, dI) vwCl ws_11 H ∧ va_D A ws_11 ∧ Pic9 kc ws_11 ad ga gc M n f T_10 G K F := ⟨_, _, rfl, hP, hD, hQ.thr (Int32.toNatClampNeg x_1) (some i)⟩
            have i2_12 : i2 M T_10 := by rw [eT_10]; exact i2.pT h_i2 _ (fun _ h => by cases h; exact hi)
            have i6_13 : i6 n T_10 G := by rw [eT_10]; exact i6.comeT h_i6 i eo_8
            refine lv_aload_n hx hb dX9_comeToThread_32 rfl (lv_at hl 2 rfl) ?_
            refine lv_iload_n hx hb dX9_comeToThread_33 rfl (lv_at hl 0 rfl) ?_
            refine va_put (D := (dC, dI)) (ci := 7) (v := .int (x_1)) (ty := .int) (C := RX7) (T := TX7) (N := 15) hx hb hg gb_7 tyX7 tyX7_ok nmX7 hown hK hP hD hS (50 + 16 * i) (hQ.b0 hi) rfl 3 (by decide) (hg _ gm_fieldLink_RX9_168_ErrandGuild_Run_thread_I_) (fun _ h9 => h9) rfl (by decide +kernel) rfl rfl (Nat.le_of_ble_eq_true rfl) dX9_comeToThread_34 (fun H locs hP hD hS => ?_)
            obtain ⟨ws_15, G_14, eG_14, hP, hD, hQ⟩ : ∃ (ws_15 : va_W) (G_14 : Nat → Nat → Int32), G_14 = u2 G i 3 x_1 ∧ va_P (dC, dI) vwCl ws_15 H ∧ va_D A ws_15 ∧ Pic9 kc ws_15 ad ga gc M n f T_10 G_14 K F := ⟨_, _, rfl, hP, hD, hQ.run hi 3 (by decide) x_1⟩
            have i6_16 : i6 n T_10 G_14 := by rw [eG_14]; exact i6.comeG (t := (Int32.toNatClampNeg x_1)) i6_13 (by rw [eT_10, u1_eq]) (by have := cl_eq x_1; omega)
            have i7_17 : i7 n G_14 := by rw [eG_14]; exact i7.thr h_i7 i (by omega)
            have i8_18 : i8 M n gc G_14 := by rw [eG_14]; exact (i8.pG h_i8 i _ (by decide))
            have i9_19 : i9 M gc G_14 R := by rw [eG_14]; exact (i9.pG h_i9 i _ (by decide))
            have eg_20 : G_14 i 3 = x_1 := by rw [eG_14, u2_eq]
            refine lv_aload_n hx hb dX9_comeToThread_37 rfl (lv_at hl 2 rfl) ?_
            refine lv_iconst (v := 1) hx hb dX9_comeToThread_38 (by decide) ?_
            refine va_put (D := (dC, dI)) (ci := 7) (v := .int (1)) (ty := .int) (C := RX7) (T := TX7) (N := 15) hx hb hg gb_7 tyX7 tyX7_ok nmX7 hown hK hP hD hS (50 + 16 * i) (hQ.b0 hi) rfl 2 (by decide) (hg _ gm_fieldLink_RX9_145_ErrandGuild_Run_state_I_) (fun _ h9 => h9) rfl (by decide +kernel) rfl rfl (Nat.le_of_ble_eq_true rfl) dX9_comeToThread_39 (fun H locs hP hD hS => ?_)
            obtain ⟨ws_22, G_21, eG_21, hP, hD, hQ⟩ : ∃ (ws_22 : va_W) (G_21 : Nat → Nat → Int32), G_21 = u2 G_14 i 2 1 ∧ va_P (dC, dI) vwCl ws_22 H ∧ va_D A ws_22 ∧ Pic9 kc ws_22 ad ga gc M n f T_10 G_21 K F := ⟨_, _, rfl, hP, hD, hQ.run hi 2 (by decide) 1⟩
            have i6_23 : i6 n T_10 G_21 := by rw [eG_21]; exact (i6.pG i6_16 i _ (by decide))
            have i7_24 : i7 n G_21 := by rw [eG_21]; exact i7.on i7_17 _ (by rw [eg_20]; omega)
            have i8_25 : i8 M n gc G_21 := by rw [eG_21]; exact (i8.pG i8_18 i _ (by decide))
            have i9_26 : i9 M gc G_21 R := by rw [eG_21]; exact (i9.pG i9_19 i _ (by decide))
            have eg_27 : G_21 i 2 = 1 := by rw [eG_21, u2_eq]
            refine lv_aload_n hx hb dX9_comeToThread_42 rfl (lv_at hl 2 rfl) ?_
            refine lv_dup hx hb dX9_comeToThread_43 rfl ?_
            refine va_get (D := (dC, dI)) (ci := 7) (v := .int (G_21 i 4)) (C := RX7) (T := TX7) (N := 15) hx hb hg gb_7 hown hK hP (50 + 16 * i) (hQ.b0 hi) rfl 4 (by decide) (hg _ gm_fieldLink_RX9_195_ErrandGuild_Run_visits_I_) (fun _ h9 => h9) rfl dX9_comeToThread_44 ?_
            refine lv_iconst (v := 1) hx hb dX9_comeToThread_47 (by decide) ?_
            refine lv_iadd hx hb dX9_comeToThread_48 ?_
            refine lv_topi (fun z_28 ez_28 => ?_)
            refine va_put (D := (dC, dI)) (ci := 7) (v := .int (z_28)) (ty := .int) (C := RX7) (T := TX7) (N := 15) hx hb hg gb_7 tyX7 tyX7_ok nmX7 hown hK hP hD hS (50 + 16 * i) (hQ.b0 hi) rfl 4 (by decide) (hg _ gm_fieldLink_RX9_195_ErrandGuild_Run_visits_I_) (fun _ h9 => h9) rfl (by decide +kernel) rfl rfl (Nat.le_of_ble_eq_true rfl) dX9_comeToThread_49 (fun H locs hP hD hS => ?_)
            obtain ⟨ws_30, G_29, eG_29, hP, hD, hQ⟩ : ∃ (ws_30 : va_W) (G_29 : Nat → Nat → Int32), G_29 = u2 G_21 i 4 z_28 ∧ va_P (dC, dI) vwCl ws_30 H ∧ va_D A ws_30 ∧ Pic9 kc ws_30 ad ga gc M n f T_10 G_29 K F := ⟨_, _, rfl, hP, hD, hQ.run hi 4 (by decide) z_28⟩
            have i6_31 : i6 n T_10 G_29 := by rw [eG_29]; exact (i6.pG i6_23 i _ (by decide))
            have i7_32 : i7 n G_29 := by rw [eG_29]; exact (i7.pG i7_24 i _ (by decide))
            have i8_33 : i8 M n gc G_29 := by rw [eG_29]; exact (i8.pG i8_25 i _ (by decide))
            have i9_34 : i9 M gc G_29 R := by rw [eG_29]; exact (i9.pG i9_26 i _ (by decide))
            have eg_35 : G_29 i 4 = z_28 := by rw [eG_29, u2_eq]
            refine W_msr2 (fun hm1 hm2 hm3 => ?_)
            exact W.vret hx hb hr (fun t ht hW => ⟨⟨(ad, ga, gc, M, n, f, T_10, G_29, K, F), rfl, trivial, ws_30, by rw [ht]; exact hP, hD, hQ, ⟨h_i1, i2_12, h_i3, h_i4, h_i5, i6_31, i7_32, i8_33, i9_34⟩, by rw [ht]; show hpS H + (260 * M + 2 * S9 M gc) ≤ hpS s.heap + (260 * M + 2 * S9 M gc); omega, by rw [ht]; show 16 * H.size + (256 * M + S9 M gc) ≤ 16 * s.heap.size + (256 * M + S9 M gc); omega⟩, hS.F ht⟩) hS.2.2 dX9_comeToThread_52
          · refine W.eq (g2 := F0 m 22 ls [.ref (ad (50 + 16 * j_9))]) (by first | rfl | (unfold thA; rw [eo_8]; rfl)) ?_
            have hj_9 : j_9 < M := h_i2 _ _ eo_8
            refine lv_ifnonnull (tgt := 53) hx hb dX9_comeToThread_22 (by decide) ?_
            obtain ⟨y_36, ey_36⟩ : ∃ q : Int32, q = x_1 + (1) := ⟨_, rfl⟩
            refine lv_iinc (v := y_36) (lv' := [(2, .int y_36), (0, .ref (ad 0)), (1, .ref (ad (50 + 16 * i)))]) hx hb dX9_comeToThread_53 hl (k := 0) rfl (by rw [ey_36]; rfl) (by decide) rfl (fun ls hl => ?_)
            have ty_36 : y_36.toInt = x_1.toInt + (1) := ar_add rfl ti_1 ey_36 (by omega)
            refine lv_goto (tgt := 2) hx hb dX9_comeToThread_56 (by decide) ?_
            exact ih_4 y_36     H locs ls (by show (7 - y_36.toInt).toNat < _; omega) (by show 0 ≤ y_36.toInt ∧ y_36.toInt ≤ 6; omega) hP hD hS (lv_sub hl [0, 1, 2] rfl)
  exact L2 _ (0 : Int32)     _ _ _ (Nat.lt_succ_self _) (by have t_0 := ti_0; show 0 ≤ (0 : Int32).toInt ∧ (0 : Int32).toInt ≤ 6; omega) hP hD hS (lv_sub hl [0, 1, 2] rfl)

set_option maxHeartbeats 8000000 in
set_option maxRecDepth 100000 in
theorem c_X9_leaveThread (l : Launch) (dC : Nat → ClassId) (dI : Nat → Nat → Nat) (kc : Nat → ClassId) (ws : va_W) (ad : Nat → Nat) (ga : Nat → Nat) (gc : Nat → Nat) (M : Nat) (n : Nat → Int32) (f : Nat → Nat → Int32) (T : Nat → Option Nat) (G : Nat → Nat → Int32) (K : Nat → Nat → Option Nat) (F : Nat → Nat → Nat → Int32) (R : Nat) (i : Nat) (sz hz : Nat) (hQ : Pic9 kc ws ad ga gc M n f T G K F) (hI : I9 M n T gc G K R) (hi : i < M) (hin : (i : Int) < (n 0).toInt) (hst : (G i 2).toInt ≠ 1) : Met l yX9_leaveThread (.code yX9_leaveThread cX9_leaveThread 3 none :: gw) ({ frames := 2, cells := 0, slots := 0, locals := 41 }) (va_Pc [.ref (ad 0), .ref (ad (50 + 16 * i))] (fun U => U.heap.size = sz ∧ hpS U.heap = hz ∧ va_P (dC, dI) vwCl ws U.heap ∧ va_K (dC, dI) vwCl (t9 kc) U ∧ va_D (fun _ => True) ws ∧ nx U)) (va_Qv (fun (u : (Nat → Nat) × (Nat → Nat) × (Nat → Nat) × Nat × (Nat → Int32) × (Nat → Nat → Int32) × (Nat → Option Nat) × (Nat → Nat → Int32) × (Nat → Nat → Option Nat) × (Nat → Nat → Nat → Int32)) => (∀ t : Nat, u.2.2.2.2.2.2.1 t = T t ∨ u.2.2.2.2.2.2.1 t = none)) (fun u t => ∃ w : va_W, va_P (dC, dI) vwCl w t.heap ∧ va_D (va_A ws sz) w ∧ Pic9 kc w ad ga gc M n f u.2.2.2.2.2.2.1 u.2.2.2.2.2.2.2.1 K u.2.2.2.2.2.2.2.2.2 ∧ I9 M n u.2.2.2.2.2.2.1 gc u.2.2.2.2.2.2.2.1 K R ∧ hpS t.heap + (260 * M + 2 * S9 M gc) ≤ hz + (260 * M + 2 * S9 M gc) ∧ 16 * t.heap.size + (256 * M + S9 M gc) ≤ 16 * sz + (256 * M + S9 M gc)) (va_A ws sz)) 0 0 (va_A ws sz) := by
  refine Met.ofW (cc := cX9_leaveThread) (maxL := 3) (ret := none) (by decide) rfl ?_
  intro p e s m args below meth c s₁ B hml hv
  obtain ⟨rfl, hsz, rfl, hP, hK, hD0, hN⟩ := hv
  have hx := B.exec
  have hb := B.bytes
  have hr := B.returns
  have hts := atoms_spec (ws := .code yX9_leaveThread cX9_leaveThread 3 none :: gw) B.pre
  have hg : ∀ w ∈ gw, w.before _ s = true := fun w h => hts w (List.mem_cons_of_mem _ h)
  have hown : s.vm.findClass RX9 = some m.cls := findClass_of_methodNamed B.named
  have hlocks := B.notSynchronized
  subst hsz
  have hD := hD0.self (sz := s.heap.size)
  generalize hAe : va_A ws s.heap.size = A at hD ⊢
  have hA : ∀ q : Nat, s.heap.size ≤ q → A q := fun q h => by rw [← hAe]; exact Or.inr h
  clear hAe
  have hS : va_S A s.heap s.heap [] := va_S.rf
  have hl := lv_entry ([.ref (ad 0), .ref (ad (50 + 16 * i))]) (n := 3) (Nat.le_of_ble_eq_true rfl)
  rw [lg_entry_eq]
  generalize (lg_sl ([.ref (ad 0), .ref (ad (50 + 16 * i))]) ++ List.replicate (3 - (lg_sl ([.ref (ad 0), .ref (ad (50 + 16 * i))])).length) Slot.unset).toArray = ls at hl ⊢
  have hl : lv_has ls 3 [(0, .ref (ad 0)), (1, .ref (ad (50 + 16 * i)))] := hl
  obtain ⟨h_i1, h_i2, h_i3, h_i4, h_i5, h_i6, h_i7, h_i8, h_i9⟩ := id hI
  have q1_ := h_i1
  unfold i1 at q1_
  refine lv_aload_n hx hb dX9_leaveThread_0 rfl (lv_at hl 1 rfl) ?_
  refine va_get (D := (dC, dI)) (ci := 7) (v := .int (G i 3)) (C := RX7) (T := TX7) (N := 15) hx hb hg gb_7 hown hK hP (50 + 16 * i) (hQ.b0 hi) rfl 3 (by decide) (hg _ gm_fieldLink_RX9_168_ErrandGuild_Run_thread_I_) (fun _ h9 => h9) rfl dX9_leaveThread_1 ?_
  refine lv_if_lt (tgt := 26) hx hb dX9_leaveThread_4 (by decide) (fun c_1 => ?_) (fun c_1 => ?_)
  · simp only [i_lt, i_le, i_eq, ti_0] at c_1
    refine lv_aload_n hx hb dX9_leaveThread_26 rfl (lv_at hl 1 rfl) ?_
    refine lv_iconst (v := -1) hx hb dX9_leaveThread_27 (by decide) ?_
    refine va_put (D := (dC, dI)) (ci := 7) (v := .int (-1)) (ty := .int) (C := RX7) (T := TX7) (N := 15) hx hb hg gb_7 tyX7 tyX7_ok nmX7 hown hK hP hD hS (50 + 16 * i) (hQ.b0 hi) rfl 3 (by decide) (hg _ gm_fieldLink_RX9_168_ErrandGuild_Run_thread_I_) (fun _ h9 => h9) rfl (by decide +kernel) rfl rfl (Nat.le_of_ble_eq_true rfl) dX9_leaveThread_28 (fun H locs hP hD hS => ?_)
    obtain ⟨ws_3, G_2, eG_2, hP, hD, hQ⟩ : ∃ (ws_3 : va_W) (G_2 : Nat → Nat → Int32), G_2 = u2 G i 3 (-1) ∧ va_P (dC, dI) vwCl ws_3 H ∧ va_D A ws_3 ∧ Pic9 kc ws_3 ad ga gc M n f T G_2 K F := ⟨_, _, rfl, hP, hD, hQ.run hi 3 (by decide) (-1)⟩
    have i6_4 : i6 n T G_2 := by rw [eG_2]; exact i6.off h_i6 i (by decide)
    have i7_5 : i7 n G_2 := by rw [eG_2]; exact i7.off h_i7 _ hst
    have i8_6 : i8 M n gc G_2 := by rw [eG_2]; exact (i8.pG h_i8 i _ (by decide))
    have i9_7 : i9 M gc G_2 R := by rw [eG_2]; exact (i9.pG h_i9 i _ (by decide))
    have eg_8 : G_2 i 3 = (-1) := by rw [eG_2, u2_eq]
    refine lv_iconst (v := 0) hx hb dX9_leaveThread_31 (by decide) ?_
    refine lv_istore_n (lv' := [(2, .int 0), (0, .ref (ad 0)), (1, .ref (ad (50 + 16 * i)))]) hx hb dX9_leaveThread_32 rfl hl (by decide) rfl (fun ls hl => ?_)
    have L33 : ∀ (fuel : Nat) (x_9 : Int32)   (ws_11 : va_W) (F_10 : Nat → Nat → Nat → Int32)  (H : Heap) (locs : List Loc) (ls : Array Slot), (9 - x_9.toInt).toNat < fuel → (0 ≤ x_9.toInt ∧ x_9.toInt ≤ 8) → Pic9 kc ws_11 ad ga gc M n f T G_2 K F_10 → I9 M n T gc G_2 K R → va_P (dC, dI) vwCl ws_11 H → va_D A ws_11 → va_S A s.heap H locs → lv_has ls 3 [(2, .int x_9), (0, .ref (ad 0)), (1, .ref (ad (50 + 16 * i)))] → W p l e (headSpec (.code yX9_leaveThread cX9_leaveThread 3 none :: gw) ({ frames := 2, cells := 0, slots := 0, locals := 41 })).room s m ([.ref (ad 0), .ref (ad (50 + 16 * i))] : List Value).toArray below meth c H locs 0 0 (MQ below (va_Qv (fun (u : (Nat → Nat) × (Nat → Nat) × (Nat → Nat) × Nat × (Nat → Int32) × (Nat → Nat → Int32) × (Nat → Option Nat) × (Nat → Nat → Int32) × (Nat → Nat → Option Nat) × (Nat → Nat → Nat → Int32)) => (∀ t : Nat, u.2.2.2.2.2.2.1 t = T t ∨ u.2.2.2.2.2.2.1 t = none)) (fun u t => ∃ w : va_W, va_P (dC, dI) vwCl w t.heap ∧ va_D A w ∧ Pic9 kc w ad ga gc M n f u.2.2.2.2.2.2.1 u.2.2.2.2.2.2.2.1 K u.2.2.2.2.2.2.2.2.2 ∧ I9 M n u.2.2.2.2.2.2.1 gc u.2.2.2.2.2.2.2.1 K R ∧ hpS t.heap + (260 * M + 2 * S9 M gc) ≤ (hpS s.heap) + (260 * M + 2 * S9 M gc) ∧ 16 * t.heap.size + (256 * M + S9 M gc) ≤ 16 * s.heap.size + (256 * M + S9 M gc)) A) ([.ref (ad 0), .ref (ad (50 + 16 * i))] : List Value).toArray s 0 0 A) (F0 m 33 ls []) := by
      intro fuel
      induction fuel with
      | zero => intro x_9 ws_11 F_10 H locs ls hm; exact absurd hm (Nat.not_lt_zero _)
      | succ fuel_16 ih_15 =>
        intro x_9 ws_11 F_10 H locs ls hm_12 v_13 hQ hI_14 hP hD hS hl
        obtain ⟨i1_17, i2_18, i3_19, i4_20, i5_21, i6_22, i7_23, i8_24, i9_25⟩ := id hI_14
        have q1_ := i1_17
        unfold i1 at q1_
        refine lv_iload_n hx hb dX9_leaveThread_33 rfl (lv_at hl 0 rfl) ?_
        refine lv_bipush (v := 8) hx hb dX9_leaveThread_34 (by decide) ?_
        refine lv_icmp_ge (tgt := 62) hx hb dX9_leaveThread_36 (by decide) (fun c_26 => ?_) (fun c_26 => ?_)
        · simp only [i_lt, i_le, i_eq, ti_8] at c_26
          refine W_msr2 (fun hm1 hm2 hm3 => ?_)
          exact W.vret hx hb hr (fun t ht hW => ⟨⟨(ad, ga, gc, M, n, f, T, G_2, K, F_10), rfl, (fun t => Or.inl rfl), ws_11, by rw [ht]; exact hP, hD, hQ, ⟨i1_17, i2_18, i3_19, i4_20, i5_21, i6_22, i7_23, i8_24, i9_25⟩, by rw [ht]; show hpS H + (260 * M + 2 * S9 M gc) ≤ hpS s.heap + (260 * M + 2 * S9 M gc); omega, by rw [ht]; show 16 * H.size + (256 * M + S9 M gc) ≤ 16 * s.heap.size + (256 * M + S9 M gc); omega⟩, hS.F ht⟩) hS.2.2 dX9_leaveThread_62
        · simp only [i_lt, i_le, i_eq, ti_8] at c_26
          refine lv_aload_n hx hb dX9_leaveThread_39 rfl (lv_at hl 1 rfl) ?_
          refine va_get (D := (dC, dI)) (ci := 9) (v := .ref (ad 1)) (C := RX9) (T := TX9) (N := 15) hx hb hg gb_9 hown hK hP 0 hQ.x0 rfl 0 (by decide) (hg _ gm_fieldLink_RX9_9_ErrandGuild_manners_AI_) (fun _ h9 => h9) rfl dX9_leaveThread_40 ?_
          refine lv_iload_n hx hb dX9_leaveThread_43 rfl (lv_at hl 0 rfl) ?_
          refine va_iald (f := f 0) hx hb hK hP 1 0 hQ.x1 rfl (vp_in_iff.mpr ⟨by omega, by omega⟩) dX9_leaveThread_44 ?_
          refine lv_topi (fun z_27 ez_27 => ?_)
          refine lv_if_ne (tgt := 56) hx hb dX9_leaveThread_45 (by decide) (fun c_28 => ?_) (fun c_28 => ?_)
          · simp only [i_lt, i_le, i_eq, ti_0] at c_28
            obtain ⟨y_29, ey_29⟩ : ∃ q : Int32, q = x_9 + (1) := ⟨_, rfl⟩
            refine lv_iinc (v := y_29) (lv' := [(2, .int y_29), (0, .ref (ad 0)), (1, .ref (ad (50 + 16 * i)))]) hx hb dX9_leaveThread_56 hl (k := 0) rfl (by rw [ey_29]; rfl) (by decide) rfl (fun ls hl => ?_)
            have ty_29 : y_29.toInt = x_9.toInt + (1) := ar_add rfl ti_1 ey_29 (by omega)
            refine lv_goto (tgt := 33) hx hb dX9_leaveThread_59 (by decide) ?_
            exact ih_15 y_29   ws_11 F_10  H locs ls (by show (9 - y_29.toInt).toNat < _; omega) (by show 0 ≤ y_29.toInt ∧ y_29.toInt ≤ 8; omega) hQ ⟨i1_17, i2_18, i3_19, i4_20, i5_21, i6_22, i7_23, i8_24, i9_25⟩ hP hD hS (lv_sub hl [0, 1, 2] rfl)
          · simp only [i_lt, i_le, i_eq, ti_0] at c_28
            refine lv_aload_n hx hb dX9_leaveThread_48 rfl (lv_at hl 2 rfl) ?_
            refine va_get (D := (dC, dI)) (ci := 7) (v := .ref (ad (50 + 16 * i + 2))) (C := RX7) (T := TX7) (N := 15) hx hb hg gb_7 hown hK hP (50 + 16 * i) (hQ.b0 hi) rfl 11 (by decide) (hg _ gm_fieldLink_RX9_253_ErrandGuild_Run_memory_LErrandGuild_Memory_) (fun _ h9 => h9) rfl dX9_leaveThread_49 ?_
            refine lv_iload_n hx hb dX9_leaveThread_52 rfl (lv_at hl 0 rfl) ?_
            have hCc : ([(50 + 16 * i + 2), (50 + 16 * i + 3)] : List Nat).map (fun i => ws_11[i]?) = ([(ad (50 + 16 * i + 2), .inr (6, [.ref (ad (50 + 16 * i + 3)), .ref (ad (50 + 16 * i + 4)), .ref (ad (50 + 16 * i + 5))])), (ad (50 + 16 * i + 3), .inl (kc 1, 8, .inl (F_10 i 0)))] : va_W).map some := mp2 (hQ.b2 hi) (hQ.b3 hi)
            have hNd : ([(50 + 16 * i + 2), (50 + 16 * i + 3)] : List Nat).Nodup := (nd_off (50 + 16 * i) (l := [2, 3]) (by decide))
            have hPc := hP.pick [(50 + 16 * i + 2), (50 + 16 * i + 3)] hCc
            have hDc := hD.pick [(50 + 16 * i + 2), (50 + 16 * i + 3)] hNd hCc
            have hKc := hK.sub (tys' := [((kc 1), .boolean)]) [1] rfl
            have hFc := va_free (wc := [(ad (50 + 16 * i + 2), .inr (6, [.ref (ad (50 + 16 * i + 3)), .ref (ad (50 + 16 * i + 4)), .ref (ad (50 + 16 * i + 5))])), (ad (50 + 16 * i + 3), .inl (kc 1, 8, .inl (F_10 i 0)))]) hD hS hA [(50 + 16 * i + 2), (50 + 16 * i + 3)] hCc
            refine va_callv (va_runV (As := [.int x_9]) (rest := []) ⟨hx, hb, hml, hown, hg⟩ (c_X6_forget l dC dI (ad (50 + 16 * i + 2)) (ad (50 + 16 * i + 3)) (ad (50 + 16 * i + 4)) (ad (50 + 16 * i + 5)) (kc 1) (F_10 i 0) x_9 H.size ) (cwV 1 hg (gw_V gm_methodLink_RX9_307_yX6_forget gm_instanceMethod_yX6_forget gm_selects_RX6_yX6_forget_yX6_forget gm_initialized_RX6 gm_code_yX6_forget_cX6_forget_2_none) rfl rfl rfl (by decide +kernel) ⟨Nat.le_of_ble_eq_true rfl, Nat.le_of_ble_eq_true rfl⟩) ⟨fun a U g mk q => by obtain ⟨q0, q1, qP, qK, qD, qN⟩ := q; exact ⟨q0, q1, qP, va_K.moved (u := U) (U := U.calling g mk a) (Vm.Alike.refl U.vm) qK, qD, nx_same (u := U) (U := U.calling g mk a) rfl qN⟩, va_recv hK hP (ci := 6) (q0 := (50 + 16 * i + 2)) rfl (hQ.b2 hi), fun U hU hW => ⟨rfl, by rw [hU], by rw [hU]; exact hPc, va_K.moved hW.alike hKc, hDc.weaken (fun _ _ _ _ => trivial), nx_warm hW hN⟩⟩ rfl rfl hl.1 rfl (lv_room (Nat.le_of_ble_eq_true rfl)) dX9_leaveThread_53 ⟨Nat.le_of_ble_eq_true rfl, Nat.le_of_ble_eq_true rfl⟩) hS (fun q _ h => hFc q h) hFc (fun u_31 t H1 locs ht hvm hw hB hz1 hk1 hS => ?_)
            obtain ⟨ad_32, ac_33, af_34, ag_35⟩ := u_31
            obtain ⟨hP1, hD1, hK1⟩ := hB
            rw [ht] at hP1
            obtain ⟨hP, hD⟩ := va_repl (w1 := [((ad (50 + 16 * i + 2)), .inr (6, [.ref (ad (50 + 16 * i + 3)), .ref (ad (50 + 16 * i + 4)), .ref (ad (50 + 16 * i + 5))])), ((ad (50 + 16 * i + 3)), .inl ((kc 1), 8, .inl (af_34 0)))]) hP hD [(50 + 16 * i + 2), (50 + 16 * i + 3)] hCc hNd rfl hk1 hFc hP1 hD1
            obtain ⟨ws_37, F_36, eF_36, hP, hD, hQ⟩ : ∃ (ws_37 : va_W) (F_36 : Nat → Nat → Nat → Int32), F_36 = u2 F_10 i 0 (af_34 0) ∧ va_P (dC, dI) vwCl ws_37 H1 ∧ va_D A ws_37 ∧ Pic9 kc ws_37 ad ga gc M n f T G_2 K F_36 := ⟨_, _, rfl, hP, hD, (hQ.same (hQ.b2 hi)).arr hi 3 0 (by decide) (af_34 0) rfl⟩
            generalize H1 = H at hP hS ⊢
            obtain ⟨y_38, ey_38⟩ : ∃ q : Int32, q = x_9 + (1) := ⟨_, rfl⟩
            refine lv_iinc (v := y_38) (lv' := [(2, .int y_38), (0, .ref (ad 0)), (1, .ref (ad (50 + 16 * i)))]) hx hb dX9_leaveThread_56 hl (k := 0) rfl (by rw [ey_38]; rfl) (by decide) rfl (fun ls hl => ?_)
            have ty_38 : y_38.toInt = x_9.toInt + (1) := ar_add rfl ti_1 ey_38 (by omega)
            refine lv_goto (tgt := 33) hx hb dX9_leaveThread_59 (by decide) ?_
            exact ih_15 y_38   ws_37 F_36  H locs ls (by show (9 - y_38.toInt).toNat < _; omega) (by show 0 ≤ y_38.toInt ∧ y_38.toInt ≤ 8; omega) hQ ⟨i1_17, i2_18, i3_19, i4_20, i5_21, i6_22, i7_23, i8_24, i9_25⟩ hP hD hS (lv_sub hl [0, 1, 2] rfl)
    exact L33 _ (0 : Int32)   ws_3 F  _ _ _ (Nat.lt_succ_self _) (by have t_0 := ti_0; show 0 ≤ (0 : Int32).toInt ∧ (0 : Int32).toInt ≤ 8; omega) hQ ⟨h_i1, h_i2, h_i3, h_i4, h_i5, i6_4, i7_5, i8_6, i9_7⟩ hP hD hS (lv_sub hl [0, 1, 2] rfl)
  · simp only [i_lt, i_le, i_eq, ti_0] at c_1
    refine lv_aload_n hx hb dX9_leaveThread_7 rfl (lv_at hl 1 rfl) ?_
    refine va_get (D := (dC, dI)) (ci := 7) (v := .int (G i 3)) (C := RX7) (T := TX7) (N := 15) hx hb hg gb_7 hown hK hP (50 + 16 * i) (hQ.b0 hi) rfl 3 (by decide) (hg _ gm_fieldLink_RX9_168_ErrandGuild_Run_thread_I_) (fun _ h9 => h9) rfl dX9_leaveThread_8 ?_
    refine lv_bipush (v := 6) hx hb dX9_leaveThread_11 (by decide) ?_
    refine lv_icmp_ge (tgt := 26) hx hb dX9_leaveThread_13 (by decide) (fun c_39 => ?_) (fun c_39 => ?_)
    · simp only [i_lt, i_le, i_eq, ti_6] at c_39
      refine lv_aload_n hx hb dX9_leaveThread_26 rfl (lv_at hl 1 rfl) ?_
      refine lv_iconst (v := -1) hx hb dX9_leaveThread_27 (by decide) ?_
      refine va_put (D := (dC, dI)) (ci := 7) (v := .int (-1)) (ty := .int) (C := RX7) (T := TX7) (N := 15) hx hb hg gb_7 tyX7 tyX7_ok nmX7 hown hK hP hD hS (50 + 16 * i) (hQ.b0 hi) rfl 3 (by decide) (hg _ gm_fieldLink_RX9_168_ErrandGuild_Run_thread_I_) (fun _ h9 => h9) rfl (by decide +kernel) rfl rfl (Nat.le_of_ble_eq_true rfl) dX9_leaveThread_28 (fun H locs hP hD hS => ?_)
      obtain ⟨ws_41, G_40, eG_40, hP, hD, hQ⟩ : ∃ (ws_41 : va_W) (G_40 : Nat → Nat → Int32), G_40 = u2 G i 3 (-1) ∧ va_P (dC, dI) vwCl ws_41 H ∧ va_D A ws_41 ∧ Pic9 kc ws_41 ad ga gc M n f T G_40 K F := ⟨_, _, rfl, hP, hD, hQ.run hi 3 (by decide) (-1)⟩
      have i6_42 : i6 n T G_40 := by rw [eG_40]; exact i6.off h_i6 i (by decide)
      have i7_43 : i7 n G_40 := by rw [eG_40]; exact i7.off h_i7 _ hst
      have i8_44 : i8 M n gc G_40 := by rw [eG_40]; exact (i8.pG h_i8 i _ (by decide))
      have i9_45 : i9 M gc G_40 R := by rw [eG_40]; exact (i9.pG h_i9 i _ (by decide))
      have eg_46 : G_40 i 3 = (-1) := by rw [eG_40, u2_eq]
      refine lv_iconst (v := 0) hx hb dX9_leaveThread_31 (by decide) ?_
      refine lv_istore_n (lv' := [(2, .int 0), (0, .ref (ad 0)), (1, .ref (ad (50 + 16 * i)))]) hx hb dX9_leaveThread_32 rfl hl (by decide) rfl (fun ls hl => ?_)
      have L33 : ∀ (fuel : Nat) (x_47 : Int32)   (ws_49 : va_W) (F_48 : Nat → Nat → Nat → Int32)  (H : Heap) (locs : List Loc) (ls : Array Slot), (9 - x_47.toInt).toNat < fuel → (0 ≤ x_47.toInt ∧ x_47.toInt ≤ 8) → Pic9 kc ws_49 ad ga gc M n f T G_40 K F_48 → I9 M n T gc G_40 K R → va_P (dC, dI) vwCl ws_49 H → va_D A ws_49 → va_S A s.heap H locs → lv_has ls 3 [(2, .int x_47), (0, .ref (ad 0)), (1, .ref (ad (50 + 16 * i)))] → W p l e (headSpec (.code yX9_leaveThread cX9_leaveThread 3 none :: gw) ({ frames := 2, cells := 0, slots := 0, locals := 41 })).room s m ([.ref (ad 0), .ref (ad (50 + 16 * i))] : List Value).toArray below meth c H locs 0 0 (MQ below (va_Qv (fun (u : (Nat → Nat) × (Nat → Nat) × (Nat → Nat) × Nat × (Nat → Int32) × (Nat → Nat → Int32) × (Nat → Option Nat) × (Nat → Nat → Int32) × (Nat → Nat → Option Nat) × (Nat → Nat → Nat → Int32)) => (∀ t : Nat, u.2.2.2.2.2.2.1 t = T t ∨ u.2.2.2.2.2.2.1 t = none)) (fun u t => ∃ w : va_W, va_P (dC, dI) vwCl w t.heap ∧ va_D A w ∧ Pic9 kc w ad ga gc M n f u.2.2.2.2.2.2.1 u.2.2.2.2.2.2.2.1 K u.2.2.2.2.2.2.2.2.2 ∧ I9 M n u.2.2.2.2.2.2.1 gc u.2.2.2.2.2.2.2.1 K R ∧ hpS t.heap + (260 * M + 2 * S9 M gc) ≤ (hpS s.heap) + (260 * M + 2 * S9 M gc) ∧ 16 * t.heap.size + (256 * M + S9 M gc) ≤ 16 * s.heap.size + (256 * M + S9 M gc)) A) ([.ref (ad 0), .ref (ad (50 + 16 * i))] : List Value).toArray s 0 0 A) (F0 m 33 ls []) := by
        intro fuel
        induction fuel with
        | zero => intro x_47 ws_49 F_48 H locs ls hm; exact absurd hm (Nat.not_lt_zero _)
        | succ fuel_54 ih_53 =>
          intro x_47 ws_49 F_48 H locs ls hm_50 v_51 hQ hI_52 hP hD hS hl
          obtain ⟨i1_55, i2_56, i3_57, i4_58, i5_59, i6_60, i7_61, i8_62, i9_63⟩ := id hI_52
          have q1_ := i1_55
          unfold i1 at q1_
          refine lv_iload_n hx hb dX9_leaveThread_33 rfl (lv_at hl 0 rfl) ?_
          refine lv_bipush (v := 8) hx hb dX9_leaveThread_34 (by decide) ?_
          refine lv_icmp_ge (tgt := 62) hx hb dX9_leaveThread_36 (by decide) (fun c_64 => ?_) (fun c_64 => ?_)
          · simp only [i_lt, i_le, i_eq, ti_8] at c_64
            refine W_msr2 (fun hm1 hm2 hm3 => ?_)
            exact W.vret hx hb hr (fun t ht hW => ⟨⟨(ad, ga, gc, M, n, f, T, G_40, K, F_48), rfl, (fun t => Or.inl rfl), ws_49, by rw [ht]; exact hP, hD, hQ, ⟨i1_55, i2_56, i3_57, i4_58, i5_59, i6_60, i7_61, i8_62, i9_63⟩, by rw [ht]; show hpS H + (260 * M + 2 * S9 M gc) ≤ hpS s.heap + (260 * M + 2 * S9 M gc); omega, by rw [ht]; show 16 * H.size + (256 * M + S9 M gc) ≤ 16 * s.heap.size + (256 * M + S9 M gc); omega⟩, hS.F ht⟩) hS.2.2 dX9_leaveThread_62
          · simp only [i_lt, i_le, i_eq, ti_8] at c_64
            refine lv_aload_n hx hb dX9_leaveThread_39 rfl (lv_at hl 1 rfl) ?_
            refine va_get (D := (dC, dI)) (ci := 9) (v := .ref (ad 1)) (C := RX9) (T := TX9) (N := 15) hx hb hg gb_9 hown hK hP 0 hQ.x0 rfl 0 (by decide) (hg _ gm_fieldLink_RX9_9_ErrandGuild_manners_AI_) (fun _ h9 => h9) rfl dX9_leaveThread_40 ?_
            refine lv_iload_n hx hb dX9_leaveThread_43 rfl (lv_at hl 0 rfl) ?_
            refine va_iald (f := f 0) hx hb hK hP 1 0 hQ.x1 rfl (vp_in_iff.mpr ⟨by omega, by omega⟩) dX9_leaveThread_44 ?_
            refine lv_topi (fun z_65 ez_65 => ?_)
            refine lv_if_ne (tgt := 56) hx hb dX9_leaveThread_45 (by decide) (fun c_66 => ?_) (fun c_66 => ?_)
            · simp only [i_lt, i_le, i_eq, ti_0] at c_66
              obtain ⟨y_67, ey_67⟩ : ∃ q : Int32, q = x_47 + (1) := ⟨_, rfl⟩
              refine lv_iinc (v := y_67) (lv' := [(2, .int y_67), (0, .ref (ad 0)), (1, .ref (ad (50 + 16 * i)))]) hx hb dX9_leaveThread_56 hl (k := 0) rfl (by rw [ey_67]; rfl) (by decide) rfl (fun ls hl => ?_)
              have ty_67 : y_67.toInt = x_47.toInt + (1) := ar_add rfl ti_1 ey_67 (by omega)
              refine lv_goto (tgt := 33) hx hb dX9_leaveThread_59 (by decide) ?_
              exact ih_53 y_67   ws_49 F_48  H locs ls (by show (9 - y_67.toInt).toNat < _; omega) (by show 0 ≤ y_67.toInt ∧ y_67.toInt ≤ 8; omega) hQ ⟨i1_55, i2_56, i3_57, i4_58, i5_59, i6_60, i7_61, i8_62, i9_63⟩ hP hD hS (lv_sub hl [0, 1, 2] rfl)
            · simp only [i_lt, i_le, i_eq, ti_0] at c_66
              refine lv_aload_n hx hb dX9_leaveThread_48 rfl (lv_at hl 2 rfl) ?_
              refine va_get (D := (dC, dI)) (ci := 7) (v := .ref (ad (50 + 16 * i + 2))) (C := RX7) (T := TX7) (N := 15) hx hb hg gb_7 hown hK hP (50 + 16 * i) (hQ.b0 hi) rfl 11 (by decide) (hg _ gm_fieldLink_RX9_253_ErrandGuild_Run_memory_LErrandGuild_Memory_) (fun _ h9 => h9) rfl dX9_leaveThread_49 ?_
              refine lv_iload_n hx hb dX9_leaveThread_52 rfl (lv_at hl 0 rfl) ?_
              have hCc : ([(50 + 16 * i + 2), (50 + 16 * i + 3)] : List Nat).map (fun i => ws_49[i]?) = ([(ad (50 + 16 * i + 2), .inr (6, [.ref (ad (50 + 16 * i + 3)), .ref (ad (50 + 16 * i + 4)), .ref (ad (50 + 16 * i + 5))])), (ad (50 + 16 * i + 3), .inl (kc 1, 8, .inl (F_48 i 0)))] : va_W).map some := mp2 (hQ.b2 hi) (hQ.b3 hi)
              have hNd : ([(50 + 16 * i + 2), (50 + 16 * i + 3)] : List Nat).Nodup := (nd_off (50 + 16 * i) (l := [2, 3]) (by decide))
              have hPc := hP.pick [(50 + 16 * i + 2), (50 + 16 * i + 3)] hCc
              have hDc := hD.pick [(50 + 16 * i + 2), (50 + 16 * i + 3)] hNd hCc
              have hKc := hK.sub (tys' := [((kc 1), .boolean)]) [1] rfl
              have hFc := va_free (wc := [(ad (50 + 16 * i + 2), .inr (6, [.ref (ad (50 + 16 * i + 3)), .ref (ad (50 + 16 * i + 4)), .ref (ad (50 + 16 * i + 5))])), (ad (50 + 16 * i + 3), .inl (kc 1, 8, .inl (F_48 i 0)))]) hD hS hA [(50 + 16 * i + 2), (50 + 16 * i + 3)] hCc
              refine va_callv (va_runV (As := [.int x_47]) (rest := []) ⟨hx, hb, hml, hown, hg⟩ (c_X6_forget l dC dI (ad (50 + 16 * i + 2)) (ad (50 + 16 * i + 3)) (ad (50 + 16 * i + 4)) (ad (50 + 16 * i + 5)) (kc 1) (F_48 i 0) x_47 H.size ) (cwV 1 hg (gw_V gm_methodLink_RX9_307_yX6_forget gm_instanceMethod_yX6_forget gm_selects_RX6_yX6_forget_yX6_forget gm_initialized_RX6 gm_code_yX6_forget_cX6_forget_2_none) rfl rfl rfl (by decide +kernel) ⟨Nat.le_of_ble_eq_true rfl, Nat.le_of_ble_eq_true rfl⟩) ⟨fun a U g mk q => by obtain ⟨q0, q1, qP, qK, qD, qN⟩ := q; exact ⟨q0, q1, qP, va_K.moved (u := U) (U := U.calling g mk a) (Vm.Alike.refl U.vm) qK, qD, nx_same (u := U) (U := U.calling g mk a) rfl qN⟩, va_recv hK hP (ci := 6) (q0 := (50 + 16 * i + 2)) rfl (hQ.b2 hi), fun U hU hW => ⟨rfl, by rw [hU], by rw [hU]; exact hPc, va_K.moved hW.alike hKc, hDc.weaken (fun _ _ _ _ => trivial), nx_warm hW hN⟩⟩ rfl rfl hl.1 rfl (lv_room (Nat.le_of_ble_eq_true rfl)) dX9_leaveThread_53 ⟨Nat.le_of_ble_eq_true rfl, Nat.le_of_ble_eq_true rfl⟩) hS (fun q _ h => hFc q h) hFc (fun u_69 t H1 locs ht hvm hw hB hz1 hk1 hS => ?_)
              obtain ⟨ad_70, ac_71, af_72, ag_73⟩ := u_69
              obtain ⟨hP1, hD1, hK1⟩ := hB
              rw [ht] at hP1
              obtain ⟨hP, hD⟩ := va_repl (w1 := [((ad (50 + 16 * i + 2)), .inr (6, [.ref (ad (50 + 16 * i + 3)), .ref (ad (50 + 16 * i + 4)), .ref (ad (50 + 16 * i + 5))])), ((ad (50 + 16 * i + 3)), .inl ((kc 1), 8, .inl (af_72 0)))]) hP hD [(50 + 16 * i + 2), (50 + 16 * i + 3)] hCc hNd rfl hk1 hFc hP1 hD1
              obtain ⟨ws_75, F_74, eF_74, hP, hD, hQ⟩ : ∃ (ws_75 : va_W) (F_74 : Nat → Nat → Nat → Int32), F_74 = u2 F_48 i 0 (af_72 0) ∧ va_P (dC, dI) vwCl ws_75 H1 ∧ va_D A ws_75 ∧ Pic9 kc ws_75 ad ga gc M n f T G_40 K F_74 := ⟨_, _, rfl, hP, hD, (hQ.same (hQ.b2 hi)).arr hi 3 0 (by decide) (af_72 0) rfl⟩
              generalize H1 = H at hP hS ⊢
              obtain ⟨y_76, ey_76⟩ : ∃ q : Int32, q = x_47 + (1) := ⟨_, rfl⟩
              refine lv_iinc (v := y_76) (lv' := [(2, .int y_76), (0, .ref (ad 0)), (1, .ref (ad (50 + 16 * i)))]) hx hb dX9_leaveThread_56 hl (k := 0) rfl (by rw [ey_76]; rfl) (by decide) rfl (fun ls hl => ?_)
              have ty_76 : y_76.toInt = x_47.toInt + (1) := ar_add rfl ti_1 ey_76 (by omega)
              refine lv_goto (tgt := 33) hx hb dX9_leaveThread_59 (by decide) ?_
              exact ih_53 y_76   ws_75 F_74  H locs ls (by show (9 - y_76.toInt).toNat < _; omega) (by show 0 ≤ y_76.toInt ∧ y_76.toInt ≤ 8; omega) hQ ⟨i1_55, i2_56, i3_57, i4_58, i5_59, i6_60, i7_61, i8_62, i9_63⟩ hP hD hS (lv_sub hl [0, 1, 2] rfl)
      exact L33 _ (0 : Int32)   ws_41 F  _ _ _ (Nat.lt_succ_self _) (by have t_0 := ti_0; show 0 ≤ (0 : Int32).toInt ∧ (0 : Int32).toInt ≤ 8; omega) hQ ⟨h_i1, h_i2, h_i3, h_i4, h_i5, i6_42, i7_43, i8_44, i9_45⟩ hP hD hS (lv_sub hl [0, 1, 2] rfl)
    · simp only [i_lt, i_le, i_eq, ti_6] at c_39
      refine lv_aload_n hx hb dX9_leaveThread_16 rfl (lv_at hl 0 rfl) ?_
      refine va_get (D := (dC, dI)) (ci := 9) (v := .ref (ad 41)) (C := RX9) (T := TX9) (N := 15) hx hb hg gb_9 hown hK hP 0 hQ.x0 rfl 6 (by decide) (hg _ gm_fieldLink_RX9_35_ErrandGuild_onThreads_ALErrandGuild_Run_) (fun _ h9 => h9) rfl dX9_leaveThread_17 ?_
      refine lv_aload_n hx hb dX9_leaveThread_20 rfl (lv_at hl 1 rfl) ?_
      refine va_get (D := (dC, dI)) (ci := 7) (v := .int (G i 3)) (C := RX7) (T := TX7) (N := 15) hx hb hg gb_7 hown hK hP (50 + 16 * i) (hQ.b0 hi) rfl 3 (by decide) (hg _ gm_fieldLink_RX9_168_ErrandGuild_Run_thread_I_) (fun _ h9 => h9) rfl dX9_leaveThread_21 ?_
      refine lv_null hx hb dX9_leaveThread_24 ?_
      refine va_astqN hx hb hK hP hD hS 41 3 hQ.x41 rfl (vp_in_iff.mpr ⟨by omega, by omega⟩) dX9_leaveThread_25 (fun H locs hP hD hS => ?_)
      obtain ⟨ws_78, T_77, eT_77, hP, hD, hQ⟩ : ∃ (ws_78 : va_W) (T_77 : Nat → Option Nat), T_77 = u1 T (Int32.toNatClampNeg (G i 3)) none ∧ va_P (dC, dI) vwCl ws_78 H ∧ va_D A ws_78 ∧ Pic9 kc ws_78 ad ga gc M n f T_77 G K F := ⟨_, _, rfl, hP, hD, hQ.thr (Int32.toNatClampNeg (G i 3)) none⟩
      have i2_79 : i2 M T_77 := by rw [eT_77]; exact i2.pT h_i2 _ (fun _ h => by cases h)
      refine lv_aload_n hx hb dX9_leaveThread_26 rfl (lv_at hl 1 rfl) ?_
      refine lv_iconst (v := -1) hx hb dX9_leaveThread_27 (by decide) ?_
      refine va_put (D := (dC, dI)) (ci := 7) (v := .int (-1)) (ty := .int) (C := RX7) (T := TX7) (N := 15) hx hb hg gb_7 tyX7 tyX7_ok nmX7 hown hK hP hD hS (50 + 16 * i) (hQ.b0 hi) rfl 3 (by decide) (hg _ gm_fieldLink_RX9_168_ErrandGuild_Run_thread_I_) (fun _ h9 => h9) rfl (by decide +kernel) rfl rfl (Nat.le_of_ble_eq_true rfl) dX9_leaveThread_28 (fun H locs hP hD hS => ?_)
      obtain ⟨ws_81, G_80, eG_80, hP, hD, hQ⟩ : ∃ (ws_81 : va_W) (G_80 : Nat → Nat → Int32), G_80 = u2 G i 3 (-1) ∧ va_P (dC, dI) vwCl ws_81 H ∧ va_D A ws_81 ∧ Pic9 kc ws_81 ad ga gc M n f T_77 G_80 K F := ⟨_, _, rfl, hP, hD, hQ.run hi 3 (by decide) (-1)⟩
      have i6_82 : i6 n T_77 G_80 := by rw [eG_80]; exact (by rw [eT_77]; exact i6.leave h_i6 hin (by omega) (by omega) (by decide) rfl)
      have i7_83 : i7 n G_80 := by rw [eG_80]; exact i7.off h_i7 _ hst
      have i8_84 : i8 M n gc G_80 := by rw [eG_80]; exact (i8.pG h_i8 i _ (by decide))
      have i9_85 : i9 M gc G_80 R := by rw [eG_80]; exact (i9.pG h_i9 i _ (by decide))
      have eg_86 : G_80 i 3 = (-1) := by rw [eG_80, u2_eq]
      refine lv_iconst (v := 0) hx hb dX9_leaveThread_31 (by decide) ?_
      refine lv_istore_n (lv' := [(2, .int 0), (0, .ref (ad 0)), (1, .ref (ad (50 + 16 * i)))]) hx hb dX9_leaveThread_32 rfl hl (by decide) rfl (fun ls hl => ?_)
      have L33 : ∀ (fuel : Nat) (x_87 : Int32)   (ws_89 : va_W) (F_88 : Nat → Nat → Nat → Int32)  (H : Heap) (locs : List Loc) (ls : Array Slot), (9 - x_87.toInt).toNat < fuel → (0 ≤ x_87.toInt ∧ x_87.toInt ≤ 8) → Pic9 kc ws_89 ad ga gc M n f T_77 G_80 K F_88 → I9 M n T_77 gc G_80 K R → va_P (dC, dI) vwCl ws_89 H → va_D A ws_89 → va_S A s.heap H locs → lv_has ls 3 [(2, .int x_87), (0, .ref (ad 0)), (1, .ref (ad (50 + 16 * i)))] → W p l e (headSpec (.code yX9_leaveThread cX9_leaveThread 3 none :: gw) ({ frames := 2, cells := 0, slots := 0, locals := 41 })).room s m ([.ref (ad 0), .ref (ad (50 + 16 * i))] : List Value).toArray below meth c H locs 0 0 (MQ below (va_Qv (fun (u : (Nat → Nat) × (Nat → Nat) × (Nat → Nat) × Nat × (Nat → Int32) × (Nat → Nat → Int32) × (Nat → Option Nat) × (Nat → Nat → Int32) × (Nat → Nat → Option Nat) × (Nat → Nat → Nat → Int32)) => (∀ t : Nat, u.2.2.2.2.2.2.1 t = T t ∨ u.2.2.2.2.2.2.1 t = none)) (fun u t => ∃ w : va_W, va_P (dC, dI) vwCl w t.heap ∧ va_D A w ∧ Pic9 kc w ad ga gc M n f u.2.2.2.2.2.2.1 u.2.2.2.2.2.2.2.1 K u.2.2.2.2.2.2.2.2.2 ∧ I9 M n u.2.2.2.2.2.2.1 gc u.2.2.2.2.2.2.2.1 K R ∧ hpS t.heap + (260 * M + 2 * S9 M gc) ≤ (hpS s.heap) + (260 * M + 2 * S9 M gc) ∧ 16 * t.heap.size + (256 * M + S9 M gc) ≤ 16 * s.heap.size + (256 * M + S9 M gc)) A) ([.ref (ad 0), .ref (ad (50 + 16 * i))] : List Value).toArray s 0 0 A) (F0 m 33 ls []) := by
        intro fuel
        induction fuel with
        | zero => intro x_87 ws_89 F_88 H locs ls hm; exact absurd hm (Nat.not_lt_zero _)
        | succ fuel_94 ih_93 =>
          intro x_87 ws_89 F_88 H locs ls hm_90 v_91 hQ hI_92 hP hD hS hl
          obtain ⟨i1_95, i2_96, i3_97, i4_98, i5_99, i6_100, i7_101, i8_102, i9_103⟩ := id hI_92
          have q1_ := i1_95
          unfold i1 at q1_
          refine lv_iload_n hx hb dX9_leaveThread_33 rfl (lv_at hl 0 rfl) ?_
          refine lv_bipush (v := 8) hx hb dX9_leaveThread_34 (by decide) ?_
          refine lv_icmp_ge (tgt := 62) hx hb dX9_leaveThread_36 (by decide) (fun c_104 => ?_) (fun c_104 => ?_)
          · simp only [i_lt, i_le, i_eq, ti_8] at c_104
            refine W_msr2 (fun hm1 hm2 hm3 => ?_)
            exact W.vret hx hb hr (fun t ht hW => ⟨⟨(ad, ga, gc, M, n, f, T_77, G_80, K, F_88), rfl, (fun t => by show T_77 t = T t ∨ T_77 t = none; rw [eT_77]; exact T_off t), ws_89, by rw [ht]; exact hP, hD, hQ, ⟨i1_95, i2_96, i3_97, i4_98, i5_99, i6_100, i7_101, i8_102, i9_103⟩, by rw [ht]; show hpS H + (260 * M + 2 * S9 M gc) ≤ hpS s.heap + (260 * M + 2 * S9 M gc); omega, by rw [ht]; show 16 * H.size + (256 * M + S9 M gc) ≤ 16 * s.heap.size + (256 * M + S9 M gc); omega⟩, hS.F ht⟩) hS.2.2 dX9_leaveThread_62
          · simp only [i_lt, i_le, i_eq, ti_8] at c_104
            refine lv_aload_n hx hb dX9_leaveThread_39 rfl (lv_at hl 1 rfl) ?_
            refine va_get (D := (dC, dI)) (ci := 9) (v := .ref (ad 1)) (C := RX9) (T := TX9) (N := 15) hx hb hg gb_9 hown hK hP 0 hQ.x0 rfl 0 (by decide) (hg _ gm_fieldLink_RX9_9_ErrandGuild_manners_AI_) (fun _ h9 => h9) rfl dX9_leaveThread_40 ?_
            refine lv_iload_n hx hb dX9_leaveThread_43 rfl (lv_at hl 0 rfl) ?_
            refine va_iald (f := f 0) hx hb hK hP 1 0 hQ.x1 rfl (vp_in_iff.mpr ⟨by omega, by omega⟩) dX9_leaveThread_44 ?_
            refine lv_topi (fun z_105 ez_105 => ?_)
            refine lv_if_ne (tgt := 56) hx hb dX9_leaveThread_45 (by decide) (fun c_106 => ?_) (fun c_106 => ?_)
            · simp only [i_lt, i_le, i_eq, ti_0] at c_106
              obtain ⟨y_107, ey_107⟩ : ∃ q : Int32, q = x_87 + (1) := ⟨_, rfl⟩
              refine lv_iinc (v := y_107) (lv' := [(2, .int y_107), (0, .ref (ad 0)), (1, .ref (ad (50 + 16 * i)))]) hx hb dX9_leaveThread_56 hl (k := 0) rfl (by rw [ey_107]; rfl) (by decide) rfl (fun ls hl => ?_)
              have ty_107 : y_107.toInt = x_87.toInt + (1) := ar_add rfl ti_1 ey_107 (by omega)
              refine lv_goto (tgt := 33) hx hb dX9_leaveThread_59 (by decide) ?_
              exact ih_93 y_107   ws_89 F_88  H locs ls (by show (9 - y_107.toInt).toNat < _; omega) (by show 0 ≤ y_107.toInt ∧ y_107.toInt ≤ 8; omega) hQ ⟨i1_95, i2_96, i3_97, i4_98, i5_99, i6_100, i7_101, i8_102, i9_103⟩ hP hD hS (lv_sub hl [0, 1, 2] rfl)
            · simp only [i_lt, i_le, i_eq, ti_0] at c_106
              refine lv_aload_n hx hb dX9_leaveThread_48 rfl (lv_at hl 2 rfl) ?_
              refine va_get (D := (dC, dI)) (ci := 7) (v := .ref (ad (50 + 16 * i + 2))) (C := RX7) (T := TX7) (N := 15) hx hb hg gb_7 hown hK hP (50 + 16 * i) (hQ.b0 hi) rfl 11 (by decide) (hg _ gm_fieldLink_RX9_253_ErrandGuild_Run_memory_LErrandGuild_Memory_) (fun _ h9 => h9) rfl dX9_leaveThread_49 ?_
              refine lv_iload_n hx hb dX9_leaveThread_52 rfl (lv_at hl 0 rfl) ?_
              have hCc : ([(50 + 16 * i + 2), (50 + 16 * i + 3)] : List Nat).map (fun i => ws_89[i]?) = ([(ad (50 + 16 * i + 2), .inr (6, [.ref (ad (50 + 16 * i + 3)), .ref (ad (50 + 16 * i + 4)), .ref (ad (50 + 16 * i + 5))])), (ad (50 + 16 * i + 3), .inl (kc 1, 8, .inl (F_88 i 0)))] : va_W).map some := mp2 (hQ.b2 hi) (hQ.b3 hi)
              have hNd : ([(50 + 16 * i + 2), (50 + 16 * i + 3)] : List Nat).Nodup := (nd_off (50 + 16 * i) (l := [2, 3]) (by decide))
              have hPc := hP.pick [(50 + 16 * i + 2), (50 + 16 * i + 3)] hCc
              have hDc := hD.pick [(50 + 16 * i + 2), (50 + 16 * i + 3)] hNd hCc
              have hKc := hK.sub (tys' := [((kc 1), .boolean)]) [1] rfl
              have hFc := va_free (wc := [(ad (50 + 16 * i + 2), .inr (6, [.ref (ad (50 + 16 * i + 3)), .ref (ad (50 + 16 * i + 4)), .ref (ad (50 + 16 * i + 5))])), (ad (50 + 16 * i + 3), .inl (kc 1, 8, .inl (F_88 i 0)))]) hD hS hA [(50 + 16 * i + 2), (50 + 16 * i + 3)] hCc
              refine va_callv (va_runV (As := [.int x_87]) (rest := []) ⟨hx, hb, hml, hown, hg⟩ (c_X6_forget l dC dI (ad (50 + 16 * i + 2)) (ad (50 + 16 * i + 3)) (ad (50 + 16 * i + 4)) (ad (50 + 16 * i + 5)) (kc 1) (F_88 i 0) x_87 H.size ) (cwV 1 hg (gw_V gm_methodLink_RX9_307_yX6_forget gm_instanceMethod_yX6_forget gm_selects_RX6_yX6_forget_yX6_forget gm_initialized_RX6 gm_code_yX6_forget_cX6_forget_2_none) rfl rfl rfl (by decide +kernel) ⟨Nat.le_of_ble_eq_true rfl, Nat.le_of_ble_eq_true rfl⟩) ⟨fun a U g mk q => by obtain ⟨q0, q1, qP, qK, qD, qN⟩ := q; exact ⟨q0, q1, qP, va_K.moved (u := U) (U := U.calling g mk a) (Vm.Alike.refl U.vm) qK, qD, nx_same (u := U) (U := U.calling g mk a) rfl qN⟩, va_recv hK hP (ci := 6) (q0 := (50 + 16 * i + 2)) rfl (hQ.b2 hi), fun U hU hW => ⟨rfl, by rw [hU], by rw [hU]; exact hPc, va_K.moved hW.alike hKc, hDc.weaken (fun _ _ _ _ => trivial), nx_warm hW hN⟩⟩ rfl rfl hl.1 rfl (lv_room (Nat.le_of_ble_eq_true rfl)) dX9_leaveThread_53 ⟨Nat.le_of_ble_eq_true rfl, Nat.le_of_ble_eq_true rfl⟩) hS (fun q _ h => hFc q h) hFc (fun u_109 t H1 locs ht hvm hw hB hz1 hk1 hS => ?_)
              obtain ⟨ad_110, ac_111, af_112, ag_113⟩ := u_109
              obtain ⟨hP1, hD1, hK1⟩ := hB
              rw [ht] at hP1
              obtain ⟨hP, hD⟩ := va_repl (w1 := [((ad (50 + 16 * i + 2)), .inr (6, [.ref (ad (50 + 16 * i + 3)), .ref (ad (50 + 16 * i + 4)), .ref (ad (50 + 16 * i + 5))])), ((ad (50 + 16 * i + 3)), .inl ((kc 1), 8, .inl (af_112 0)))]) hP hD [(50 + 16 * i + 2), (50 + 16 * i + 3)] hCc hNd rfl hk1 hFc hP1 hD1
              obtain ⟨ws_115, F_114, eF_114, hP, hD, hQ⟩ : ∃ (ws_115 : va_W) (F_114 : Nat → Nat → Nat → Int32), F_114 = u2 F_88 i 0 (af_112 0) ∧ va_P (dC, dI) vwCl ws_115 H1 ∧ va_D A ws_115 ∧ Pic9 kc ws_115 ad ga gc M n f T_77 G_80 K F_114 := ⟨_, _, rfl, hP, hD, (hQ.same (hQ.b2 hi)).arr hi 3 0 (by decide) (af_112 0) rfl⟩
              generalize H1 = H at hP hS ⊢
              obtain ⟨y_116, ey_116⟩ : ∃ q : Int32, q = x_87 + (1) := ⟨_, rfl⟩
              refine lv_iinc (v := y_116) (lv' := [(2, .int y_116), (0, .ref (ad 0)), (1, .ref (ad (50 + 16 * i)))]) hx hb dX9_leaveThread_56 hl (k := 0) rfl (by rw [ey_116]; rfl) (by decide) rfl (fun ls hl => ?_)
              have ty_116 : y_116.toInt = x_87.toInt + (1) := ar_add rfl ti_1 ey_116 (by omega)
              refine lv_goto (tgt := 33) hx hb dX9_leaveThread_59 (by decide) ?_
              exact ih_93 y_116   ws_115 F_114  H locs ls (by show (9 - y_116.toInt).toNat < _; omega) (by show 0 ≤ y_116.toInt ∧ y_116.toInt ≤ 8; omega) hQ ⟨i1_95, i2_96, i3_97, i4_98, i5_99, i6_100, i7_101, i8_102, i9_103⟩ hP hD hS (lv_sub hl [0, 1, 2] rfl)
      exact L33 _ (0 : Int32)   ws_81 F  _ _ _ (Nat.lt_succ_self _) (by have t_0 := ti_0; show 0 ≤ (0 : Int32).toInt ∧ (0 : Int32).toInt ≤ 8; omega) hQ ⟨h_i1, i2_79, h_i3, h_i4, h_i5, i6_82, i7_83, i8_84, i9_85⟩ hP hD hS (lv_sub hl [0, 1, 2] rfl)
