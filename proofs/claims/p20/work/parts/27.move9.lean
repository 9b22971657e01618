theorem T_off {T : Nat → Option Nat} {a : Nat} (t : Nat) : u1 T a none t = T t ∨ u1 T a none t = none := by
  by_cases h : t = a
  · right; rw [h, u1_eq]
  · left; rw [u1_ne _ _ h]

set_option maxHeartbeats 8000000 in
set_option maxRecDepth 100000 in
theorem c_X9_writeIn (l : Launch) (dC : Nat → ClassId) (dI : Nat → Nat → Nat) (kc : Nat → ClassId) (ws : va_W) (ad : Nat → Nat) (ga : Nat → Nat) (gc : Nat → Nat) (M : Nat) (n : Nat → Int32) (f : Nat → Nat → Int32) (T : Nat → Option Nat) (G : Nat → Nat → Int32) (K : Nat → Nat → Option Nat) (F : Nat → Nat → Nat → Int32) (R : Nat) (i : Nat) (v2 : Int32) (v3 : Int32) (sz hz : Nat) (hQ : Pic9 kc ws ad ga gc M n f T G K F) (hI : I9 M n f T gc G K F R) (hi : i < M) : Met l yX9_writeIn (.code yX9_writeIn cX9_writeIn 4 (some .int) :: gw) ({ frames := 2, cells := 0, slots := 0, locals := 45 }) (va_Pc [.ref (ad 0), .ref (ad (50 + 16 * i)), .int v2, .int v3] (fun U => U.heap.size = sz ∧ hpS U.heap = hz ∧ va_P (dC, dI) vwCl ws U.heap ∧ va_K (dC, dI) vwCl (t9 kc) U ∧ va_D (fun _ => True) ws ∧ nx U)) (va_Qi (fun (r : Int32) (u : (Nat → Nat) × (Nat → Nat) × (Nat → Nat) × Nat × (Nat → Int32) × (Nat → Nat → Int32) × (Nat → Option Nat) × (Nat → Nat → Int32) × (Nat → Nat → Option Nat) × (Nat → Nat → Nat → Int32)) => ((C9.mk n f T u.2.2.2.2.2.2.2.1 K u.2.2.2.2.2.2.2.2.2), r) = k_write i v2 v3 (C9.mk n f T G K F)) (fun u t => ∃ w : va_W, va_P (dC, dI) vwCl w t.heap ∧ va_D (va_A ws sz) w ∧ Pic9 kc w ad ga gc M n f T u.2.2.2.2.2.2.2.1 K u.2.2.2.2.2.2.2.2.2 ∧ I9 M n f T gc u.2.2.2.2.2.2.2.1 K u.2.2.2.2.2.2.2.2.2 R ∧ hpS t.heap + (260 * M + 2 * S9 M gc) ≤ hz + (260 * M + 2 * S9 M gc) ∧ 16 * t.heap.size + (256 * M + S9 M gc) ≤ 16 * sz + (256 * M + S9 M gc)) (va_A ws sz)) 0 0 (va_A ws sz) := by
  refine Met.ofW (cc := cX9_writeIn) (maxL := 4) (ret := (some .int)) (by decide) rfl ?_
  intro p e s m args below meth c s₁ B hml hv
  obtain ⟨rfl, hsz, rfl, hP, hK, hD0, hN⟩ := hv
  have hx := B.exec
  have hb := B.bytes
  have hr := B.returns
  have hts := atoms_spec (ws := .code yX9_writeIn cX9_writeIn 4 (some .int) :: gw) B.pre
  have hg : ∀ w ∈ gw, w.before _ s = true := fun w h => hts w (List.mem_cons_of_mem _ h)
  have hown : s.vm.findClass RX9 = some m.cls := findClass_of_methodNamed B.named
  have hlocks := B.notSynchronized
  subst hsz
  have hD := hD0.self (sz := s.heap.size)
  generalize hAe : va_A ws s.heap.size = A at hD ⊢
  have hA : ∀ q : Nat, s.heap.size ≤ q → A q := fun q h => by rw [← hAe]; exact Or.inr h
  clear hAe
  have hS : va_S A s.heap s.heap [] := va_S.rf
  have hl := lv_entry ([.ref (ad 0), .ref (ad (50 + 16 * i)), .int v2, .int v3]) (n := 4) (Nat.le_of_ble_eq_true rfl)
  rw [lg_entry_eq]
  generalize (lg_sl ([.ref (ad 0), .ref (ad (50 + 16 * i)), .int v2, .int v3]) ++ List.replicate (4 - (lg_sl ([.ref (ad 0), .ref (ad (50 + 16 * i)), .int v2, .int v3])).length) Slot.unset).toArray = ls at hl ⊢
  have hl : lv_has ls 4 [(0, .ref (ad 0)), (1, .ref (ad (50 + 16 * i))), (2, .int v2), (3, .int v3)] := hl
  obtain ⟨h_i1, h_i2, h_i3, h_i4, h_i5, h_i6, h_i7, h_i8, h_i9, h_i10, h_i11⟩ := id hI
  have q1_ := h_i1
  unfold i1 at q1_
  exact by
   refine lv_iload_n hx hb dX9_writeIn_0 rfl (lv_at hl 2 rfl) ?_
   have hCc : ([] : List Nat).map (fun i => ws[i]?) = ([] : va_W).map some := rfl
   have hNd : ([] : List Nat).Nodup := List.nodup_nil
   have hPc := hP.pick [] hCc
   have hDc := hD.pick [] hNd hCc
   have hKc := hK.sub (tys' := []) [] rfl
   have hFc := va_free (wc := []) hD hS hA [] hCc
   refine va_calli (va_runS (As := [.int v2]) (rest := []) ⟨hx, hb, hml, hown, hg⟩ (c_X9_isSlot l dC dI v2 s.heap.size ) (va_cwS 1 hg (gw_S gm_methodLink_RX9_62_yX9_isSlot gm_static_yX9_isSlot gm_initialized_RX9 gm_code_yX9_isSlot_cX9_isSlot_1_some_boolean_) rfl rfl rfl (by decide +kernel) ⟨Nat.le_of_ble_eq_true rfl, Nat.le_of_ble_eq_true rfl⟩) ⟨fun a U g mk q => by obtain ⟨q0, q1, qP, qK, qD, qN⟩ := q; exact ⟨q0, q1, qP, va_K.moved (u := U) (U := U.calling g mk a) (Vm.Alike.refl U.vm) qK, qD, nx_same (u := U) (U := U.calling g mk a) rfl qN⟩, fun U hU hW => ⟨rfl, by rw [hU], by rw [hU]; exact hPc, va_K.moved hW.alike hKc, hDc.weaken (fun _ _ _ _ => trivial), nx_warm hW hN⟩⟩ rfl rfl hl.1 rfl (lv_room (Nat.le_of_ble_eq_true rfl)) dX9_writeIn_1 ⟨Nat.le_of_ble_eq_true rfl, Nat.le_of_ble_eq_true rfl⟩) hS (fun q _ h => hFc q h) hFc (fun r_1 u_2 t H1 locs ht hvm hw hB hz1 hk1 hS => ?_)
   obtain ⟨hP, hD⟩ := va_replS hP hD [] rfl List.nodup_nil hk1 hFc nil_P nil_D
   generalize H1 = H at hP hS ⊢
   rcases hw with ⟨rfl, w_3⟩ | ⟨rfl, w_3⟩
   · refine lv_if_ne (tgt := 9) hx hb dX9_writeIn_4 (by decide) (fun _ => ?_) (fun c_4 => absurd c_4 (by decide))
     exact by
      refine lv_aload_n hx hb dX9_writeIn_9 rfl (lv_at hl 0 rfl) ?_
      refine va_get (D := (dC, dI)) (ci := 9) (v := .ref (ad 1)) (C := RX9) (T := TX9) (N := 15) hx hb hg gb_9 hown hK hP 0 hQ.x0 rfl 0 (by decide) (hg _ gm_fieldLink_RX9_9_ErrandGuild_manners_AI_) (fun _ h9 => h9) rfl dX9_writeIn_10 ?_
      refine lv_iload_n hx hb dX9_writeIn_13 rfl (lv_at hl 2 rfl) ?_
      refine va_iald (f := f 0) hx hb hK hP 1 0 hQ.x1 rfl (vp_in_iff.mpr ⟨by omega, by omega⟩) dX9_writeIn_14 ?_
      refine lv_topi (fun z_5 ez_5 => ?_)
      have ez_5 : z_5 = f 0 v2.toInt.toNat := ez_5
      have qz_5 := congrArg Int32.toInt ez_5
      rcases (show (¬ z_5.toInt = 2 ∧ ¬ z_5.toInt = 3) ∨ z_5.toInt = 2 ∨ z_5.toInt = 3 by omega) with sw_6 | sw_6 | sw_6
      · refine lv_lookup (off := 57) (tgt := 72) hx hb dX9_writeIn_15 (by decide) (by simp only [Op.lookupswitch.offset]; rw [if_neg (by omega)]; rw [if_neg (by omega)]) (by decide) ?_
        refine lv_aload_n hx hb dX9_writeIn_72 rfl (lv_at hl 1 rfl) ?_
        refine va_get (D := (dC, dI)) (ci := 7) (v := .ref (ad (50 + 16 * i + 2))) (C := RX7) (T := TX7) (N := 15) hx hb hg gb_7 hown hK hP (50 + 16 * i) (hQ.b0 hi) rfl 11 (by decide) (hg _ gm_fieldLink_RX9_253_ErrandGuild_Run_memory_LErrandGuild_Memory_) (fun _ h9 => h9) rfl dX9_writeIn_73 ?_
        refine lv_iload_n hx hb dX9_writeIn_76 rfl (lv_at hl 2 rfl) ?_
        exact by
         refine lv_iload_n hx hb dX9_writeIn_77 rfl (lv_at hl 3 rfl) ?_
         have hCc : ([(50 + 16 * i + 2), (50 + 16 * i + 3), (50 + 16 * i + 4)] : List Nat).map (fun i => ws[i]?) = ([(ad (50 + 16 * i + 2), .inr (6, [.ref (ad (50 + 16 * i + 3)), .ref (ad (50 + 16 * i + 4)), .ref (ad (50 + 16 * i + 5))])), (ad (50 + 16 * i + 3), .inl (kc 1, 8, .inl (F i 0))), (ad (50 + 16 * i + 4), .inl (kc 0, 8, .inl (F i 1)))] : va_W).map some := mp3 (hQ.b2 hi) (hQ.b3 hi) (hQ.b4 hi)
         have hNd : ([(50 + 16 * i + 2), (50 + 16 * i + 3), (50 + 16 * i + 4)] : List Nat).Nodup := (nd_off (50 + 16 * i) (l := [2, 3, 4]) (by decide))
         have hPc := hP.pick [(50 + 16 * i + 2), (50 + 16 * i + 3), (50 + 16 * i + 4)] hCc
         have hDc := hD.pick [(50 + 16 * i + 2), (50 + 16 * i + 3), (50 + 16 * i + 4)] hNd hCc
         have hKc := hK.sub (tys' := [((kc 1), .boolean), ((kc 0), .int)]) [1, 0] rfl
         have hFc := va_free (wc := [(ad (50 + 16 * i + 2), .inr (6, [.ref (ad (50 + 16 * i + 3)), .ref (ad (50 + 16 * i + 4)), .ref (ad (50 + 16 * i + 5))])), (ad (50 + 16 * i + 3), .inl (kc 1, 8, .inl (F i 0))), (ad (50 + 16 * i + 4), .inl (kc 0, 8, .inl (F i 1)))]) hD hS hA [(50 + 16 * i + 2), (50 + 16 * i + 3), (50 + 16 * i + 4)] hCc
         refine va_callv (va_runV (As := [.int v2, .int v3]) (rest := []) ⟨hx, hb, hml, hown, hg⟩ (c_X6_write l dC dI (ad (50 + 16 * i + 2)) (ad (50 + 16 * i + 3)) (ad (50 + 16 * i + 4)) (ad (50 + 16 * i + 5)) (kc 1) (kc 0) (F i 0) (F i 1) v2 v3 H.size ) (cwV 2 hg (gw_V gm_methodLink_RX9_268_yX6_write gm_instanceMethod_yX6_write gm_selects_RX6_yX6_write_yX6_write gm_initialized_RX6 gm_code_yX6_write_cX6_write_3_none) rfl rfl rfl (by decide +kernel) ⟨Nat.le_of_ble_eq_true rfl, Nat.le_of_ble_eq_true rfl⟩) ⟨fun a U g mk q => by obtain ⟨q0, q1, qP, qK, qD, qN⟩ := q; exact ⟨q0, q1, qP, va_K.moved (u := U) (U := U.calling g mk a) (Vm.Alike.refl U.vm) qK, qD, nx_same (u := U) (U := U.calling g mk a) rfl qN⟩, va_recv hK hP (ci := 6) (q0 := (50 + 16 * i + 2)) rfl (hQ.b2 hi), fun U hU hW => ⟨rfl, by rw [hU], by rw [hU]; exact hPc, va_K.moved hW.alike hKc, hDc.weaken (fun _ _ _ _ => trivial), nx_warm hW hN⟩⟩ rfl rfl hl.1 rfl (lv_room (Nat.le_of_ble_eq_true rfl)) dX9_writeIn_78 ⟨Nat.le_of_ble_eq_true rfl, Nat.le_of_ble_eq_true rfl⟩) hS (fun q _ h => hFc q h) hFc (fun u_8 t H1 locs ht hvm hw hB hz1 hk1 hS => ?_)
         obtain ⟨ad_9, ac_10, af_11, ag_12⟩ := u_8
         obtain ⟨hP1, hD1, hK1, qe_13, qe_14⟩ := hB
         rw [ht] at hP1
         have hP1 : va_P (dC, dI) vwCl [((ad (50 + 16 * i + 2)), .inr (6, [.ref (ad (50 + 16 * i + 3)), .ref (ad (50 + 16 * i + 4)), .ref (ad (50 + 16 * i + 5))])), ((ad (50 + 16 * i + 3)), .inl ((kc 1), 8, .inl (af_11 0))), ((ad (50 + 16 * i + 4)), .inl ((kc 0), 8, .inl (af_11 1)))] H1 := hP1
         have hD1 : va_D _ [((ad (50 + 16 * i + 2)), .inr (6, [.ref (ad (50 + 16 * i + 3)), .ref (ad (50 + 16 * i + 4)), .ref (ad (50 + 16 * i + 5))])), ((ad (50 + 16 * i + 3)), .inl ((kc 1), 8, .inl (af_11 0))), ((ad (50 + 16 * i + 4)), .inl ((kc 0), 8, .inl (af_11 1)))] := hD1
         have qe_13 : (af_11 0) = st8 (F i 0) v2 1 := qe_13
         have qe_14 : (af_11 1) = st8 (F i 1) v2 v3 := qe_14
         rw [qe_13, qe_14] at hP1 hD1
         obtain ⟨hP, hD⟩ := va_repl (w1 := [((ad (50 + 16 * i + 2)), .inr (6, [.ref (ad (50 + 16 * i + 3)), .ref (ad (50 + 16 * i + 4)), .ref (ad (50 + 16 * i + 5))])), ((ad (50 + 16 * i + 3)), .inl ((kc 1), 8, .inl (st8 (F i 0) v2 1))), ((ad (50 + 16 * i + 4)), .inl ((kc 0), 8, .inl (st8 (F i 1) v2 v3)))]) hP hD [(50 + 16 * i + 2), (50 + 16 * i + 3), (50 + 16 * i + 4)] hCc hNd rfl hk1 hFc hP1 hD1
         obtain ⟨ws_16, F_15, eF_15, hP, hD, hQ⟩ : ∃ (ws_16 : va_W) (F_15 : Nat → Nat → Nat → Int32), F_15 = u2 (u2 F i 0 (st8 (F i 0) v2 1)) i 1 (st8 (F i 1) v2 v3) ∧ va_P (dC, dI) vwCl ws_16 H1 ∧ va_D A ws_16 ∧ Pic9 kc ws_16 ad ga gc M n f T G K F_15 := ⟨_, _, rfl, hP, hD, ((hQ.same (hQ.b2 hi)).arr hi 3 0 (by decide) (st8 (F i 0) v2 1) rfl).arr hi 4 1 (by decide) (st8 (F i 1) v2 v3) rfl⟩
         have i10_17 : i10 M G K F_15 := by rw [eF_15]; exact (i10.pF (i10.pF h_i10 hi _ _) hi _ _)
         have i11_18 : i11 M n gc f G F_15 := by rw [eF_15]; exact (i11.pF (i11.pF h_i11 i _ (by decide)) i _ (by decide))
         generalize H1 = H at hP hS ⊢
         exact by
          refine lv_iconst (v := -1) hx hb dX9_writeIn_81 (by decide) ?_
          refine W_msr2 (fun hm1 hm2 hm3 => ?_)
          exact W.iret (v := -1) hx hb hr (fun t ht hW => ⟨⟨-1, (ad, ga, gc, M, n, f, T, G, K, F_15), rfl, (by show ((C9.mk n f T G K F_15), (-1 : Int32)) = k_write i v2 v3 (C9.mk n f T G K F); subst ez_5; subst eF_15; have hX := (k_write.eq_1 i v2 v3 (C9.mk n f T G K F)).symm; (repeat (first | dsimp +instances only [c9n, c9f, c9T, c9G, c9K, c9F, b_come, b_leave, b_fill, awB, b_settle, b_wake, b_take, f_take, b_gather, f_gather, b_ask, a_ask, b_tell, c_close, d_close, k_add, k_rem, sco, k_clrF, k_mem, k_rebind, k_bnd, k_beg0, k_beg1, b_giveN, b_giveR, f_open, b_hand, k_op, b_turn, wlB, b_beat, f_anew, b_wipe, b_off, k_sadd, fits, frP, cntB, b_trace, b_child, k_lat, cond_true, cond_false, Option.elim_none, Option.elim_some, Option.getD_none, Option.getD_some] at hX | rw [if_pos (by first | with_reducible assumption | omega)] at hX | rw [if_neg (by first | with_reducible assumption | omega)] at hX | rw [jx_of (by omega)] at hX)); first | exact hX | (exfalso; omega) | exact hX), ws_16, by rw [ht]; exact hP, hD, hQ, ⟨h_i1, h_i2, h_i3, h_i4, h_i5, h_i6, h_i7, h_i8, h_i9, i10_17, i11_18⟩, by rw [ht]; show hpS H + (260 * M + 2 * S9 M gc) ≤ hpS s.heap + (260 * M + 2 * S9 M gc); omega, by rw [ht]; show 16 * H.size + (256 * M + S9 M gc) ≤ 16 * s.heap.size + (256 * M + S9 M gc); omega⟩, hS.F ht⟩) hS.2.2 dX9_writeIn_82
      · refine lv_lookup (off := 25) (tgt := 40) hx hb dX9_writeIn_15 (by decide) (by rw [sw_6]; rfl) (by decide) ?_
        refine lv_aload_n hx hb dX9_writeIn_40 rfl (lv_at hl 1 rfl) ?_
        have hFc := free_all hD hS hA
        refine va_callq (va_runV (As := []) (rest := []) ⟨hx, hb, hml, hown, hg⟩ (c_X7_root l dC dI kc ws ad ga gc M n f T G K F R i H.size (hpS H) hQ ⟨h_i1, h_i2, h_i3, h_i4, h_i5, h_i6, h_i7, h_i8, h_i9, h_i10, h_i11⟩ (by show i < M; omega)) (cwV 0 hg (gw_V gm_methodLink_RX9_161_yX7_root gm_instanceMethod_yX7_root gm_selects_RX7_yX7_root_yX7_root gm_initialized_RX7 gm_code_yX7_root_cX7_root_1_some_object_ErrandGuild_Run_) rfl rfl rfl (by decide +kernel) ⟨Nat.le_of_ble_eq_true rfl, Nat.le_of_ble_eq_true rfl⟩) ⟨fun a U g mk q => by obtain ⟨q0, q1, q2, qP, qK, qD, qN⟩ := q; exact ⟨q0, q1, q2, qP, va_K.moved (u := U) (U := U.calling g mk a) (Vm.Alike.refl U.vm) qK, qD, nx_same (u := U) (U := U.calling g mk a) rfl qN⟩, va_recv hK hP (ci := 7) (q0 := (50 + 16 * i)) rfl (hQ.b0 hi), fun U hU hW => ⟨rfl, by rw [hU], by rw [hU], by rw [hU]; exact hP, va_K.moved hW.alike hK, hD.weaken (fun _ _ _ _ => trivial), nx_warm hW hN⟩⟩ rfl rfl hl.1 rfl (lv_room (Nat.le_of_ble_eq_true rfl)) dX9_writeIn_41 ⟨Nat.le_of_ble_eq_true rfl, Nat.le_of_ble_eq_true rfl⟩) hS (fun q _ h => hFc q h) hFc (fun r_19 u_20 t H1 locs ht hvm hw hB hz1 hk1 hS => ?_)
        obtain ⟨hP, hD, hy1, hy2⟩ := hB
        rw [ht] at hP hy1 hy2
        have hD := hD.weaken (fun k q _ h => hFc _ h)
        have q1_ := h_i1
        unfold i1 at q1_
        generalize H1 = H at hP hS ⊢
        obtain rfl : r_19 = some (ad (50 + 16 * (rt9 K i))) := hw
        have hl_22 : (rt9 K i) < M := rt9_lt h_i3 hi
        refine W.eq (g2 := F0 m 44 ls [.ref (ad (50 + 16 * (rt9 K i)))]) rfl ?_
        exact by
         refine va_get (D := (dC, dI)) (ci := 7) (v := .ref (ad (50 + 16 * (rt9 K i) + 2))) (C := RX7) (T := TX7) (N := 15) hx hb hg gb_7 hown hK hP (50 + 16 * (rt9 K i)) (hQ.b0 hl_22) rfl 11 (by decide) (hg _ gm_fieldLink_RX9_253_ErrandGuild_Run_memory_LErrandGuild_Memory_) (fun _ h9 => h9) rfl dX9_writeIn_44 ?_
         refine lv_iload_n hx hb dX9_writeIn_47 rfl (lv_at hl 2 rfl) ?_
         refine lv_iload_n hx hb dX9_writeIn_48 rfl (lv_at hl 3 rfl) ?_
         have hCc : ([(50 + 16 * (rt9 K i) + 2), (50 + 16 * (rt9 K i) + 3), (50 + 16 * (rt9 K i) + 4)] : List Nat).map (fun i => ws[i]?) = ([(ad (50 + 16 * (rt9 K i) + 2), .inr (6, [.ref (ad (50 + 16 * (rt9 K i) + 3)), .ref (ad (50 + 16 * (rt9 K i) + 4)), .ref (ad (50 + 16 * (rt9 K i) + 5))])), (ad (50 + 16 * (rt9 K i) + 3), .inl (kc 1, 8, .inl (F (rt9 K i) 0))), (ad (50 + 16 * (rt9 K i) + 4), .inl (kc 0, 8, .inl (F (rt9 K i) 1)))] : va_W).map some := mp3 (hQ.b2 hl_22) (hQ.b3 hl_22) (hQ.b4 hl_22)
         have hNd : ([(50 + 16 * (rt9 K i) + 2), (50 + 16 * (rt9 K i) + 3), (50 + 16 * (rt9 K i) + 4)] : List Nat).Nodup := (nd_off (50 + 16 * (rt9 K i)) (l := [2, 3, 4]) (by decide))
         have hPc := hP.pick [(50 + 16 * (rt9 K i) + 2), (50 + 16 * (rt9 K i) + 3), (50 + 16 * (rt9 K i) + 4)] hCc
         have hDc := hD.pick [(50 + 16 * (rt9 K i) + 2), (50 + 16 * (rt9 K i) + 3), (50 + 16 * (rt9 K i) + 4)] hNd hCc
         have hKc := hK.sub (tys' := [((kc 1), .boolean), ((kc 0), .int)]) [1, 0] rfl
         have hFc := va_free (wc := [(ad (50 + 16 * (rt9 K i) + 2), .inr (6, [.ref (ad (50 + 16 * (rt9 K i) + 3)), .ref (ad (50 + 16 * (rt9 K i) + 4)), .ref (ad (50 + 16 * (rt9 K i) + 5))])), (ad (50 + 16 * (rt9 K i) + 3), .inl (kc 1, 8, .inl (F (rt9 K i) 0))), (ad (50 + 16 * (rt9 K i) + 4), .inl (kc 0, 8, .inl (F (rt9 K i) 1)))]) hD hS hA [(50 + 16 * (rt9 K i) + 2), (50 + 16 * (rt9 K i) + 3), (50 + 16 * (rt9 K i) + 4)] hCc
         refine va_callv (va_runV (As := [.int v2, .int v3]) (rest := []) ⟨hx, hb, hml, hown, hg⟩ (c_X6_write l dC dI (ad (50 + 16 * (rt9 K i) + 2)) (ad (50 + 16 * (rt9 K i) + 3)) (ad (50 + 16 * (rt9 K i) + 4)) (ad (50 + 16 * (rt9 K i) + 5)) (kc 1) (kc 0) (F (rt9 K i) 0) (F (rt9 K i) 1) v2 v3 H.size ) (cwV 2 hg (gw_V gm_methodLink_RX9_268_yX6_write gm_instanceMethod_yX6_write gm_selects_RX6_yX6_write_yX6_write gm_initialized_RX6 gm_code_yX6_write_cX6_write_3_none) rfl rfl rfl (by decide +kernel) ⟨Nat.le_of_ble_eq_true rfl, Nat.le_of_ble_eq_true rfl⟩) ⟨fun a U g mk q => by obtain ⟨q0, q1, qP, qK, qD, qN⟩ := q; exact ⟨q0, q1, qP, va_K.moved (u := U) (U := U.calling g mk a) (Vm.Alike.refl U.vm) qK, qD, nx_same (u := U) (U := U.calling g mk a) rfl qN⟩, va_recv hK hP (ci := 6) (q0 := (50 + 16 * (rt9 K i) + 2)) rfl (hQ.b2 hl_22), fun U hU hW => ⟨rfl, by rw [hU], by rw [hU]; exact hPc, va_K.moved hW.alike hKc, hDc.weaken (fun _ _ _ _ => trivial), nx_warm hW hN⟩⟩ rfl rfl hl.1 rfl (lv_room (Nat.le_of_ble_eq_true rfl)) dX9_writeIn_49 ⟨Nat.le_of_ble_eq_true rfl, Nat.le_of_ble_eq_true rfl⟩) hS (fun q _ h => hFc q h) hFc (fun u_24 t H1 locs ht hvm hw hB hz1 hk1 hS => ?_)
         obtain ⟨ad_25, ac_26, af_27, ag_28⟩ := u_24
         obtain ⟨hP1, hD1, hK1, qe_29, qe_30⟩ := hB
         rw [ht] at hP1
         have hP1 : va_P (dC, dI) vwCl [((ad (50 + 16 * (rt9 K i) + 2)), .inr (6, [.ref (ad (50 + 16 * (rt9 K i) + 3)), .ref (ad (50 + 16 * (rt9 K i) + 4)), .ref (ad (50 + 16 * (rt9 K i) + 5))])), ((ad (50 + 16 * (rt9 K i) + 3)), .inl ((kc 1), 8, .inl (af_27 0))), ((ad (50 + 16 * (rt9 K i) + 4)), .inl ((kc 0), 8, .inl (af_27 1)))] H1 := hP1
         have hD1 : va_D _ [((ad (50 + 16 * (rt9 K i) + 2)), .inr (6, [.ref (ad (50 + 16 * (rt9 K i) + 3)), .ref (ad (50 + 16 * (rt9 K i) + 4)), .ref (ad (50 + 16 * (rt9 K i) + 5))])), ((ad (50 + 16 * (rt9 K i) + 3)), .inl ((kc 1), 8, .inl (af_27 0))), ((ad (50 + 16 * (rt9 K i) + 4)), .inl ((kc 0), 8, .inl (af_27 1)))] := hD1
         have qe_29 : (af_27 0) = st8 (F (rt9 K i) 0) v2 1 := qe_29
         have qe_30 : (af_27 1) = st8 (F (rt9 K i) 1) v2 v3 := qe_30
         rw [qe_29, qe_30] at hP1 hD1
         obtain ⟨hP, hD⟩ := va_repl (w1 := [((ad (50 + 16 * (rt9 K i) + 2)), .inr (6, [.ref (ad (50 + 16 * (rt9 K i) + 3)), .ref (ad (50 + 16 * (rt9 K i) + 4)), .ref (ad (50 + 16 * (rt9 K i) + 5))])), ((ad (50 + 16 * (rt9 K i) + 3)), .inl ((kc 1), 8, .inl (st8 (F (rt9 K i) 0) v2 1))), ((ad (50 + 16 * (rt9 K i) + 4)), .inl ((kc 0), 8, .inl (st8 (F (rt9 K i) 1) v2 v3)))]) hP hD [(50 + 16 * (rt9 K i) + 2), (50 + 16 * (rt9 K i) + 3), (50 + 16 * (rt9 K i) + 4)] hCc hNd rfl hk1 hFc hP1 hD1
         obtain ⟨ws_32, F_31, eF_31, hP, hD, hQ⟩ : ∃ (ws_32 : va_W) (F_31 : Nat → Nat → Nat → Int32), F_31 = u2 (u2 F (rt9 K i) 0 (st8 (F (rt9 K i) 0) v2 1)) (rt9 K i) 1 (st8 (F (rt9 K i) 1) v2 v3) ∧ va_P (dC, dI) vwCl ws_32 H1 ∧ va_D A ws_32 ∧ Pic9 kc ws_32 ad ga gc M n f T G K F_31 := ⟨_, _, rfl, hP, hD, ((hQ.same (hQ.b2 hl_22)).arr hl_22 3 0 (by decide) (st8 (F (rt9 K i) 0) v2 1) rfl).arr hl_22 4 1 (by decide) (st8 (F (rt9 K i) 1) v2 v3) rfl⟩
         have i10_33 : i10 M G K F_31 := by rw [eF_31]; exact (i10.pF (i10.pF h_i10 hl_22 _ _) hl_22 _ _)
         have i11_34 : i11 M n gc f G F_31 := by rw [eF_31]; exact (i11.pF (i11.pF h_i11 (rt9 K i) _ (by decide)) (rt9 K i) _ (by decide))
         generalize H1 = H at hP hS ⊢
         exact by
          refine lv_iconst (v := -1) hx hb dX9_writeIn_52 (by decide) ?_
          refine W_msr2 (fun hm1 hm2 hm3 => ?_)
          exact W.iret (v := -1) hx hb hr (fun t ht hW => ⟨⟨-1, (ad, ga, gc, M, n, f, T, G, K, F_31), rfl, (by show ((C9.mk n f T G K F_31), (-1 : Int32)) = k_write i v2 v3 (C9.mk n f T G K F); subst ez_5; subst eF_31; have hX := (k_write.eq_1 i v2 v3 (C9.mk n f T G K F)).symm; (repeat (first | dsimp +instances only [c9n, c9f, c9T, c9G, c9K, c9F, b_come, b_leave, b_fill, awB, b_settle, b_wake, b_take, f_take, b_gather, f_gather, b_ask, a_ask, b_tell, c_close, d_close, k_add, k_rem, sco, k_clrF, k_mem, k_rebind, k_bnd, k_beg0, k_beg1, b_giveN, b_giveR, f_open, b_hand, k_op, b_turn, wlB, b_beat, f_anew, b_wipe, b_off, k_sadd, fits, frP, cntB, b_trace, b_child, k_lat, cond_true, cond_false, Option.elim_none, Option.elim_some, Option.getD_none, Option.getD_some] at hX | rw [if_pos (by first | with_reducible assumption | omega)] at hX | rw [if_neg (by first | with_reducible assumption | omega)] at hX | rw [jx_of (by omega)] at hX)); first | exact hX | (exfalso; omega) | exact hX), ws_32, by rw [ht]; exact hP, hD, hQ, ⟨h_i1, h_i2, h_i3, h_i4, h_i5, h_i6, h_i7, h_i8, h_i9, i10_33, i11_34⟩, by rw [ht]; show hpS H + (260 * M + 2 * S9 M gc) ≤ hpS s.heap + (260 * M + 2 * S9 M gc); omega, by rw [ht]; show 16 * H.size + (256 * M + S9 M gc) ≤ 16 * s.heap.size + (256 * M + S9 M gc); omega⟩, hS.F ht⟩) hS.2.2 dX9_writeIn_53
      · refine lv_lookup (off := 39) (tgt := 54) hx hb dX9_writeIn_15 (by decide) (by rw [sw_6]; rfl) (by decide) ?_
        refine lv_aload_n hx hb dX9_writeIn_54 rfl (lv_at hl 1 rfl) ?_
        refine va_get (D := (dC, dI)) (ci := 7) (v := .ref (ad (50 + 16 * i + 6))) (C := RX7) (T := TX7) (N := 15) hx hb hg gb_7 hown hK hP (50 + 16 * i) (hQ.b0 hi) rfl 12 (by decide) (hg _ gm_fieldLink_RX9_177_ErrandGuild_Run_scopes_LErrandGuild_Scopes_) (fun _ h9 => h9) rfl dX9_writeIn_55 ?_
        refine lv_iload_n hx hb dX9_writeIn_58 rfl (lv_at hl 2 rfl) ?_
        refine lv_iload_n hx hb dX9_writeIn_59 rfl (lv_at hl 3 rfl) ?_
        have hCc : ([(50 + 16 * i + 6), (50 + 16 * i + 7), (50 + 16 * i + 8)] : List Nat).map (fun i => ws[i]?) = ([(ad (50 + 16 * i + 6), .inr (8, [.ref (ad (50 + 16 * i + 7)), .ref (ad (50 + 16 * i + 8)), .ref (ad (50 + 16 * i + 9)), .int (G i 14), .ref (ad (50 + 16 * i + 10)), .ref (ad (50 + 16 * i + 11)), .ref (ad (50 + 16 * i + 12)), .int (G i 15), .int (G i 16)])), (ad (50 + 16 * i + 7), .inl (kc 0, 24, .inl (F i 3))), (ad (50 + 16 * i + 8), .inl (kc 0, 24, .inl (F i 4)))] : va_W).map some := mp3 (hQ.b6 hi) (hQ.b7 hi) (hQ.b8 hi)
        have hNd : ([(50 + 16 * i + 6), (50 + 16 * i + 7), (50 + 16 * i + 8)] : List Nat).Nodup := (nd_off (50 + 16 * i) (l := [6, 7, 8]) (by decide))
        have hPc := hP.pick [(50 + 16 * i + 6), (50 + 16 * i + 7), (50 + 16 * i + 8)] hCc
        have hDc := hD.pick [(50 + 16 * i + 6), (50 + 16 * i + 7), (50 + 16 * i + 8)] hNd hCc
        have hKc := hK.sub (tys' := [((kc 0), .int), ((kc 0), .int)]) [0, 0] rfl
        have hFc := va_free (wc := [(ad (50 + 16 * i + 6), .inr (8, [.ref (ad (50 + 16 * i + 7)), .ref (ad (50 + 16 * i + 8)), .ref (ad (50 + 16 * i + 9)), .int (G i 14), .ref (ad (50 + 16 * i + 10)), .ref (ad (50 + 16 * i + 11)), .ref (ad (50 + 16 * i + 12)), .int (G i 15), .int (G i 16)])), (ad (50 + 16 * i + 7), .inl (kc 0, 24, .inl (F i 3))), (ad (50 + 16 * i + 8), .inl (kc 0, 24, .inl (F i 4)))]) hD hS hA [(50 + 16 * i + 6), (50 + 16 * i + 7), (50 + 16 * i + 8)] hCc
        refine va_calli (va_runV (As := [.int v2, .int v3]) (rest := []) ⟨hx, hb, hml, hown, hg⟩ (c_X8_rebind l dC dI (ad (50 + 16 * i + 6)) (ad (50 + 16 * i + 7)) (ad (50 + 16 * i + 8)) (ad (50 + 16 * i + 9)) (ad (50 + 16 * i + 10)) (ad (50 + 16 * i + 11)) (ad (50 + 16 * i + 12)) (kc 0) (kc 0) (F i 3) (F i 4) (G i 14) (G i 15) (G i 16) v2 v3 H.size ) (cwV 2 hg (gw_V gm_methodLink_RX9_272_yX8_rebind gm_instanceMethod_yX8_rebind gm_selects_RX8_yX8_rebind_yX8_rebind gm_initialized_RX8 gm_code_yX8_rebind_cX8_rebind_4_some_boolean_) rfl rfl rfl (by decide +kernel) ⟨Nat.le_of_ble_eq_true rfl, Nat.le_of_ble_eq_true rfl⟩) ⟨fun a U g mk q => by obtain ⟨q0, q1, qP, qK, qD, qN⟩ := q; exact ⟨q0, q1, qP, va_K.moved (u := U) (U := U.calling g mk a) (Vm.Alike.refl U.vm) qK, qD, nx_same (u := U) (U := U.calling g mk a) rfl qN⟩, va_recv hK hP (ci := 8) (q0 := (50 + 16 * i + 6)) rfl (hQ.b6 hi), fun U hU hW => ⟨rfl, by rw [hU], by rw [hU]; exact hPc, va_K.moved hW.alike hKc, hDc.weaken (fun _ _ _ _ => trivial), nx_warm hW hN⟩⟩ rfl rfl hl.1 rfl (lv_room (Nat.le_of_ble_eq_true rfl)) dX9_writeIn_60 ⟨Nat.le_of_ble_eq_true rfl, Nat.le_of_ble_eq_true rfl⟩) hS (fun q _ h => hFc q h) hFc (fun r_35 u_36 t H1 locs ht hvm hw hB hz1 hk1 hS => ?_)
        obtain ⟨ad_37, ac_38, af_39, ag_40⟩ := u_36
        obtain ⟨hP1, hD1, hK1, qe_41, qe_42, qe_43, qe_44⟩ := hB
        rw [ht] at hP1
        have hP1 : va_P (dC, dI) vwCl [((ad (50 + 16 * i + 6)), .inr (8, [.ref (ad (50 + 16 * i + 7)), .ref (ad (50 + 16 * i + 8)), .ref (ad (50 + 16 * i + 9)), .int (af_39 6 0), .ref (ad (50 + 16 * i + 10)), .ref (ad (50 + 16 * i + 11)), .ref (ad (50 + 16 * i + 12)), .int (af_39 7 0), .int (af_39 8 0)])), ((ad (50 + 16 * i + 7)), .inl ((kc 0), 24, .inl (F i 3))), ((ad (50 + 16 * i + 8)), .inl ((kc 0), 24, .inl (af_39 1)))] H1 := hP1
        have hD1 : va_D _ [((ad (50 + 16 * i + 6)), .inr (8, [.ref (ad (50 + 16 * i + 7)), .ref (ad (50 + 16 * i + 8)), .ref (ad (50 + 16 * i + 9)), .int (af_39 6 0), .ref (ad (50 + 16 * i + 10)), .ref (ad (50 + 16 * i + 11)), .ref (ad (50 + 16 * i + 12)), .int (af_39 7 0), .int (af_39 8 0)])), ((ad (50 + 16 * i + 7)), .inl ((kc 0), 24, .inl (F i 3))), ((ad (50 + 16 * i + 8)), .inl ((kc 0), 24, .inl (af_39 1)))] := hD1
        have qe_41 : (af_39 1) = rbF (G i 14) (F i 3) (F i 4) v2 v3 := qe_41
        have qe_42 : (af_39 6 0) = (G i 14) := qe_42
        have qe_43 : (af_39 7 0) = (G i 15) := qe_43
        have qe_44 : (af_39 8 0) = (G i 16) := qe_44
        rw [qe_41, qe_42, qe_43, qe_44] at hP1 hD1
        obtain ⟨hP, hD⟩ := va_repl (w1 := [((ad (50 + 16 * i + 6)), .inr (8, [.ref (ad (50 + 16 * i + 7)), .ref (ad (50 + 16 * i + 8)), .ref (ad (50 + 16 * i + 9)), .int (G i 14), .ref (ad (50 + 16 * i + 10)), .ref (ad (50 + 16 * i + 11)), .ref (ad (50 + 16 * i + 12)), .int (G i 15), .int (G i 16)])), ((ad (50 + 16 * i + 7)), .inl ((kc 0), 24, .inl (F i 3))), ((ad (50 + 16 * i + 8)), .inl ((kc 0), 24, .inl (rbF (G i 14) (F i 3) (F i 4) v2 v3)))]) hP hD [(50 + 16 * i + 6), (50 + 16 * i + 7), (50 + 16 * i + 8)] hCc hNd rfl hk1 hFc hP1 hD1
        obtain ⟨ws_47, G_45, F_46, eG_45, eF_46, hP, hD, hQ⟩ : ∃ (ws_47 : va_W) (G_45 : Nat → Nat → Int32) (F_46 : Nat → Nat → Nat → Int32), G_45 = u2 (u2 (u2 G i 14 (G i 14)) i 15 (G i 15)) i 16 (G i 16) ∧ F_46 = u2 (u2 F i 3 (F i 3)) i 4 (rbF (G i 14) (F i 3) (F i 4) v2 v3) ∧ va_P (dC, dI) vwCl ws_47 H1 ∧ va_D A ws_47 ∧ Pic9 kc ws_47 ad ga gc M n f T G_45 K F_46 := ⟨_, _, _, rfl, rfl, hP, hD, ((hQ.sco2 hi (G i 14) (G i 15) (G i 16)).arr hi 7 3 (by decide) (F i 3) rfl).arr hi 8 4 (by decide) (rbF (G i 14) (F i 3) (F i 4) v2 v3) rfl⟩
        have i10_48 : i10 M G_45 K F_46 := by rw [eG_45, eF_46]; exact (i10.pF (i10.pF (i10.pG (i10.pG (i10.pG h_i10 hi _ (by decide)) hi _ (by decide)) hi _ (by decide)) hi _ _) hi _ _)
        have i11_49 : i11 M n gc f G_45 F_46 := by rw [eG_45, eF_46]; exact (i11.pF (i11.pF (i11.pG (i11.pG (i11.pG h_i11 i _ (by decide)) i _ (by decide)) i _ (by decide)) i _ (by decide)) i _ (by decide))
        have i6_50 : i6 n T G_45 := by rw [eG_45]; exact (i6.pG (i6.pG (i6.pG h_i6 i _ (by decide)) i _ (by decide)) i _ (by decide))
        have i7_51 : i7 n G_45 := by rw [eG_45]; exact (i7.pG (i7.pG (i7.pG h_i7 i _ (by decide)) i _ (by decide)) i _ (by decide))
        have i8_52 : i8 M n gc G_45 := by rw [eG_45]; exact (i8.pG (i8.pG (i8.pG h_i8 i _ (by decide)) i _ (by decide)) i _ (by decide))
        have i9_53 : i9 M gc G_45 R := by rw [eG_45]; exact (i9.pG (i9.pG (i9.pG h_i9 i _ (by decide)) i _ (by decide)) i _ (by decide))
        generalize H1 = H at hP hS ⊢
        rcases hw with ⟨rfl, w_54⟩ | ⟨rfl, w_54⟩
        · refine lv_if_eq (tgt := 70) hx hb dX9_writeIn_63 (by decide) (fun c_55 => absurd c_55 (by decide)) (fun _ => ?_)
          exact by
           refine lv_iconst (v := -1) hx hb dX9_writeIn_66 (by decide) ?_
           refine lv_goto (tgt := 71) hx hb dX9_writeIn_67 (by decide) ?_
           refine W_msr2 (fun hm1 hm2 hm3 => ?_)
           exact W.iret (v := -1) hx hb hr (fun t ht hW => ⟨⟨-1, (ad, ga, gc, M, n, f, T, G_45, K, F_46), rfl, (by show ((C9.mk n f T G_45 K F_46), (-1 : Int32)) = k_write i v2 v3 (C9.mk n f T G K F); subst ez_5; subst eG_45; subst eF_46; have hX := (k_write.eq_1 i v2 v3 (C9.mk n f T G K F)).symm; (repeat (first | dsimp +instances only [c9n, c9f, c9T, c9G, c9K, c9F, b_come, b_leave, b_fill, awB, b_settle, b_wake, b_take, f_take, b_gather, f_gather, b_ask, a_ask, b_tell, c_close, d_close, k_add, k_rem, sco, k_clrF, k_mem, k_rebind, k_bnd, k_beg0, k_beg1, b_giveN, b_giveR, f_open, b_hand, k_op, b_turn, wlB, b_beat, f_anew, b_wipe, b_off, k_sadd, fits, frP, cntB, b_trace, b_child, k_lat, cond_true, cond_false, Option.elim_none, Option.elim_some, Option.getD_none, Option.getD_some] at hX | rw [if_pos (by first | with_reducible assumption | omega)] at hX | rw [if_neg (by first | with_reducible assumption | omega)] at hX | rw [jx_of (by omega)] at hX)); first | exact hX | (exfalso; omega) | exact hX), ws_47, by rw [ht]; exact hP, hD, hQ, ⟨h_i1, h_i2, h_i3, h_i4, h_i5, i6_50, i7_51, i8_52, i9_53, i10_48, i11_49⟩, by rw [ht]; show hpS H + (260 * M + 2 * S9 M gc) ≤ hpS s.heap + (260 * M + 2 * S9 M gc); omega, by rw [ht]; show 16 * H.size + (256 * M + S9 M gc) ≤ 16 * s.heap.size + (256 * M + S9 M gc); omega⟩, hS.F ht⟩) hS.2.2 dX9_writeIn_71
        · refine lv_if_eq (tgt := 70) hx hb dX9_writeIn_63 (by decide) (fun _ => ?_) (fun c_56 => absurd c_56 (by decide))
          refine lv_iconst (v := 5) hx hb dX9_writeIn_70 (by decide) ?_
          refine W_msr2 (fun hm1 hm2 hm3 => ?_)
          exact W.iret (v := 5) hx hb hr (fun t ht hW => ⟨⟨5, (ad, ga, gc, M, n, f, T, G_45, K, F_46), rfl, (by show ((C9.mk n f T G_45 K F_46), (5 : Int32)) = k_write i v2 v3 (C9.mk n f T G K F); subst ez_5; subst eG_45; subst eF_46; have hX := (k_write.eq_1 i v2 v3 (C9.mk n f T G K F)).symm; (repeat (first | dsimp +instances only [c9n, c9f, c9T, c9G, c9K, c9F, b_come, b_leave, b_fill, awB, b_settle, b_wake, b_take, f_take, b_gather, f_gather, b_ask, a_ask, b_tell, c_close, d_close, k_add, k_rem, sco, k_clrF, k_mem, k_rebind, k_bnd, k_beg0, k_beg1, b_giveN, b_giveR, f_open, b_hand, k_op, b_turn, wlB, b_beat, f_anew, b_wipe, b_off, k_sadd, fits, frP, cntB, b_trace, b_child, k_lat, cond_true, cond_false, Option.elim_none, Option.elim_some, Option.getD_none, Option.getD_some] at hX | rw [if_pos (by first | with_reducible assumption | omega)] at hX | rw [if_neg (by first | with_reducible assumption | omega)] at hX | rw [jx_of (by omega)] at hX)); first | exact hX | (exfalso; omega) | exact hX), ws_47, by rw [ht]; exact hP, hD, hQ, ⟨h_i1, h_i2, h_i3, h_i4, h_i5, i6_50, i7_51, i8_52, i9_53, i10_48, i11_49⟩, by rw [ht]; show hpS H + (260 * M + 2 * S9 M gc) ≤ hpS s.heap + (260 * M + 2 * S9 M gc); omega, by rw [ht]; show 16 * H.size + (256 * M + S9 M gc) ≤ 16 * s.heap.size + (256 * M + S9 M gc); omega⟩, hS.F ht⟩) hS.2.2 dX9_writeIn_71
   · refine lv_if_ne (tgt := 9) hx hb dX9_writeIn_4 (by decide) (fun c_57 => absurd c_57 (by decide)) (fun _ => ?_)
     refine lv_iconst (v := 5) hx hb dX9_writeIn_7 (by decide) ?_
     refine W_msr2 (fun hm1 hm2 hm3 => ?_)
     exact W.iret (v := 5) hx hb hr (fun t ht hW => ⟨⟨5, (ad, ga, gc, M, n, f, T, G, K, F), rfl, (by show ((C9.mk n f T G K F), (5 : Int32)) = k_write i v2 v3 (C9.mk n f T G K F); have hX := (k_write.eq_1 i v2 v3 (C9.mk n f T G K F)).symm; (repeat (first | dsimp +instances only [c9n, c9f, c9T, c9G, c9K, c9F, b_come, b_leave, b_fill, awB, b_settle, b_wake, b_take, f_take, b_gather, f_gather, b_ask, a_ask, b_tell, c_close, d_close, k_add, k_rem, sco, k_clrF, k_mem, k_rebind, k_bnd, k_beg0, k_beg1, b_giveN, b_giveR, f_open, b_hand, k_op, b_turn, wlB, b_beat, f_anew, b_wipe, b_off, k_sadd, fits, frP, cntB, b_trace, b_child, k_lat, cond_true, cond_false, Option.elim_none, Option.elim_some, Option.getD_none, Option.getD_some] at hX | rw [if_pos (by first | with_reducible assumption | omega)] at hX | rw [if_neg (by first | with_reducible assumption | omega)] at hX | rw [jx_of (by omega)] at hX)); first | exact hX | (exfalso; omega) | exact hX), ws, by rw [ht]; exact hP, hD, hQ, ⟨h_i1, h_i2, h_i3, h_i4, h_i5, h_i6, h_i7, h_i8, h_i9, h_i10, h_i11⟩, by rw [ht]; show hpS H + (260 * M + 2 * S9 M gc) ≤ hpS s.heap + (260 * M + 2 * S9 M gc); omega, by rw [ht]; show 16 * H.size + (256 * M + S9 M gc) ≤ 16 * s.heap.size + (256 * M + S9 M gc); omega⟩, hS.F ht⟩) hS.2.2 dX9_writeIn_8

set_option maxHeartbeats 8000000 in
set_option maxRecDepth 100000 in
theorem c_X9_bind (l : Launch) (dC : Nat → ClassId) (dI : Nat → Nat → Nat) (kc : Nat → ClassId) (ws : va_W) (ad : Nat → Nat) (ga : Nat → Nat) (gc : Nat → Nat) (M : Nat) (n : Nat → Int32) (f : Nat → Nat → Int32) (T : Nat → Option Nat) (G : Nat → Nat → Int32) (K : Nat → Nat → Option Nat) (F : Nat → Nat → Nat → Int32) (R : Nat) (i : Nat) (v2 : Int32) (v3 : Int32) (sz hz : Nat) (hQ : Pic9 kc ws ad ga gc M n f T G K F) (hI : I9 M n f T gc G K F R) (hi : i < M) : Met l yX9_bind (.code yX9_bind cX9_bind 4 (some .int) :: gw) ({ frames := 1, cells := 0, slots := 0, locals := 22 }) (va_Pc [.ref (ad 0), .ref (ad (50 + 16 * i)), .int v2, .int v3] (fun U => U.heap.size = sz ∧ hpS U.heap = hz ∧ va_P (dC, dI) vwCl ws U.heap ∧ va_K (dC, dI) vwCl (t9 kc) U ∧ va_D (fun _ => True) ws ∧ nx U)) (va_Qi (fun (r : Int32) (u : (Nat → Nat) × (Nat → Nat) × (Nat → Nat) × Nat × (Nat → Int32) × (Nat → Nat → Int32) × (Nat → Option Nat) × (Nat → Nat → Int32) × (Nat → Nat → Option Nat) × (Nat → Nat → Nat → Int32)) => ((C9.mk n f T u.2.2.2.2.2.2.2.1 K u.2.2.2.2.2.2.2.2.2), r) = k_bind i v2 v3 (C9.mk n f T G K F)) (fun u t => ∃ w : va_W, va_P (dC, dI) vwCl w t.heap ∧ va_D (va_A ws sz) w ∧ Pic9 kc w ad ga gc M n f T u.2.2.2.2.2.2.2.1 K u.2.2.2.2.2.2.2.2.2 ∧ I9 M n f T gc u.2.2.2.2.2.2.2.1 K u.2.2.2.2.2.2.2.2.2 R ∧ hpS t.heap + (260 * M + 2 * S9 M gc) ≤ hz + (260 * M + 2 * S9 M gc) ∧ 16 * t.heap.size + (256 * M + S9 M gc) ≤ 16 * sz + (256 * M + S9 M gc)) (va_A ws sz)) 0 0 (va_A ws sz) := by
  refine Met.ofW (cc := cX9_bind) (maxL := 4) (ret := (some .int)) (by decide) rfl ?_
  intro p e s m args below meth c s₁ B hml hv
  obtain ⟨rfl, hsz, rfl, hP, hK, hD0, hN⟩ := hv
  have hx := B.exec
  have hb := B.bytes
  have hr := B.returns
  have hts := atoms_spec (ws := .code yX9_bind cX9_bind 4 (some .int) :: gw) B.pre
  have hg : ∀ w ∈ gw, w.before _ s = true := fun w h => hts w (List.mem_cons_of_mem _ h)
  have hown : s.vm.findClass RX9 = some m.cls := findClass_of_methodNamed B.named
  have hlocks := B.notSynchronized
  subst hsz
  have hD := hD0.self (sz := s.heap.size)
  generalize hAe : va_A ws s.heap.size = A at hD ⊢
  have hA : ∀ q : Nat, s.heap.size ≤ q → A q := fun q h => by rw [← hAe]; exact Or.inr h
  clear hAe
  have hS : va_S A s.heap s.heap [] := va_S.rf
  have hl := lv_entry ([.ref (ad 0), .ref (ad (50 + 16 * i)), .int v2, .int v3]) (n := 4) (Nat.le_of_ble_eq_true rfl)
  rw [lg_entry_eq]
  generalize (lg_sl ([.ref (ad 0), .ref (ad (50 + 16 * i)), .int v2, .int v3]) ++ List.replicate (4 - (lg_sl ([.ref (ad 0), .ref (ad (50 + 16 * i)), .int v2, .int v3])).length) Slot.unset).toArray = ls at hl ⊢
  have hl : lv_has ls 4 [(0, .ref (ad 0)), (1, .ref (ad (50 + 16 * i))), (2, .int v2), (3, .int v3)] := hl
  obtain ⟨h_i1, h_i2, h_i3, h_i4, h_i5, h_i6, h_i7, h_i8, h_i9, h_i10, h_i11⟩ := id hI
  have q1_ := h_i1
  unfold i1 at q1_
  exact by
   refine lv_iload_n hx hb dX9_bind_0 rfl (lv_at hl 2 rfl) ?_
   have hCc : ([] : List Nat).map (fun i => ws[i]?) = ([] : va_W).map some := rfl
   have hNd : ([] : List Nat).Nodup := List.nodup_nil
   have hPc := hP.pick [] hCc
   have hDc := hD.pick [] hNd hCc
   have hKc := hK.sub (tys' := []) [] rfl
   have hFc := va_free (wc := []) hD hS hA [] hCc
   refine va_calli (va_runS (As := [.int v2]) (rest := []) ⟨hx, hb, hml, hown, hg⟩ (c_X9_isSlot l dC dI v2 s.heap.size ) (va_cwS 1 hg (gw_S gm_methodLink_RX9_62_yX9_isSlot gm_static_yX9_isSlot gm_initialized_RX9 gm_code_yX9_isSlot_cX9_isSlot_1_some_boolean_) rfl rfl rfl (by decide +kernel) ⟨Nat.le_of_ble_eq_true rfl, Nat.le_of_ble_eq_true rfl⟩) ⟨fun a U g mk q => by obtain ⟨q0, q1, qP, qK, qD, qN⟩ := q; exact ⟨q0, q1, qP, va_K.moved (u := U) (U := U.calling g mk a) (Vm.Alike.refl U.vm) qK, qD, nx_same (u := U) (U := U.calling g mk a) rfl qN⟩, fun U hU hW => ⟨rfl, by rw [hU], by rw [hU]; exact hPc, va_K.moved hW.alike hKc, hDc.weaken (fun _ _ _ _ => trivial), nx_warm hW hN⟩⟩ rfl rfl hl.1 rfl (lv_room (Nat.le_of_ble_eq_true rfl)) dX9_bind_1 ⟨Nat.le_of_ble_eq_true rfl, Nat.le_of_ble_eq_true rfl⟩) hS (fun q _ h => hFc q h) hFc (fun r_1 u_2 t H1 locs ht hvm hw hB hz1 hk1 hS => ?_)
   obtain ⟨hP, hD⟩ := va_replS hP hD [] rfl List.nodup_nil hk1 hFc nil_P nil_D
   generalize H1 = H at hP hS ⊢
   rcases hw with ⟨rfl, w_3⟩ | ⟨rfl, w_3⟩
   · refine lv_if_eq (tgt := 17) hx hb dX9_bind_4 (by decide) (fun c_4 => absurd c_4 (by decide)) (fun _ => ?_)
     exact by
      refine lv_aload_n hx hb dX9_bind_7 rfl (lv_at hl 0 rfl) ?_
      refine va_get (D := (dC, dI)) (ci := 9) (v := .ref (ad 1)) (C := RX9) (T := TX9) (N := 15) hx hb hg gb_9 hown hK hP 0 hQ.x0 rfl 0 (by decide) (hg _ gm_fieldLink_RX9_9_ErrandGuild_manners_AI_) (fun _ h9 => h9) rfl dX9_bind_8 ?_
      refine lv_iload_n hx hb dX9_bind_11 rfl (lv_at hl 2 rfl) ?_
      refine va_iald (f := f 0) hx hb hK hP 1 0 hQ.x1 rfl (vp_in_iff.mpr ⟨by omega, by omega⟩) dX9_bind_12 ?_
      refine lv_topi (fun z_5 ez_5 => ?_)
      have ez_5 : z_5 = f 0 v2.toInt.toNat := ez_5
      have qz_5 := congrArg Int32.toInt ez_5
      refine lv_iconst (v := 3) hx hb dX9_bind_13 (by decide) ?_
      refine lv_icmp_eq (tgt := 19) hx hb dX9_bind_14 (by decide) (fun c_6 => ?_) (fun c_6 => ?_)
      · simp only [i_lt, i_le, i_eq, ti_3] at c_6
        refine lv_aload_n hx hb dX9_bind_19 rfl (lv_at hl 1 rfl) ?_
        refine va_get (D := (dC, dI)) (ci := 7) (v := .ref (ad (50 + 16 * i + 6))) (C := RX7) (T := TX7) (N := 15) hx hb hg gb_7 hown hK hP (50 + 16 * i) (hQ.b0 hi) rfl 12 (by decide) (hg _ gm_fieldLink_RX9_177_ErrandGuild_Run_scopes_LErrandGuild_Scopes_) (fun _ h9 => h9) rfl dX9_bind_20 ?_
        exact by
         refine lv_iload_n hx hb dX9_bind_23 rfl (lv_at hl 2 rfl) ?_
         refine lv_iload_n hx hb dX9_bind_24 rfl (lv_at hl 3 rfl) ?_
         have hCc : ([(50 + 16 * i + 6), (50 + 16 * i + 7), (50 + 16 * i + 8), (50 + 16 * i + 9)] : List Nat).map (fun i => ws[i]?) = ([(ad (50 + 16 * i + 6), .inr (8, [.ref (ad (50 + 16 * i + 7)), .ref (ad (50 + 16 * i + 8)), .ref (ad (50 + 16 * i + 9)), .int (G i 14), .ref (ad (50 + 16 * i + 10)), .ref (ad (50 + 16 * i + 11)), .ref (ad (50 + 16 * i + 12)), .int (G i 15), .int (G i 16)])), (ad (50 + 16 * i + 7), .inl (kc 0, 24, .inl (F i 3))), (ad (50 + 16 * i + 8), .inl (kc 0, 24, .inl (F i 4))), (ad (50 + 16 * i + 9), .inl (kc 0, 24, .inl (F i 5)))] : va_W).map some := mp4 (hQ.b6 hi) (hQ.b7 hi) (hQ.b8 hi) (hQ.b9 hi)
         have hNd : ([(50 + 16 * i + 6), (50 + 16 * i + 7), (50 + 16 * i + 8), (50 + 16 * i + 9)] : List Nat).Nodup := (nd_off (50 + 16 * i) (l := [6, 7, 8, 9]) (by decide))
         have hPc := hP.pick [(50 + 16 * i + 6), (50 + 16 * i + 7), (50 + 16 * i + 8), (50 + 16 * i + 9)] hCc
         have hDc := hD.pick [(50 + 16 * i + 6), (50 + 16 * i + 7), (50 + 16 * i + 8), (50 + 16 * i + 9)] hNd hCc
         have hKc := hK.sub (tys' := [((kc 0), .int), ((kc 0), .int), ((kc 0), .int)]) [0, 0, 0] rfl
         have hFc := va_free (wc := [(ad (50 + 16 * i + 6), .inr (8, [.ref (ad (50 + 16 * i + 7)), .ref (ad (50 + 16 * i + 8)), .ref (ad (50 + 16 * i + 9)), .int (G i 14), .ref (ad (50 + 16 * i + 10)), .ref (ad (50 + 16 * i + 11)), .ref (ad (50 + 16 * i + 12)), .int (G i 15), .int (G i 16)])), (ad (50 + 16 * i + 7), .inl (kc 0, 24, .inl (F i 3))), (ad (50 + 16 * i + 8), .inl (kc 0, 24, .inl (F i 4))), (ad (50 + 16 * i + 9), .inl (kc 0, 24, .inl (F i 5)))]) hD hS hA [(50 + 16 * i + 6), (50 + 16 * i + 7), (50 + 16 * i + 8), (50 + 16 * i + 9)] hCc
         refine va_callv (va_runV (As := [.int v2, .int v3]) (rest := []) ⟨hx, hb, hml, hown, hg⟩ (c_X8_bind l dC dI (ad (50 + 16 * i + 6)) (ad (50 + 16 * i + 7)) (ad (50 + 16 * i + 8)) (ad (50 + 16 * i + 9)) (ad (50 + 16 * i + 10)) (ad (50 + 16 * i + 11)) (ad (50 + 16 * i + 12)) (kc 0) (kc 0) (kc 0) (F i 3) (F i 4) (F i 5) (G i 14) (G i 15) (G i 16) v2 v3 H.size ) (cwV 2 hg (gw_V gm_methodLink_RX9_279_yX8_bind gm_instanceMethod_yX8_bind gm_selects_RX8_yX8_bind_yX8_bind gm_initialized_RX8 gm_code_yX8_bind_cX8_bind_3_none) rfl rfl rfl (by decide +kernel) ⟨Nat.le_of_ble_eq_true rfl, Nat.le_of_ble_eq_true rfl⟩) ⟨fun a U g mk q => by obtain ⟨q0, q1, qP, qK, qD, qN⟩ := q; exact ⟨q0, q1, qP, va_K.moved (u := U) (U := U.calling g mk a) (Vm.Alike.refl U.vm) qK, qD, nx_same (u := U) (U := U.calling g mk a) rfl qN⟩, va_recv hK hP (ci := 8) (q0 := (50 + 16 * i + 6)) rfl (hQ.b6 hi), fun U hU hW => ⟨rfl, by rw [hU], by rw [hU]; exact hPc, va_K.moved hW.alike hKc, hDc.weaken (fun _ _ _ _ => trivial), nx_warm hW hN⟩⟩ rfl rfl hl.1 rfl (lv_room (Nat.le_of_ble_eq_true rfl)) dX9_bind_25 ⟨Nat.le_of_ble_eq_true rfl, Nat.le_of_ble_eq_true rfl⟩) hS (fun q _ h => hFc q h) hFc (fun u_8 t H1 locs ht hvm hw hB hz1 hk1 hS => ?_)
         obtain ⟨ad_9, ac_10, af_11, ag_12⟩ := u_8
         obtain ⟨hP1, hD1, hK1, qe_13, qe_14, qe_15, qe_16, qe_17, qe_18⟩ := hB
         rw [ht] at hP1
         have hP1 : va_P (dC, dI) vwCl [((ad (50 + 16 * i + 6)), .inr (8, [.ref (ad (50 + 16 * i + 7)), .ref (ad (50 + 16 * i + 8)), .ref (ad (50 + 16 * i + 9)), .int (af_11 6 0), .ref (ad (50 + 16 * i + 10)), .ref (ad (50 + 16 * i + 11)), .ref (ad (50 + 16 * i + 12)), .int (af_11 7 0), .int (af_11 8 0)])), ((ad (50 + 16 * i + 7)), .inl ((kc 0), 24, .inl (af_11 0))), ((ad (50 + 16 * i + 8)), .inl ((kc 0), 24, .inl (af_11 1))), ((ad (50 + 16 * i + 9)), .inl ((kc 0), 24, .inl (af_11 2)))] H1 := hP1
         have hD1 : va_D _ [((ad (50 + 16 * i + 6)), .inr (8, [.ref (ad (50 + 16 * i + 7)), .ref (ad (50 + 16 * i + 8)), .ref (ad (50 + 16 * i + 9)), .int (af_11 6 0), .ref (ad (50 + 16 * i + 10)), .ref (ad (50 + 16 * i + 11)), .ref (ad (50 + 16 * i + 12)), .int (af_11 7 0), .int (af_11 8 0)])), ((ad (50 + 16 * i + 7)), .inl ((kc 0), 24, .inl (af_11 0))), ((ad (50 + 16 * i + 8)), .inl ((kc 0), 24, .inl (af_11 1))), ((ad (50 + 16 * i + 9)), .inl ((kc 0), 24, .inl (af_11 2)))] := hD1
         have qe_13 : (af_11 0) = bnF (G i 14) (F i 3) v2 := qe_13
         have qe_14 : (af_11 1) = bnF (G i 14) (F i 4) v3 := qe_14
         have qe_15 : (af_11 2) = bnF (G i 14) (F i 5) (G i 16) := qe_15
         have qe_16 : (af_11 6 0) = bnN (G i 14) := qe_16
         have qe_17 : (af_11 7 0) = (G i 15) := qe_17
         have qe_18 : (af_11 8 0) = (G i 16) := qe_18
         rw [qe_13, qe_14, qe_15, qe_16, qe_17, qe_18] at hP1 hD1
         obtain ⟨hP, hD⟩ := va_repl (w1 := [((ad (50 + 16 * i + 6)), .inr (8, [.ref (ad (50 + 16 * i + 7)), .ref (ad (50 + 16 * i + 8)), .ref (ad (50 + 16 * i + 9)), .int (bnN (G i 14)), .ref (ad (50 + 16 * i + 10)), .ref (ad (50 + 16 * i + 11)), .ref (ad (50 + 16 * i + 12)), .int (G i 15), .int (G i 16)])), ((ad (50 + 16 * i + 7)), .inl ((kc 0), 24, .inl (bnF (G i 14) (F i 3) v2))), ((ad (50 + 16 * i + 8)), .inl ((kc 0), 24, .inl (bnF (G i 14) (F i 4) v3))), ((ad (50 + 16 * i + 9)), .inl ((kc 0), 24, .inl (bnF (G i 14) (F i 5) (G i 16))))]) hP hD [(50 + 16 * i + 6), (50 + 16 * i + 7), (50 + 16 * i + 8), (50 + 16 * i + 9)] hCc hNd rfl hk1 hFc hP1 hD1
         obtain ⟨ws_21, G_19, F_20, eG_19, eF_20, hP, hD, hQ⟩ : ∃ (ws_21 : va_W) (G_19 : Nat → Nat → Int32) (F_20 : Nat → Nat → Nat → Int32), G_19 = u2 (u2 (u2 G i 14 (bnN (G i 14))) i 15 (G i 15)) i 16 (G i 16) ∧ F_20 = u2 (u2 (u2 F i 3 (bnF (G i 14) (F i 3) v2)) i 4 (bnF (G i 14) (F i 4) v3)) i 5 (bnF (G i 14) (F i 5) (G i 16)) ∧ va_P (dC, dI) vwCl ws_21 H1 ∧ va_D A ws_21 ∧ Pic9 kc ws_21 ad ga gc M n f T G_19 K F_20 := ⟨_, _, _, rfl, rfl, hP, hD, (((hQ.sco2 hi (bnN (G i 14)) (G i 15) (G i 16)).arr hi 7 3 (by decide) (bnF (G i 14) (F i 3) v2) rfl).arr hi 8 4 (by decide) (bnF (G i 14) (F i 4) v3) rfl).arr hi 9 5 (by decide) (bnF (G i 14) (F i 5) (G i 16)) rfl⟩
         have i10_22 : i10 M G_19 K F_20 := by rw [eG_19, eF_20]; exact (i10.pF (i10.pF (i10.pF (i10.pG (i10.pG (i10.pG h_i10 hi _ (by decide)) hi _ (by decide)) hi _ (by decide)) hi _ _) hi _ _) hi _ _)
         have i11_23 : i11 M n gc f G_19 F_20 := by rw [eG_19, eF_20]; exact (i11.pF (i11.pF (i11.pF (i11.pG (i11.pG (i11.pG h_i11 i _ (by decide)) i _ (by decide)) i _ (by decide)) i _ (by decide)) i _ (by decide)) i _ (by decide))
         have i6_24 : i6 n T G_19 := by rw [eG_19]; exact (i6.pG (i6.pG (i6.pG h_i6 i _ (by decide)) i _ (by decide)) i _ (by decide))
         have i7_25 : i7 n G_19 := by rw [eG_19]; exact (i7.pG (i7.pG (i7.pG h_i7 i _ (by decide)) i _ (by decide)) i _ (by decide))
         have i8_26 : i8 M n gc G_19 := by rw [eG_19]; exact (i8.pG (i8.pG (i8.pG h_i8 i _ (by decide)) i _ (by decide)) i _ (by decide))
         have i9_27 : i9 M gc G_19 R := by rw [eG_19]; exact (i9.pG (i9.pG (i9.pG h_i9 i _ (by decide)) i _ (by decide)) i _ (by decide))
         generalize H1 = H at hP hS ⊢
         exact by
          refine lv_iconst (v := -1) hx hb dX9_bind_28 (by decide) ?_
          refine W_msr2 (fun hm1 hm2 hm3 => ?_)
          exact W.iret (v := -1) hx hb hr (fun t ht hW => ⟨⟨-1, (ad, ga, gc, M, n, f, T, G_19, K, F_20), rfl, (by show ((C9.mk n f T G_19 K F_20), (-1 : Int32)) = k_bind i v2 v3 (C9.mk n f T G K F); subst ez_5; subst eG_19; subst eF_20; have hX := (k_bind.eq_1 i v2 v3 (C9.mk n f T G K F)).symm; (repeat (first | dsimp +instances only [c9n, c9f, c9T, c9G, c9K, c9F, b_come, b_leave, b_fill, awB, b_settle, b_wake, b_take, f_take, b_gather, f_gather, b_ask, a_ask, b_tell, c_close, d_close, k_add, k_rem, sco, k_clrF, k_mem, k_rebind, k_bnd, k_beg0, k_beg1, b_giveN, b_giveR, f_open, b_hand, k_op, b_turn, wlB, b_beat, f_anew, b_wipe, b_off, k_sadd, fits, frP, cntB, b_trace, b_child, k_lat, cond_true, cond_false, Option.elim_none, Option.elim_some, Option.getD_none, Option.getD_some] at hX | rw [if_pos (by first | with_reducible assumption | omega)] at hX | rw [if_neg (by first | with_reducible assumption | omega)] at hX | rw [jx_of (by omega)] at hX)); first | exact hX | (exfalso; omega) | exact hX), ws_21, by rw [ht]; exact hP, hD, hQ, ⟨h_i1, h_i2, h_i3, h_i4, h_i5, i6_24, i7_25, i8_26, i9_27, i10_22, i11_23⟩, by rw [ht]; show hpS H + (260 * M + 2 * S9 M gc) ≤ hpS s.heap + (260 * M + 2 * S9 M gc); omega, by rw [ht]; show 16 * H.size + (256 * M + S9 M gc) ≤ 16 * s.heap.size + (256 * M + S9 M gc); omega⟩, hS.F ht⟩) hS.2.2 dX9_bind_29
      · simp only [i_lt, i_le, i_eq, ti_3] at c_6
        refine lv_iconst (v := 5) hx hb dX9_bind_17 (by decide) ?_
        refine W_msr2 (fun hm1 hm2 hm3 => ?_)
        exact W.iret (v := 5) hx hb hr (fun t ht hW => ⟨⟨5, (ad, ga, gc, M, n, f, T, G, K, F), rfl, (by show ((C9.mk n f T G K F), (5 : Int32)) = k_bind i v2 v3 (C9.mk n f T G K F); subst ez_5; have hX := (k_bind.eq_1 i v2 v3 (C9.mk n f T G K F)).symm; (repeat (first | dsimp +instances only [c9n, c9f, c9T, c9G, c9K, c9F, b_come, b_leave, b_fill, awB, b_settle, b_wake, b_take, f_take, b_gather, f_gather, b_ask, a_ask, b_tell, c_close, d_close, k_add, k_rem, sco, k_clrF, k_mem, k_rebind, k_bnd, k_beg0, k_beg1, b_giveN, b_giveR, f_open, b_hand, k_op, b_turn, wlB, b_beat, f_anew, b_wipe, b_off, k_sadd, fits, frP, cntB, b_trace, b_child, k_lat, cond_true, cond_false, Option.elim_none, Option.elim_some, Option.getD_none, Option.getD_some] at hX | rw [if_pos (by first | with_reducible assumption | omega)] at hX | rw [if_neg (by first | with_reducible assumption | omega)] at hX | rw [jx_of (by omega)] at hX)); first | exact hX | (exfalso; omega) | exact hX), ws, by rw [ht]; exact hP, hD, hQ, ⟨h_i1, h_i2, h_i3, h_i4, h_i5, h_i6, h_i7, h_i8, h_i9, h_i10, h_i11⟩, by rw [ht]; show hpS H + (260 * M + 2 * S9 M gc) ≤ hpS s.heap + (260 * M + 2 * S9 M gc); omega, by rw [ht]; show 16 * H.size + (256 * M + S9 M gc) ≤ 16 * s.heap.size + (256 * M + S9 M gc); omega⟩, hS.F ht⟩) hS.2.2 dX9_bind_18
   · refine lv_if_eq (tgt := 17) hx hb dX9_bind_4 (by decide) (fun _ => ?_) (fun c_28 => absurd c_28 (by decide))
     refine lv_iconst (v := 5) hx hb dX9_bind_17 (by decide) ?_
     refine W_msr2 (fun hm1 hm2 hm3 => ?_)
     exact W.iret (v := 5) hx hb hr (fun t ht hW => ⟨⟨5, (ad, ga, gc, M, n, f, T, G, K, F), rfl, (by show ((C9.mk n f T G K F), (5 : Int32)) = k_bind i v2 v3 (C9.mk n f T G K F); have hX := (k_bind.eq_1 i v2 v3 (C9.mk n f T G K F)).symm; (repeat (first | dsimp +instances only [c9n, c9f, c9T, c9G, c9K, c9F, b_come, b_leave, b_fill, awB, b_settle, b_wake, b_take, f_take, b_gather, f_gather, b_ask, a_ask, b_tell, c_close, d_close, k_add, k_rem, sco, k_clrF, k_mem, k_rebind, k_bnd, k_beg0, k_beg1, b_giveN, b_giveR, f_open, b_hand, k_op, b_turn, wlB, b_beat, f_anew, b_wipe, b_off, k_sadd, fits, frP, cntB, b_trace, b_child, k_lat, cond_true, cond_false, Option.elim_none, Option.elim_some, Option.getD_none, Option.getD_some] at hX | rw [if_pos (by first | with_reducible assumption | omega)] at hX | rw [if_neg (by first | with_reducible assumption | omega)] at hX | rw [jx_of (by omega)] at hX)); first | exact hX | (exfalso; omega) | exact hX), ws, by rw [ht]; exact hP, hD, hQ, ⟨h_i1, h_i2, h_i3, h_i4, h_i5, h_i6, h_i7, h_i8, h_i9, h_i10, h_i11⟩, by rw [ht]; show hpS H + (260 * M + 2 * S9 M gc) ≤ hpS s.heap + (260 * M + 2 * S9 M gc); omega, by rw [ht]; show 16 * H.size + (256 * M + S9 M gc) ≤ 16 * s.heap.size + (256 * M + S9 M gc); omega⟩, hS.F ht⟩) hS.2.2 dX9_bind_18

set_option maxHeartbeats 8000000 in
set_option maxRecDepth 100000 in
theorem c_X9_end (l : Launch) (dC : Nat → ClassId) (dI : Nat → Nat → Nat) (kc : Nat → ClassId) (ws : va_W) (ad : Nat → Nat) (ga : Nat → Nat) (gc : Nat → Nat) (M : Nat) (n : Nat → Int32) (f : Nat → Nat → Int32) (T : Nat → Option Nat) (G : Nat → Nat → Int32) (K : Nat → Nat → Option Nat) (F : Nat → Nat → Nat → Int32) (R : Nat) (i : Nat) (sz hz : Nat) (hQ : Pic9 kc ws ad ga gc M n f T G K F) (hI : I9 M n f T gc G K F R) (hi : i < M) : Met l yX9_end (.code yX9_end cX9_end 2 (some .int) :: gw) ({ frames := 1, cells := 0, slots := 0, locals := 20 }) (va_Pc [.ref (ad 0), .ref (ad (50 + 16 * i))] (fun U => U.heap.size = sz ∧ hpS U.heap = hz ∧ va_P (dC, dI) vwCl ws U.heap ∧ va_K (dC, dI) vwCl (t9 kc) U ∧ va_D (fun _ => True) ws ∧ nx U)) (va_Qi (fun (r : Int32) (u : (Nat → Nat) × (Nat → Nat) × (Nat → Nat) × Nat × (Nat → Int32) × (Nat → Nat → Int32) × (Nat → Option Nat) × (Nat → Nat → Int32) × (Nat → Nat → Option Nat) × (Nat → Nat → Nat → Int32)) => ((C9.mk n f T u.2.2.2.2.2.2.2.1 K F), r) = k_end i (C9.mk n f T G K F)) (fun u t => ∃ w : va_W, va_P (dC, dI) vwCl w t.heap ∧ va_D (va_A ws sz) w ∧ Pic9 kc w ad ga gc M n f T u.2.2.2.2.2.2.2.1 K F ∧ I9 M n f T gc u.2.2.2.2.2.2.2.1 K F R ∧ hpS t.heap + (260 * M + 2 * S9 M gc) ≤ hz + (260 * M + 2 * S9 M gc) ∧ 16 * t.heap.size + (256 * M + S9 M gc) ≤ 16 * sz + (256 * M + S9 M gc)) (va_A ws sz)) 0 0 (va_A ws sz) := by
  refine Met.ofW (cc := cX9_end) (maxL := 2) (ret := (some .int)) (by decide) rfl ?_
  intro p e s m args below meth c s₁ B hml hv
  obtain ⟨rfl, hsz, rfl, hP, hK, hD0, hN⟩ := hv
  have hx := B.exec
  have hb := B.bytes
  have hr := B.returns
  have hts := atoms_spec (ws := .code yX9_end cX9_end 2 (some .int) :: gw) B.pre
  have hg : ∀ w ∈ gw, w.before _ s = true := fun w h => hts w (List.mem_cons_of_mem _ h)
  have hown : s.vm.findClass RX9 = some m.cls := findClass_of_methodNamed B.named
  have hlocks := B.notSynchronized
  subst hsz
  have hD := hD0.self (sz := s.heap.size)
  generalize hAe : va_A ws s.heap.size = A at hD ⊢
  have hA : ∀ q : Nat, s.heap.size ≤ q → A q := fun q h => by rw [← hAe]; exact Or.inr h
  clear hAe
  have hS : va_S A s.heap s.heap [] := va_S.rf
  have hl := lv_entry ([.ref (ad 0), .ref (ad (50 + 16 * i))]) (n := 2) (Nat.le_of_ble_eq_true rfl)
  rw [lg_entry_eq]
  generalize (lg_sl ([.ref (ad 0), .ref (ad (50 + 16 * i))]) ++ List.replicate (2 - (lg_sl ([.ref (ad 0), .ref (ad (50 + 16 * i))])).length) Slot.unset).toArray = ls at hl ⊢
  have hl : lv_has ls 2 [(0, .ref (ad 0)), (1, .ref (ad (50 + 16 * i)))] := hl
  obtain ⟨h_i1, h_i2, h_i3, h_i4, h_i5, h_i6, h_i7, h_i8, h_i9, h_i10, h_i11⟩ := id hI
  have q1_ := h_i1
  unfold i1 at q1_
  exact by
   refine lv_aload_n hx hb dX9_end_0 rfl (lv_at hl 1 rfl) ?_
   refine lv_iconst (v := 3) hx hb dX9_end_1 (by decide) ?_
   refine va_put (D := (dC, dI)) (ci := 7) (v := .int (3)) (ty := .int) (C := RX7) (T := TX7) (N := 15) hx hb hg gb_7 tyX7 tyX7_ok nmX7 hown hK hP hD hS (50 + 16 * i) (hQ.b0 hi) rfl 2 (by decide) (hg _ gm_fieldLink_RX9_145_ErrandGuild_Run_state_I_) (fun _ h9 => h9) rfl (by decide +kernel) rfl rfl (Nat.le_of_ble_eq_true rfl) dX9_end_2 (fun H locs hP hD hS => ?_)
   obtain ⟨ws_2, G_1, eG_1, hP, hD, hQ⟩ : ∃ (ws_2 : va_W) (G_1 : Nat → Nat → Int32), G_1 = u2 G i 2 3 ∧ va_P (dC, dI) vwCl ws_2 H ∧ va_D A ws_2 ∧ Pic9 kc ws_2 ad ga gc M n f T G_1 K F := ⟨_, _, rfl, hP, hD, hQ.run hi 2 (by decide) 3⟩
   have i10_3 : i10 M G_1 K F := by rw [eG_1]; exact (i10.pG h_i10 hi _ (by decide))
   have i11_4 : i11 M n gc f G_1 F := by rw [eG_1]; exact (i11.pG h_i11 i _ (by decide))
   have i6_5 : i6 n T G_1 := by rw [eG_1]; exact (i6.pG h_i6 i _ (by decide))
   have i7_6 : i7 n G_1 := by rw [eG_1]; exact (i7.st h_i7 i (by decide))
   have i8_7 : i8 M n gc G_1 := by rw [eG_1]; exact (i8.pG h_i8 i _ (by decide))
   have i9_8 : i9 M gc G_1 R := by rw [eG_1]; exact (i9.pG h_i9 i _ (by decide))
   have eg_9 : G_1 i 2 = 3 := by rw [eG_1, u2_eq]
   refine lv_aload_n hx hb dX9_end_5 rfl (lv_at hl 1 rfl) ?_
   exact by
    refine lv_aload_n hx hb dX9_end_6 rfl (lv_at hl 0 rfl) ?_
    refine va_get (D := (dC, dI)) (ci := 9) (v := .int (n 2)) (C := RX9) (T := TX9) (N := 15) hx hb hg gb_9 hown hK hP 0 hQ.x0 rfl 8 (by decide) (hg _ gm_fieldLink_RX9_84_ErrandGuild_beats_I_) (fun _ h9 => h9) rfl dX9_end_7 ?_
    refine va_put (D := (dC, dI)) (ci := 7) (v := .int (n 2)) (ty := .int) (C := RX7) (T := TX7) (N := 15) hx hb hg gb_7 tyX7 tyX7_ok nmX7 hown hK hP hD hS (50 + 16 * i) (hQ.b0 hi) rfl 7 (by decide) (hg _ gm_fieldLink_RX9_189_ErrandGuild_Run_overBeat_I_) (fun _ h9 => h9) rfl (by decide +kernel) rfl rfl (Nat.le_of_ble_eq_true rfl) dX9_end_10 (fun H locs hP hD hS => ?_)
    obtain ⟨ws_11, G_10, eG_10, hP, hD, hQ⟩ : ∃ (ws_11 : va_W) (G_10 : Nat → Nat → Int32), G_10 = u2 G_1 i 7 (n 2) ∧ va_P (dC, dI) vwCl ws_11 H ∧ va_D A ws_11 ∧ Pic9 kc ws_11 ad ga gc M n f T G_10 K F := ⟨_, _, rfl, hP, hD, hQ.run hi 7 (by decide) (n 2)⟩
    have i10_12 : i10 M G_10 K F := by rw [eG_10]; exact (i10.pG i10_3 hi _ (by decide))
    have i11_13 : i11 M n gc f G_10 F := by rw [eG_10]; exact (i11.pG i11_4 i _ (by decide))
    have i6_14 : i6 n T G_10 := by rw [eG_10]; exact (i6.pG i6_5 i _ (by decide))
    have i7_15 : i7 n G_10 := by rw [eG_10]; exact (i7.pG i7_6 i _ (by decide))
    have i8_16 : i8 M n gc G_10 := by rw [eG_10]; exact (i8.pG i8_7 i _ (by decide))
    have i9_17 : i9 M gc G_10 R := by rw [eG_10]; exact (i9.pG i9_8 i _ (by decide))
    have eg_18 : G_10 i 7 = (n 2) := by rw [eG_10, u2_eq]
    refine lv_aload_n hx hb dX9_end_13 rfl (lv_at hl 1 rfl) ?_
    exact by
     refine va_get (D := (dC, dI)) (ci := 7) (v := .ref (ad (50 + 16 * i + 6))) (C := RX7) (T := TX7) (N := 15) hx hb hg gb_7 hown hK hP (50 + 16 * i) (hQ.b0 hi) rfl 12 (by decide) (hg _ gm_fieldLink_RX9_177_ErrandGuild_Run_scopes_LErrandGuild_Scopes_) (fun _ h9 => h9) rfl dX9_end_14 ?_
     have hCc : ([(50 + 16 * i + 6)] : List Nat).map (fun i => ws_11[i]?) = ([(ad (50 + 16 * i + 6), .inr (8, [.ref (ad (50 + 16 * i + 7)), .ref (ad (50 + 16 * i + 8)), .ref (ad (50 + 16 * i + 9)), .int (G_10 i 14), .ref (ad (50 + 16 * i + 10)), .ref (ad (50 + 16 * i + 11)), .ref (ad (50 + 16 * i + 12)), .int (G_10 i 15), .int (G_10 i 16)]))] : va_W).map some := mp1 (hQ.b6 hi)
     have hNd : ([(50 + 16 * i + 6)] : List Nat).Nodup := (nd_off (50 + 16 * i) (l := [6]) (by decide))
     have hPc := hP.pick [(50 + 16 * i + 6)] hCc
     have hDc := hD.pick [(50 + 16 * i + 6)] hNd hCc
     have hKc := hK.sub (tys' := []) [] rfl
     have hFc := va_free (wc := [(ad (50 + 16 * i + 6), .inr (8, [.ref (ad (50 + 16 * i + 7)), .ref (ad (50 + 16 * i + 8)), .ref (ad (50 + 16 * i + 9)), .int (G_10 i 14), .ref (ad (50 + 16 * i + 10)), .ref (ad (50 + 16 * i + 11)), .ref (ad (50 + 16 * i + 12)), .int (G_10 i 15), .int (G_10 i 16)]))]) hD hS hA [(50 + 16 * i + 6)] hCc
     refine va_callv (va_runV (As := []) (rest := []) ⟨hx, hb, hml, hown, hg⟩ (c_X8_endBindings l dC dI (ad (50 + 16 * i + 6)) (ad (50 + 16 * i + 7)) (ad (50 + 16 * i + 8)) (ad (50 + 16 * i + 9)) (ad (50 + 16 * i + 10)) (ad (50 + 16 * i + 11)) (ad (50 + 16 * i + 12)) (G_10 i 14) (G_10 i 15) (G_10 i 16) H.size ) (cwV 0 hg (gw_V gm_methodLink_RX9_365_yX8_endBindings gm_instanceMethod_yX8_endBindings gm_selects_RX8_yX8_endBindings_yX8_endBindings gm_initialized_RX8 gm_code_yX8_endBindings_cX8_endBindings_1_none) rfl rfl rfl (by decide +kernel) ⟨Nat.le_of_ble_eq_true rfl, Nat.le_of_ble_eq_true rfl⟩) ⟨fun a U g mk q => by obtain ⟨q0, q1, qP, qK, qD, qN⟩ := q; exact ⟨q0, q1, qP, va_K.moved (u := U) (U := U.calling g mk a) (Vm.Alike.refl U.vm) qK, qD, nx_same (u := U) (U := U.calling g mk a) rfl qN⟩, va_recv hK hP (ci := 8) (q0 := (50 + 16 * i + 6)) rfl (hQ.b6 hi), fun U hU hW => ⟨rfl, by rw [hU], by rw [hU]; exact hPc, va_K.moved hW.alike hKc, hDc.weaken (fun _ _ _ _ => trivial), nx_warm hW hN⟩⟩ rfl rfl hl.1 rfl (lv_room (Nat.le_of_ble_eq_true rfl)) dX9_end_17 ⟨Nat.le_of_ble_eq_true rfl, Nat.le_of_ble_eq_true rfl⟩) hS (fun q _ h => hFc q h) hFc (fun u_20 t H1 locs ht hvm hw hB hz1 hk1 hS => ?_)
     obtain ⟨ad_21, ac_22, af_23, ag_24⟩ := u_20
     obtain ⟨hP1, hD1, hK1⟩ := hB
     rw [ht] at hP1
     obtain ⟨hP, hD⟩ := va_repl (w1 := [((ad (50 + 16 * i + 6)), .inr (8, [.ref (ad (50 + 16 * i + 7)), .ref (ad (50 + 16 * i + 8)), .ref (ad (50 + 16 * i + 9)), .int 0, .ref (ad (50 + 16 * i + 10)), .ref (ad (50 + 16 * i + 11)), .ref (ad (50 + 16 * i + 12)), .int (G_10 i 15), .int (G_10 i 16)]))]) hP hD [(50 + 16 * i + 6)] hCc hNd rfl hk1 hFc hP1 hD1
     obtain ⟨ws_26, G_25, eG_25, hP, hD, hQ⟩ : ∃ (ws_26 : va_W) (G_25 : Nat → Nat → Int32), G_25 = u2 (u2 (u2 G_10 i 14 0) i 15 (G_10 i 15)) i 16 (G_10 i 16) ∧ va_P (dC, dI) vwCl ws_26 H1 ∧ va_D A ws_26 ∧ Pic9 kc ws_26 ad ga gc M n f T G_25 K F := ⟨_, _, rfl, hP, hD, hQ.sco2 hi 0 (G_10 i 15) (G_10 i 16)⟩
     have i10_27 : i10 M G_25 K F := by rw [eG_25]; exact (i10.pG (i10.pG (i10.pG i10_12 hi _ (by decide)) hi _ (by decide)) hi _ (by decide))
     have i11_28 : i11 M n gc f G_25 F := by rw [eG_25]; exact (i11.pG (i11.pG (i11.pG i11_13 i _ (by decide)) i _ (by decide)) i _ (by decide))
     have i6_29 : i6 n T G_25 := by rw [eG_25]; exact (i6.pG (i6.pG (i6.pG i6_14 i _ (by decide)) i _ (by decide)) i _ (by decide))
     have i7_30 : i7 n G_25 := by rw [eG_25]; exact (i7.pG (i7.pG (i7.pG i7_15 i _ (by decide)) i _ (by decide)) i _ (by decide))
     have i8_31 : i8 M n gc G_25 := by rw [eG_25]; exact (i8.pG (i8.pG (i8.pG i8_16 i _ (by decide)) i _ (by decide)) i _ (by decide))
     have i9_32 : i9 M gc G_25 R := by rw [eG_25]; exact (i9.pG (i9.pG (i9.pG i9_17 i _ (by decide)) i _ (by decide)) i _ (by decide))
     generalize H1 = H at hP hS ⊢
     exact by
      refine lv_bipush (v := -2) hx hb dX9_end_20 (by decide) ?_
      refine W_msr2 (fun hm1 hm2 hm3 => ?_)
      exact W.iret (v := -2) hx hb hr (fun t ht hW => ⟨⟨-2, (ad, ga, gc, M, n, f, T, G_25, K, F), rfl, (by show ((C9.mk n f T G_25 K F), (-2 : Int32)) = k_end i (C9.mk n f T G K F); subst eG_1; subst eG_10; subst eG_25; have hX := (k_end.eq_1 i (C9.mk n f T G K F)).symm; (repeat (first | dsimp +instances only [c9n, c9f, c9T, c9G, c9K, c9F, b_come, b_leave, b_fill, awB, b_settle, b_wake, b_take, f_take, b_gather, f_gather, b_ask, a_ask, b_tell, c_close, d_close, k_add, k_rem, sco, k_clrF, k_mem, k_rebind, k_bnd, k_beg0, k_beg1, b_giveN, b_giveR, f_open, b_hand, k_op, b_turn, wlB, b_beat, f_anew, b_wipe, b_off, k_sadd, fits, frP, cntB, b_trace, b_child, k_lat, cond_true, cond_false, Option.elim_none, Option.elim_some, Option.getD_none, Option.getD_some] at hX | rw [if_pos (by first | with_reducible assumption | omega)] at hX | rw [if_neg (by first | with_reducible assumption | omega)] at hX | rw [jx_of (by omega)] at hX)); first | exact hX | (exfalso; omega) | exact hX), ws_26, by rw [ht]; exact hP, hD, hQ, ⟨h_i1, h_i2, h_i3, h_i4, h_i5, i6_29, i7_30, i8_31, i9_32, i10_27, i11_28⟩, by rw [ht]; show hpS H + (260 * M + 2 * S9 M gc) ≤ hpS s.heap + (260 * M + 2 * S9 M gc); omega, by rw [ht]; show 16 * H.size + (256 * M + S9 M gc) ≤ 16 * s.heap.size + (256 * M + S9 M gc); omega⟩, hS.F ht⟩) hS.2.2 dX9_end_22

set_option maxHeartbeats 8000000 in
set_option maxRecDepth 100000 in
theorem c_X9_comeToThread (l : Launch) (dC : Nat → ClassId) (dI : Nat → Nat → Nat) (kc : Nat → ClassId) (ws : va_W) (ad : Nat → Nat) (ga : Nat → Nat) (gc : Nat → Nat) (M : Nat) (n : Nat → Int32) (f : Nat → Nat → Int32) (T : Nat → Option Nat) (G : Nat → Nat → Int32) (K : Nat → Nat → Option Nat) (F : Nat → Nat → Nat → Int32) (R : Nat) (i : Nat) (sz hz : Nat) (hQ : Pic9 kc ws ad ga gc M n f T G K F) (hI : I9 M n f T gc G K F R) (hi : i < M) : Met l yX9_comeToThread (.code yX9_comeToThread cX9_comeToThread 3 none :: gw) ({ frames := 0, cells := 0, slots := 0, locals := 0 }) (va_Pc [.ref (ad 0), .ref (ad (50 + 16 * i))] (fun U => U.heap.size = sz ∧ hpS U.heap = hz ∧ va_P (dC, dI) vwCl ws U.heap ∧ va_K (dC, dI) vwCl (t9 kc) U ∧ va_D (fun _ => True) ws ∧ nx U)) (va_Qv (fun (u : (Nat → Nat) × (Nat → Nat) × (Nat → Nat) × Nat × (Nat → Int32) × (Nat → Nat → Int32) × (Nat → Option Nat) × (Nat → Nat → Int32) × (Nat → Nat → Option Nat) × (Nat → Nat → Nat → Int32)) => (C9.mk n f u.2.2.2.2.2.2.1 u.2.2.2.2.2.2.2.1 K F) = k_come i (C9.mk n f T G K F)) (fun u t => ∃ w : va_W, va_P (dC, dI) vwCl w t.heap ∧ va_D (va_A ws sz) w ∧ Pic9 kc w ad ga gc M n f u.2.2.2.2.2.2.1 u.2.2.2.2.2.2.2.1 K F ∧ I9 M n f u.2.2.2.2.2.2.1 gc u.2.2.2.2.2.2.2.1 K F R ∧ hpS t.heap + (260 * M + 2 * S9 M gc) ≤ hz + (260 * M + 2 * S9 M gc) ∧ 16 * t.heap.size + (256 * M + S9 M gc) ≤ 16 * sz + (256 * M + S9 M gc)) (va_A ws sz)) 0 0 (va_A ws sz) := by
  refine Met.ofW (cc := cX9_comeToThread) (maxL := 3) (ret := none) (by decide) rfl ?_
  intro p e s m args below meth c s₁ B hml hv
  obtain ⟨rfl, hsz, rfl, hP, hK, hD0, hN⟩ := hv
  have hx := B.exec
  have hb := B.bytes
  have hr := B.returns
  have hts := atoms_spec (ws := .code yX9_comeToThread cX9_comeToThread 3 none :: gw) B.pre
  have hg : ∀ w ∈ gw, w.before _ s = true := fun w h => hts w (List.mem_cons_of_mem _ h)
  have hown : s.vm.findClass RX9 = some m.cls := findClass_of_methodNamed B.named
  have hlocks := B.notSynchronized
  subst hsz
  have hD := hD0.self (sz := s.heap.size)
  generalize hAe : va_A ws s.heap.size = A at hD ⊢
  have hA : ∀ q : Nat, s.heap.size ≤ q → A q := fun q h => by rw [← hAe]; exact Or.inr h
  clear hAe
  have hS : va_S A s.heap s.heap [] := va_S.rf
  have hl := lv_entry ([.ref (ad 0), .ref (ad (50 + 16 * i))]) (n := 3) (Nat.le_of_ble_eq_true rfl)
  rw [lg_entry_eq]
  generalize (lg_sl ([.ref (ad 0), .ref (ad (50 + 16 * i))]) ++ List.replicate (3 - (lg_sl ([.ref (ad 0), .ref (ad (50 + 16 * i))])).length) Slot.unset).toArray = ls at hl ⊢
  have hl : lv_has ls 3 [(0, .ref (ad 0)), (1, .ref (ad (50 + 16 * i)))] := hl
  obtain ⟨h_i1, h_i2, h_i3, h_i4, h_i5, h_i6, h_i7, h_i8, h_i9, h_i10, h_i11⟩ := id hI
  have q1_ := h_i1
  unfold i1 at q1_
  exact by
   refine lv_iconst (v := 0) hx hb dX9_comeToThread_0 (by decide) ?_
   refine lv_istore_n (lv' := [(2, .int 0), (0, .ref (ad 0)), (1, .ref (ad (50 + 16 * i)))]) hx hb dX9_comeToThread_1 rfl hl (by decide) rfl (fun ls hl => ?_)
   have L2 : ∀ (fuel : Nat) (x_1 : Int32)     (H : Heap) (locs : List Loc) (ls : Array Slot), (7 - x_1.toInt).toNat < fuel → (0 ≤ x_1.toInt ∧ x_1.toInt ≤ 6) → (itr (b_come i) (fun s => s) x_1.toInt.toNat (min 6 (n 1).toInt.toNat - x_1.toInt.toNat) (C9.mk n f T G K F) = k_come i (C9.mk n f T G K F)) → va_P (dC, dI) vwCl ws H → va_D A ws → va_S A s.heap H locs → lv_has ls 3 [(2, .int x_1), (0, .ref (ad 0)), (1, .ref (ad (50 + 16 * i)))] → W p l e (headSpec (.code yX9_comeToThread cX9_comeToThread 3 none :: gw) ({ frames := 0, cells := 0, slots := 0, locals := 0 })).room s m ([.ref (ad 0), .ref (ad (50 + 16 * i))] : List Value).toArray below meth c H locs 0 0 (MQ below (va_Qv (fun (u : (Nat → Nat) × (Nat → Nat) × (Nat → Nat) × Nat × (Nat → Int32) × (Nat → Nat → Int32) × (Nat → Option Nat) × (Nat → Nat → Int32) × (Nat → Nat → Option Nat) × (Nat → Nat → Nat → Int32)) => (C9.mk n f u.2.2.2.2.2.2.1 u.2.2.2.2.2.2.2.1 K F) = k_come i (C9.mk n f T G K F)) (fun u t => ∃ w : va_W, va_P (dC, dI) vwCl w t.heap ∧ va_D A w ∧ Pic9 kc w ad ga gc M n f u.2.2.2.2.2.2.1 u.2.2.2.2.2.2.2.1 K F ∧ I9 M n f u.2.2.2.2.2.2.1 gc u.2.2.2.2.2.2.2.1 K F R ∧ hpS t.heap + (260 * M + 2 * S9 M gc) ≤ (hpS s.heap) + (260 * M + 2 * S9 M gc) ∧ 16 * t.heap.size + (256 * M + S9 M gc) ≤ 16 * s.heap.size + (256 * M + S9 M gc)) A) ([.ref (ad 0), .ref (ad (50 + 16 * i))] : List Value).toArray s 0 0 A) (F0 m 2 ls []) := by
     intro fuel
     induction fuel with
     | zero => intro x_1 H locs ls hm; exact absurd hm (Nat.not_lt_zero _)
     | succ fuel_6 ih_5 =>
       intro x_1 H locs ls hm_2 v_3 v_4 hP hD hS hl
       refine lv_iload_n hx hb dX9_comeToThread_2 rfl (lv_at hl 0 rfl) ?_
       refine lv_aload_n hx hb dX9_comeToThread_3 rfl (lv_at hl 1 rfl) ?_
       refine va_get (D := (dC, dI)) (ci := 9) (v := .int (n 1)) (C := RX9) (T := TX9) (N := 15) hx hb hg gb_9 hown hK hP 0 hQ.x0 rfl 7 (by decide) (hg _ gm_fieldLink_RX9_38_ErrandGuild_threadCount_I_) (fun _ h9 => h9) rfl dX9_comeToThread_4 ?_
       refine lv_icmp_ge (tgt := 59) hx hb dX9_comeToThread_7 (by decide) (fun c_7 => ?_) (fun c_7 => ?_)
       · simp only [i_lt, i_le, i_eq] at c_7
         refine W_msr2 (fun hm1 hm2 hm3 => ?_)
         exact W.vret hx hb hr (fun t ht hW => ⟨⟨(ad, ga, gc, M, n, f, T, G, K, F), rfl, (by show (C9.mk n f T G K F) = k_come i (C9.mk n f T G K F); have hX := v_4; (first | rw [itr_go (by omega)] at hX | rw [itr_end (by omega)] at hX); (repeat (first | dsimp +instances only [c9n, c9f, c9T, c9G, c9K, c9F, b_come, b_leave, b_fill, awB, b_settle, b_wake, b_take, f_take, b_gather, f_gather, b_ask, a_ask, b_tell, c_close, d_close, k_add, k_rem, sco, k_clrF, k_mem, k_rebind, k_bnd, k_beg0, k_beg1, b_giveN, b_giveR, f_open, b_hand, k_op, b_turn, wlB, b_beat, f_anew, b_wipe, b_off, k_sadd, fits, frP, cntB, b_trace, b_child, k_lat, cond_true, cond_false, Option.elim_none, Option.elim_some, Option.getD_none, Option.getD_some] at hX | rw [if_pos (by first | with_reducible assumption | omega)] at hX | rw [if_neg (by first | with_reducible assumption | omega)] at hX | rw [jx_of (by omega)] at hX)); first | exact hX | (exfalso; omega) | exact hX), ws, by rw [ht]; exact hP, hD, hQ, ⟨h_i1, h_i2, h_i3, h_i4, h_i5, h_i6, h_i7, h_i8, h_i9, h_i10, h_i11⟩, by rw [ht]; show hpS H + (260 * M + 2 * S9 M gc) ≤ hpS s.heap + (260 * M + 2 * S9 M gc); omega, by rw [ht]; show 16 * H.size + (256 * M + S9 M gc) ≤ 16 * s.heap.size + (256 * M + S9 M gc); omega⟩, hS.F ht⟩) hS.2.2 dX9_comeToThread_59
       · simp only [i_lt, i_le, i_eq] at c_7
         exact by
          refine lv_iload_n hx hb dX9_comeToThread_10 rfl (lv_at hl 0 rfl) ?_
          refine lv_bipush (v := 6) hx hb dX9_comeToThread_11 (by decide) ?_
          refine lv_icmp_ge (tgt := 59) hx hb dX9_comeToThread_13 (by decide) (fun c_8 => ?_) (fun c_8 => ?_)
          · simp only [i_lt, i_le, i_eq, ti_6] at c_8
            refine W_msr2 (fun hm1 hm2 hm3 => ?_)
            exact W.vret hx hb hr (fun t ht hW => ⟨⟨(ad, ga, gc, M, n, f, T, G, K, F), rfl, (by show (C9.mk n f T G K F) = k_come i (C9.mk n f T G K F); have hX := v_4; (first | rw [itr_go (by omega)] at hX | rw [itr_end (by omega)] at hX); (repeat (first | dsimp +instances only [c9n, c9f, c9T, c9G, c9K, c9F, b_come, b_leave, b_fill, awB, b_settle, b_wake, b_take, f_take, b_gather, f_gather, b_ask, a_ask, b_tell, c_close, d_close, k_add, k_rem, sco, k_clrF, k_mem, k_rebind, k_bnd, k_beg0, k_beg1, b_giveN, b_giveR, f_open, b_hand, k_op, b_turn, wlB, b_beat, f_anew, b_wipe, b_off, k_sadd, fits, frP, cntB, b_trace, b_child, k_lat, cond_true, cond_false, Option.elim_none, Option.elim_some, Option.getD_none, Option.getD_some] at hX | rw [if_pos (by first | with_reducible assumption | omega)] at hX | rw [if_neg (by first | with_reducible assumption | omega)] at hX | rw [jx_of (by omega)] at hX)); first | exact hX | (exfalso; omega) | exact hX), ws, by rw [ht]; exact hP, hD, hQ, ⟨h_i1, h_i2, h_i3, h_i4, h_i5, h_i6, h_i7, h_i8, h_i9, h_i10, h_i11⟩, by rw [ht]; show hpS H + (260 * M + 2 * S9 M gc) ≤ hpS s.heap + (260 * M + 2 * S9 M gc); omega, by rw [ht]; show 16 * H.size + (256 * M + S9 M gc) ≤ 16 * s.heap.size + (256 * M + S9 M gc); omega⟩, hS.F ht⟩) hS.2.2 dX9_comeToThread_59
          · simp only [i_lt, i_le, i_eq, ti_6] at c_8
            refine lv_aload_n hx hb dX9_comeToThread_16 rfl (lv_at hl 1 rfl) ?_
            refine va_get (D := (dC, dI)) (ci := 9) (v := .ref (ad 41)) (C := RX9) (T := TX9) (N := 15) hx hb hg gb_9 hown hK hP 0 hQ.x0 rfl 6 (by decide) (hg _ gm_fieldLink_RX9_35_ErrandGuild_onThreads_ALErrandGuild_Run_) (fun _ h9 => h9) rfl dX9_comeToThread_17 ?_
            refine lv_iload_n hx hb dX9_comeToThread_20 rfl (lv_at hl 0 rfl) ?_
            refine va_aldq hx hb hK hP 41 3 hQ.x41 rfl (vp_in_iff.mpr ⟨by omega, by omega⟩) dX9_comeToThread_21 ?_
            rcases eo_9 : T x_1.toInt.toNat with _ | j_10
            · refine W.eq (g2 := F0 m 22 ls [.null]) (by first | rfl | (unfold thA; rw [cl_eq, eo_9]; rfl)) ?_
              exact by
               refine lv_ifnonnullN hx hb dX9_comeToThread_22 ?_
               refine lv_aload_n hx hb dX9_comeToThread_25 rfl (lv_at hl 1 rfl) ?_
               refine va_get (D := (dC, dI)) (ci := 9) (v := .ref (ad 41)) (C := RX9) (T := TX9) (N := 15) hx hb hg gb_9 hown hK hP 0 hQ.x0 rfl 6 (by decide) (hg _ gm_fieldLink_RX9_35_ErrandGuild_onThreads_ALErrandGuild_Run_) (fun _ h9 => h9) rfl dX9_comeToThread_26 ?_
               refine lv_iload_n hx hb dX9_comeToThread_29 rfl (lv_at hl 0 rfl) ?_
               refine lv_aload_n hx hb dX9_comeToThread_30 rfl (lv_at hl 2 rfl) ?_
               refine va_astq (r := (RX7, TX7, 15)) hx hb hK hP hD hS 41 3 (50 + 16 * i) 7 hQ.x41 rfl (hQ.b0 hi) rfl (vp_in_iff.mpr ⟨by omega, by omega⟩) dX9_comeToThread_31 (fun H locs hP hD hS => ?_)
               obtain ⟨ws_12, T_11, eT_11, hP, hD, hQ⟩ : ∃ (ws_12 : va_W) (T_11 : Nat → Option Nat), T_11 = u1 T (x_1.toInt.toNat) (some i) ∧ va_P (dC, dI) vwCl ws_12 H ∧ va_D A ws_12 ∧ Pic9 kc ws_12 ad ga gc M n f T_11 G K F := ⟨_, _, rfl, hP, hD, hQ.thr (x_1.toInt.toNat) (some i)⟩
               have i2_13 : i2 M T_11 := by rw [eT_11]; exact i2.pT h_i2 _ (fun _ h => by cases h; exact hi)
               have i6_14 : i6 n T_11 G := by rw [eT_11]; exact i6.comeT h_i6 i eo_9
               refine lv_aload_n hx hb dX9_comeToThread_32 rfl (lv_at hl 2 rfl) ?_
               refine lv_iload_n hx hb dX9_comeToThread_33 rfl (lv_at hl 0 rfl) ?_
               refine va_put (D := (dC, dI)) (ci := 7) (v := .int (x_1)) (ty := .int) (C := RX7) (T := TX7) (N := 15) hx hb hg gb_7 tyX7 tyX7_ok nmX7 hown hK hP hD hS (50 + 16 * i) (hQ.b0 hi) rfl 3 (by decide) (hg _ gm_fieldLink_RX9_168_ErrandGuild_Run_thread_I_) (fun _ h9 => h9) rfl (by decide +kernel) rfl rfl (Nat.le_of_ble_eq_true rfl) dX9_comeToThread_34 (fun H locs hP hD hS => ?_)
               obtain ⟨ws_16, G_15, eG_15, hP, hD, hQ⟩ : ∃ (ws_16 : va_W) (G_15 : Nat → Nat → Int32), G_15 = u2 G i 3 x_1 ∧ va_P (dC, dI) vwCl ws_16 H ∧ va_D A ws_16 ∧ Pic9 kc ws_16 ad ga gc M n f T_11 G_15 K F := ⟨_, _, rfl, hP, hD, hQ.run hi 3 (by decide) x_1⟩
               have i10_17 : i10 M G_15 K F := by rw [eG_15]; exact (i10.pG h_i10 hi _ (by decide))
               have i11_18 : i11 M n gc f G_15 F := by rw [eG_15]; exact (i11.pG h_i11 i _ (by decide))
               have i6_19 : i6 n T_11 G_15 := by rw [eG_15]; exact i6.comeG (t := x_1.toInt.toNat) i6_14 (by rw [eT_11, u1_eq]) (by omega)
               have i7_20 : i7 n G_15 := by rw [eG_15]; exact i7.thr h_i7 i (by omega)
               have i8_21 : i8 M n gc G_15 := by rw [eG_15]; exact (i8.pG h_i8 i _ (by decide))
               have i9_22 : i9 M gc G_15 R := by rw [eG_15]; exact (i9.pG h_i9 i _ (by decide))
               have eg_23 : G_15 i 3 = x_1 := by rw [eG_15, u2_eq]
               exact by
                refine lv_aload_n hx hb dX9_comeToThread_37 rfl (lv_at hl 2 rfl) ?_
                refine lv_iconst (v := 1) hx hb dX9_comeToThread_38 (by decide) ?_
                refine va_put (D := (dC, dI)) (ci := 7) (v := .int (1)) (ty := .int) (C := RX7) (T := TX7) (N := 15) hx hb hg gb_7 tyX7 tyX7_ok nmX7 hown hK hP hD hS (50 + 16 * i) (hQ.b0 hi) rfl 2 (by decide) (hg _ gm_fieldLink_RX9_145_ErrandGuild_Run_state_I_) (fun _ h9 => h9) rfl (by decide +kernel) rfl rfl (Nat.le_of_ble_eq_true rfl) dX9_comeToThread_39 (fun H locs hP hD hS => ?_)
                obtain ⟨ws_25, G_24, eG_24, hP, hD, hQ⟩ : ∃ (ws_25 : va_W) (G_24 : Nat → Nat → Int32), G_24 = u2 G_15 i 2 1 ∧ va_P (dC, dI) vwCl ws_25 H ∧ va_D A ws_25 ∧ Pic9 kc ws_25 ad ga gc M n f T_11 G_24 K F := ⟨_, _, rfl, hP, hD, hQ.run hi 2 (by decide) 1⟩
                have i10_26 : i10 M G_24 K F := by rw [eG_24]; exact (i10.pG i10_17 hi _ (by decide))
                have i11_27 : i11 M n gc f G_24 F := by rw [eG_24]; exact (i11.pG i11_18 i _ (by decide))
                have i6_28 : i6 n T_11 G_24 := by rw [eG_24]; exact (i6.pG i6_19 i _ (by decide))
                have i7_29 : i7 n G_24 := by rw [eG_24]; exact i7.on i7_20 _ (by rw [eg_23]; omega)
                have i8_30 : i8 M n gc G_24 := by rw [eG_24]; exact (i8.pG i8_21 i _ (by decide))
                have i9_31 : i9 M gc G_24 R := by rw [eG_24]; exact (i9.pG i9_22 i _ (by decide))
                have eg_32 : G_24 i 2 = 1 := by rw [eG_24, u2_eq]
                refine lv_aload_n hx hb dX9_comeToThread_42 rfl (lv_at hl 2 rfl) ?_
                exact by
                 refine lv_dup hx hb dX9_comeToThread_43 rfl ?_
                 refine va_get (D := (dC, dI)) (ci := 7) (v := .int (G_24 i 4)) (C := RX7) (T := TX7) (N := 15) hx hb hg gb_7 hown hK hP (50 + 16 * i) (hQ.b0 hi) rfl 4 (by decide) (hg _ gm_fieldLink_RX9_195_ErrandGuild_Run_visits_I_) (fun _ h9 => h9) rfl dX9_comeToThread_44 ?_
                 refine lv_iconst (v := 1) hx hb dX9_comeToThread_47 (by decide) ?_
                 refine lv_iadd hx hb dX9_comeToThread_48 ?_
                 refine lv_topi (fun z_33 ez_33 => ?_)
                 refine va_put (D := (dC, dI)) (ci := 7) (v := .int (z_33)) (ty := .int) (C := RX7) (T := TX7) (N := 15) hx hb hg gb_7 tyX7 tyX7_ok nmX7 hown hK hP hD hS (50 + 16 * i) (hQ.b0 hi) rfl 4 (by decide) (hg _ gm_fieldLink_RX9_195_ErrandGuild_Run_visits_I_) (fun _ h9 => h9) rfl (by decide +kernel) rfl rfl (Nat.le_of_ble_eq_true rfl) dX9_comeToThread_49 (fun H locs hP hD hS => ?_)
                 obtain ⟨ws_35, G_34, eG_34, hP, hD, hQ⟩ : ∃ (ws_35 : va_W) (G_34 : Nat → Nat → Int32), G_34 = u2 G_24 i 4 z_33 ∧ va_P (dC, dI) vwCl ws_35 H ∧ va_D A ws_35 ∧ Pic9 kc ws_35 ad ga gc M n f T_11 G_34 K F := ⟨_, _, rfl, hP, hD, hQ.run hi 4 (by decide) z_33⟩
                 have i10_36 : i10 M G_34 K F := by rw [eG_34]; exact (i10.pG i10_26 hi _ (by decide))
                 have i11_37 : i11 M n gc f G_34 F := by rw [eG_34]; exact (i11.pG i11_27 i _ (by decide))
                 have i6_38 : i6 n T_11 G_34 := by rw [eG_34]; exact (i6.pG i6_28 i _ (by decide))
                 have i7_39 : i7 n G_34 := by rw [eG_34]; exact (i7.pG i7_29 i _ (by decide))
                 have i8_40 : i8 M n gc G_34 := by rw [eG_34]; exact (i8.pG i8_30 i _ (by decide))
                 have i9_41 : i9 M gc G_34 R := by rw [eG_34]; exact (i9.pG i9_31 i _ (by decide))
                 have eg_42 : G_34 i 4 = z_33 := by rw [eG_34, u2_eq]
                 refine W_msr2 (fun hm1 hm2 hm3 => ?_)
                 exact W.vret hx hb hr (fun t ht hW => ⟨⟨(ad, ga, gc, M, n, f, T_11, G_34, K, F), rfl, (by show (C9.mk n f T_11 G_34 K F) = k_come i (C9.mk n f T G K F); subst eT_11; subst eG_15; subst eG_24; subst eG_34; subst ez_33; have hX := v_4; (first | rw [itr_go (by omega)] at hX | rw [itr_end (by omega)] at hX); (repeat (first | dsimp +instances only [c9n, c9f, c9T, c9G, c9K, c9F, b_come, b_leave, b_fill, awB, b_settle, b_wake, b_take, f_take, b_gather, f_gather, b_ask, a_ask, b_tell, c_close, d_close, k_add, k_rem, sco, k_clrF, k_mem, k_rebind, k_bnd, k_beg0, k_beg1, b_giveN, b_giveR, f_open, b_hand, k_op, b_turn, wlB, b_beat, f_anew, b_wipe, b_off, k_sadd, fits, frP, cntB, b_trace, b_child, k_lat, cond_true, cond_false, Option.elim_none, Option.elim_some, Option.getD_none, Option.getD_some] at hX | rw [eo_9] at hX | rw [if_pos (by first | with_reducible assumption | omega)] at hX | rw [if_neg (by first | with_reducible assumption | omega)] at hX | rw [jx_of (by omega)] at hX)); first | exact hX | (exfalso; omega) | exact hX), ws_35, by rw [ht]; exact hP, hD, hQ, ⟨h_i1, i2_13, h_i3, h_i4, h_i5, i6_38, i7_39, i8_40, i9_41, i10_36, i11_37⟩, by rw [ht]; show hpS H + (260 * M + 2 * S9 M gc) ≤ hpS s.heap + (260 * M + 2 * S9 M gc); omega, by rw [ht]; show 16 * H.size + (256 * M + S9 M gc) ≤ 16 * s.heap.size + (256 * M + S9 M gc); omega⟩, hS.F ht⟩) hS.2.2 dX9_comeToThread_52
            · refine W.eq (g2 := F0 m 22 ls [.ref (ad (50 + 16 * j_10))]) (by first | rfl | (unfold thA; rw [cl_eq, eo_9]; rfl)) ?_
              have hj_10 : j_10 < M := h_i2 _ _ eo_9
              refine lv_ifnonnull (tgt := 53) hx hb dX9_comeToThread_22 (by decide) ?_
              obtain ⟨y_43, ey_43⟩ : ∃ q : Int32, q = x_1 + (1) := ⟨_, rfl⟩
              refine lv_iinc (v := y_43) (lv' := [(2, .int y_43), (0, .ref (ad 0)), (1, .ref (ad (50 + 16 * i)))]) hx hb dX9_comeToThread_53 hl (k := 0) rfl (by rw [ey_43]; rfl) (by decide) rfl (fun ls hl => ?_)
              have ty_43 : y_43.toInt = x_1.toInt + (1) := ar_add rfl ti_1 ey_43 (by omega)
              refine lv_goto (tgt := 2) hx hb dX9_comeToThread_56 (by decide) ?_
              exact ih_5 y_43     H locs ls (by show (7 - y_43.toInt).toNat < _; omega) (by show 0 ≤ y_43.toInt ∧ y_43.toInt ≤ 6; omega) (by show itr (b_come i) (fun s => s) y_43.toInt.toNat (min 6 (n 1).toInt.toNat - y_43.toInt.toNat) (C9.mk n f T G K F) = k_come i (C9.mk n f T G K F); have hX := v_4; (first | rw [itr_go (by omega)] at hX | rw [itr_end (by omega)] at hX); (repeat (first | dsimp +instances only [c9n, c9f, c9T, c9G, c9K, c9F, b_come, b_leave, b_fill, awB, b_settle, b_wake, b_take, f_take, b_gather, f_gather, b_ask, a_ask, b_tell, c_close, d_close, k_add, k_rem, sco, k_clrF, k_mem, k_rebind, k_bnd, k_beg0, k_beg1, b_giveN, b_giveR, f_open, b_hand, k_op, b_turn, wlB, b_beat, f_anew, b_wipe, b_off, k_sadd, fits, frP, cntB, b_trace, b_child, k_lat, cond_true, cond_false, Option.elim_none, Option.elim_some, Option.getD_none, Option.getD_some] at hX | rw [eo_9] at hX | rw [if_pos (by first | with_reducible assumption | omega)] at hX | rw [if_neg (by first | with_reducible assumption | omega)] at hX | rw [jx_of (by omega)] at hX)); (rw [show y_43.toInt.toNat = x_1.toInt.toNat + 1 by omega]); first | exact hX | (exfalso; omega) | exact hX) hP hD hS (lv_sub hl [0, 1, 2] rfl)
   exact L2 _ (0 : Int32)     _ _ _ (Nat.lt_succ_self _) (by have t_0 := ti_0; show 0 ≤ (0 : Int32).toInt ∧ (0 : Int32).toInt ≤ 6; omega) (by show itr (b_come i) (fun s => s) (0 : Int32).toInt.toNat (min 6 (n 1).toInt.toNat - (0 : Int32).toInt.toNat) (C9.mk n f T G K F) = k_come i (C9.mk n f T G K F); have hX := (k_come.eq_1 i (C9.mk n f T G K F)).symm; (repeat (first | dsimp +instances only [c9n, c9f, c9T, c9G, c9K, c9F, b_come, b_leave, b_fill, awB, b_settle, b_wake, b_take, f_take, b_gather, f_gather, b_ask, a_ask, b_tell, c_close, d_close, k_add, k_rem, sco, k_clrF, k_mem, k_rebind, k_bnd, k_beg0, k_beg1, b_giveN, b_giveR, f_open, b_hand, k_op, b_turn, wlB, b_beat, f_anew, b_wipe, b_off, k_sadd, fits, frP, cntB, b_trace, b_child, k_lat, cond_true, cond_false, Option.elim_none, Option.elim_some, Option.getD_none, Option.getD_some] at hX | rw [if_pos (by first | with_reducible assumption | omega)] at hX | rw [if_neg (by first | with_reducible assumption | omega)] at hX | rw [jx_of (by omega)] at hX)); (skip); first | exact hX | (exfalso; omega) | exact hX) hP hD hS (lv_sub hl [0, 1, 2] rfl)

set_option maxHeartbeats 8000000 in
set_option maxRecDepth 100000 in
theorem c_X9_leaveThread (l : Launch) (dC : Nat → ClassId) (dI : Nat → Nat → Nat) (kc : Nat → ClassId) (ws : va_W) (ad : Nat → Nat) (ga : Nat → Nat) (gc : Nat → Nat) (M : Nat) (n : Nat → Int32) (f : Nat → Nat → Int32) (T : Nat → Option Nat) (G : Nat → Nat → Int32) (K : Nat → Nat → Option Nat) (F : Nat → Nat → Nat → Int32) (R : Nat) (i : Nat) (sz hz : Nat) (hQ : Pic9 kc ws ad ga gc M n f T G K F) (hI : I9 M n f T gc G K F R) (hi : i < M) (hin : (i : Int) < (n 0).toInt) (hst : (G i 2).toInt ≠ 1) : Met l yX9_leaveThread (.code yX9_leaveThread cX9_leaveThread 3 none :: gw) ({ frames := 2, cells := 0, slots := 0, locals := 41 }) (va_Pc [.ref (ad 0), .ref (ad (50 + 16 * i))] (fun U => U.heap.size = sz ∧ hpS U.heap = hz ∧ va_P (dC, dI) vwCl ws U.heap ∧ va_K (dC, dI) vwCl (t9 kc) U ∧ va_D (fun _ => True) ws ∧ nx U)) (va_Qv (fun (u : (Nat → Nat) × (Nat → Nat) × (Nat → Nat) × Nat × (Nat → Int32) × (Nat → Nat → Int32) × (Nat → Option Nat) × (Nat → Nat → Int32) × (Nat → Nat → Option Nat) × (Nat → Nat → Nat → Int32)) => (C9.mk n f u.2.2.2.2.2.2.1 u.2.2.2.2.2.2.2.1 K u.2.2.2.2.2.2.2.2.2) = k_leave i (C9.mk n f T G K F) ∧ (∀ t : Nat, u.2.2.2.2.2.2.1 t = T t ∨ u.2.2.2.2.2.2.1 t = none)) (fun u t => ∃ w : va_W, va_P (dC, dI) vwCl w t.heap ∧ va_D (va_A ws sz) w ∧ Pic9 kc w ad ga gc M n f u.2.2.2.2.2.2.1 u.2.2.2.2.2.2.2.1 K u.2.2.2.2.2.2.2.2.2 ∧ I9 M n f u.2.2.2.2.2.2.1 gc u.2.2.2.2.2.2.2.1 K u.2.2.2.2.2.2.2.2.2 R ∧ hpS t.heap + (260 * M + 2 * S9 M gc) ≤ hz + (260 * M + 2 * S9 M gc) ∧ 16 * t.heap.size + (256 * M + S9 M gc) ≤ 16 * sz + (256 * M + S9 M gc)) (va_A ws sz)) 0 0 (va_A ws sz) := by
  refine Met.ofW (cc := cX9_leaveThread) (maxL := 3) (ret := none) (by decide) rfl ?_
  intro p e s m args below meth c s₁ B hml hv
  obtain ⟨rfl, hsz, rfl, hP, hK, hD0, hN⟩ := hv
  have hx := B.exec
  have hb := B.bytes
  have hr := B.returns
  have hts := atoms_spec (ws := .code yX9_leaveThread cX9_leaveThread 3 none :: gw) B.pre
  have hg : ∀ w ∈ gw, w.before _ s = true := fun w h => hts w (List.mem_cons_of_mem _ h)
  have hown : s.vm.findClass RX9 = some m.cls := findClass_of_methodNamed B.named
  have hlocks := B.notSynchronized
  subst hsz
  have hD := hD0.self (sz := s.heap.size)
  generalize hAe : va_A ws s.heap.size = A at hD ⊢
  have hA : ∀ q : Nat, s.heap.size ≤ q → A q := fun q h => by rw [← hAe]; exact Or.inr h
  clear hAe
  have hS : va_S A s.heap s.heap [] := va_S.rf
  have hl := lv_entry ([.ref (ad 0), .ref (ad (50 + 16 * i))]) (n := 3) (Nat.le_of_ble_eq_true rfl)
  rw [lg_entry_eq]
  generalize (lg_sl ([.ref (ad 0), .ref (ad (50 + 16 * i))]) ++ List.replicate (3 - (lg_sl ([.ref (ad 0), .ref (ad (50 + 16 * i))])).length) Slot.unset).toArray = ls at hl ⊢
  have hl : lv_has ls 3 [(0, .ref (ad 0)), (1, .ref (ad (50 + 16 * i)))] := hl
  obtain ⟨h_i1, h_i2, h_i3, h_i4, h_i5, h_i6, h_i7, h_i8, h_i9, h_i10, h_i11⟩ := id hI
  have q1_ := h_i1
  unfold i1 at q1_
  exact by
   refine lv_aload_n hx hb dX9_leaveThread_0 rfl (lv_at hl 1 rfl) ?_
   refine va_get (D := (dC, dI)) (ci := 7) (v := .int (G i 3)) (C := RX7) (T := TX7) (N := 15) hx hb hg gb_7 hown hK hP (50 + 16 * i) (hQ.b0 hi) rfl 3 (by decide) (hg _ gm_fieldLink_RX9_168_ErrandGuild_Run_thread_I_) (fun _ h9 => h9) rfl dX9_leaveThread_1 ?_
   refine lv_if_lt (tgt := 26) hx hb dX9_leaveThread_4 (by decide) (fun c_1 => ?_) (fun c_1 => ?_)
   · simp only [i_lt, i_le, i_eq, ti_0] at c_1
     refine lv_aload_n hx hb dX9_leaveThread_26 rfl (lv_at hl 1 rfl) ?_
     refine lv_iconst (v := -1) hx hb dX9_leaveThread_27 (by decide) ?_
     refine va_put (D := (dC, dI)) (ci := 7) (v := .int (-1)) (ty := .int) (C := RX7) (T := TX7) (N := 15) hx hb hg gb_7 tyX7 tyX7_ok nmX7 hown hK hP hD hS (50 + 16 * i) (hQ.b0 hi) rfl 3 (by decide) (hg _ gm_fieldLink_RX9_168_ErrandGuild_Run_thread_I_) (fun _ h9 => h9) rfl (by decide +kernel) rfl rfl (Nat.le_of_ble_eq_true rfl) dX9_leaveThread_28 (fun H locs hP hD hS => ?_)
     obtain ⟨ws_3, G_2, eG_2, hP, hD, hQ⟩ : ∃ (ws_3 : va_W) (G_2 : Nat → Nat → Int32), G_2 = u2 G i 3 (-1) ∧ va_P (dC, dI) vwCl ws_3 H ∧ va_D A ws_3 ∧ Pic9 kc ws_3 ad ga gc M n f T G_2 K F := ⟨_, _, rfl, hP, hD, hQ.run hi 3 (by decide) (-1)⟩
     have i10_4 : i10 M G_2 K F := by rw [eG_2]; exact (i10.pG h_i10 hi _ (by decide))
     have i11_5 : i11 M n gc f G_2 F := by rw [eG_2]; exact (i11.pG h_i11 i _ (by decide))
     have i6_6 : i6 n T G_2 := by rw [eG_2]; exact i6.off h_i6 i (by decide)
     have i7_7 : i7 n G_2 := by rw [eG_2]; exact i7.off h_i7 _ hst
     have i8_8 : i8 M n gc G_2 := by rw [eG_2]; exact (i8.pG h_i8 i _ (by decide))
     have i9_9 : i9 M gc G_2 R := by rw [eG_2]; exact (i9.pG h_i9 i _ (by decide))
     have eg_10 : G_2 i 3 = (-1) := by rw [eG_2, u2_eq]
     exact by
      refine lv_iconst (v := 0) hx hb dX9_leaveThread_31 (by decide) ?_
      refine lv_istore_n (lv' := [(2, .int 0), (0, .ref (ad 0)), (1, .ref (ad (50 + 16 * i)))]) hx hb dX9_leaveThread_32 rfl hl (by decide) rfl (fun ls hl => ?_)
      have L33 : ∀ (fuel : Nat) (x_11 : Int32)   (ws_13 : va_W) (F_12 : Nat → Nat → Nat → Int32)  (H : Heap) (locs : List Loc) (ls : Array Slot), (9 - x_11.toInt).toNat < fuel → (0 ≤ x_11.toInt ∧ x_11.toInt ≤ 8) → (itr (b_leave i) (fun s => s) x_11.toInt.toNat (8 - x_11.toInt.toNat) (C9.mk n f T G_2 K F_12) = k_leave i (C9.mk n f T G K F)) → Pic9 kc ws_13 ad ga gc M n f T G_2 K F_12 → I9 M n f T gc G_2 K F_12 R → va_P (dC, dI) vwCl ws_13 H → va_D A ws_13 → va_S A s.heap H locs → lv_has ls 3 [(2, .int x_11), (0, .ref (ad 0)), (1, .ref (ad (50 + 16 * i)))] → W p l e (headSpec (.code yX9_leaveThread cX9_leaveThread 3 none :: gw) ({ frames := 2, cells := 0, slots := 0, locals := 41 })).room s m ([.ref (ad 0), .ref (ad (50 + 16 * i))] : List Value).toArray below meth c H locs 0 0 (MQ below (va_Qv (fun (u : (Nat → Nat) × (Nat → Nat) × (Nat → Nat) × Nat × (Nat → Int32) × (Nat → Nat → Int32) × (Nat → Option Nat) × (Nat → Nat → Int32) × (Nat → Nat → Option Nat) × (Nat → Nat → Nat → Int32)) => (C9.mk n f u.2.2.2.2.2.2.1 u.2.2.2.2.2.2.2.1 K u.2.2.2.2.2.2.2.2.2) = k_leave i (C9.mk n f T G K F) ∧ (∀ t : Nat, u.2.2.2.2.2.2.1 t = T t ∨ u.2.2.2.2.2.2.1 t = none)) (fun u t => ∃ w : va_W, va_P (dC, dI) vwCl w t.heap ∧ va_D A w ∧ Pic9 kc w ad ga gc M n f u.2.2.2.2.2.2.1 u.2.2.2.2.2.2.2.1 K u.2.2.2.2.2.2.2.2.2 ∧ I9 M n f u.2.2.2.2.2.2.1 gc u.2.2.2.2.2.2.2.1 K u.2.2.2.2.2.2.2.2.2 R ∧ hpS t.heap + (260 * M + 2 * S9 M gc) ≤ (hpS s.heap) + (260 * M + 2 * S9 M gc) ∧ 16 * t.heap.size + (256 * M + S9 M gc) ≤ 16 * s.heap.size + (256 * M + S9 M gc)) A) ([.ref (ad 0), .ref (ad (50 + 16 * i))] : List Value).toArray s 0 0 A) (F0 m 33 ls []) := by
        intro fuel
        induction fuel with
        | zero => intro x_11 ws_13 F_12 H locs ls hm; exact absurd hm (Nat.not_lt_zero _)
        | succ fuel_19 ih_18 =>
          intro x_11 ws_13 F_12 H locs ls hm_14 v_15 v_16 hQ hI_17 hP hD hS hl
          obtain ⟨i1_20, i2_21, i3_22, i4_23, i5_24, i6_25, i7_26, i8_27, i9_28, i10_29, i11_30⟩ := id hI_17
          have q1_ := i1_20
          unfold i1 at q1_
          refine lv_iload_n hx hb dX9_leaveThread_33 rfl (lv_at hl 0 rfl) ?_
          exact by
           refine lv_bipush (v := 8) hx hb dX9_leaveThread_34 (by decide) ?_
           refine lv_icmp_ge (tgt := 62) hx hb dX9_leaveThread_36 (by decide) (fun c_31 => ?_) (fun c_31 => ?_)
           · simp only [i_lt, i_le, i_eq, ti_8] at c_31
             refine W_msr2 (fun hm1 hm2 hm3 => ?_)
             exact W.vret hx hb hr (fun t ht hW => ⟨⟨(ad, ga, gc, M, n, f, T, G_2, K, F_12), rfl, ⟨(by show (C9.mk n f T G_2 K F_12) = k_leave i (C9.mk n f T G K F); subst eG_2; have hX := v_16; (first | rw [itr_go (by omega)] at hX | rw [itr_end (by omega)] at hX); (repeat (first | dsimp +instances only [c9n, c9f, c9T, c9G, c9K, c9F, b_come, b_leave, b_fill, awB, b_settle, b_wake, b_take, f_take, b_gather, f_gather, b_ask, a_ask, b_tell, c_close, d_close, k_add, k_rem, sco, k_clrF, k_mem, k_rebind, k_bnd, k_beg0, k_beg1, b_giveN, b_giveR, f_open, b_hand, k_op, b_turn, wlB, b_beat, f_anew, b_wipe, b_off, k_sadd, fits, frP, cntB, b_trace, b_child, k_lat, cond_true, cond_false, Option.elim_none, Option.elim_some, Option.getD_none, Option.getD_some] at hX | rw [if_pos (by first | with_reducible assumption | omega)] at hX | rw [if_neg (by first | with_reducible assumption | omega)] at hX | rw [jx_of (by omega)] at hX)); first | exact hX | (exfalso; omega) | exact hX), (fun t => Or.inl rfl)⟩, ws_13, by rw [ht]; exact hP, hD, hQ, ⟨i1_20, i2_21, i3_22, i4_23, i5_24, i6_25, i7_26, i8_27, i9_28, i10_29, i11_30⟩, by rw [ht]; show hpS H + (260 * M + 2 * S9 M gc) ≤ hpS s.heap + (260 * M + 2 * S9 M gc); omega, by rw [ht]; show 16 * H.size + (256 * M + S9 M gc) ≤ 16 * s.heap.size + (256 * M + S9 M gc); omega⟩, hS.F ht⟩) hS.2.2 dX9_leaveThread_62
           · simp only [i_lt, i_le, i_eq, ti_8] at c_31
             refine lv_aload_n hx hb dX9_leaveThread_39 rfl (lv_at hl 1 rfl) ?_
             refine va_get (D := (dC, dI)) (ci := 9) (v := .ref (ad 1)) (C := RX9) (T := TX9) (N := 15) hx hb hg gb_9 hown hK hP 0 hQ.x0 rfl 0 (by decide) (hg _ gm_fieldLink_RX9_9_ErrandGuild_manners_AI_) (fun _ h9 => h9) rfl dX9_leaveThread_40 ?_
             refine lv_iload_n hx hb dX9_leaveThread_43 rfl (lv_at hl 0 rfl) ?_
             refine va_iald (f := f 0) hx hb hK hP 1 0 hQ.x1 rfl (vp_in_iff.mpr ⟨by omega, by omega⟩) dX9_leaveThread_44 ?_
             refine lv_topi (fun z_32 ez_32 => ?_)
             have ez_32 : z_32 = f 0 x_11.toInt.toNat := ez_32
             have qz_32 := congrArg Int32.toInt ez_32
             exact by
              refine lv_if_ne (tgt := 56) hx hb dX9_leaveThread_45 (by decide) (fun c_33 => ?_) (fun c_33 => ?_)
              · simp only [i_lt, i_le, i_eq, ti_0] at c_33
                obtain ⟨y_34, ey_34⟩ : ∃ q : Int32, q = x_11 + (1) := ⟨_, rfl⟩
                refine lv_iinc (v := y_34) (lv' := [(2, .int y_34), (0, .ref (ad 0)), (1, .ref (ad (50 + 16 * i)))]) hx hb dX9_leaveThread_56 hl (k := 0) rfl (by rw [ey_34]; rfl) (by decide) rfl (fun ls hl => ?_)
                have ty_34 : y_34.toInt = x_11.toInt + (1) := ar_add rfl ti_1 ey_34 (by omega)
                refine lv_goto (tgt := 33) hx hb dX9_leaveThread_59 (by decide) ?_
                exact ih_18 y_34   ws_13 F_12  H locs ls (by show (9 - y_34.toInt).toNat < _; omega) (by show 0 ≤ y_34.toInt ∧ y_34.toInt ≤ 8; omega) (by show itr (b_leave i) (fun s => s) y_34.toInt.toNat (8 - y_34.toInt.toNat) (C9.mk n f T G_2 K F_12) = k_leave i (C9.mk n f T G K F); subst eG_2; subst ez_32; have hX := v_16; (first | rw [itr_go (by omega)] at hX | rw [itr_end (by omega)] at hX); (repeat (first | dsimp +instances only [c9n, c9f, c9T, c9G, c9K, c9F, b_come, b_leave, b_fill, awB, b_settle, b_wake, b_take, f_take, b_gather, f_gather, b_ask, a_ask, b_tell, c_close, d_close, k_add, k_rem, sco, k_clrF, k_mem, k_rebind, k_bnd, k_beg0, k_beg1, b_giveN, b_giveR, f_open, b_hand, k_op, b_turn, wlB, b_beat, f_anew, b_wipe, b_off, k_sadd, fits, frP, cntB, b_trace, b_child, k_lat, cond_true, cond_false, Option.elim_none, Option.elim_some, Option.getD_none, Option.getD_some] at hX | rw [if_pos (by first | with_reducible assumption | omega)] at hX | rw [if_neg (by first | with_reducible assumption | omega)] at hX | rw [jx_of (by omega)] at hX)); (rw [show y_34.toInt.toNat = x_11.toInt.toNat + 1 by omega]); first | exact hX | (exfalso; omega) | exact hX) hQ ⟨i1_20, i2_21, i3_22, i4_23, i5_24, i6_25, i7_26, i8_27, i9_28, i10_29, i11_30⟩ hP hD hS (lv_sub hl [0, 1, 2] rfl)
              · simp only [i_lt, i_le, i_eq, ti_0] at c_33
                refine lv_aload_n hx hb dX9_leaveThread_48 rfl (lv_at hl 2 rfl) ?_
                refine va_get (D := (dC, dI)) (ci := 7) (v := .ref (ad (50 + 16 * i + 2))) (C := RX7) (T := TX7) (N := 15) hx hb hg gb_7 hown hK hP (50 + 16 * i) (hQ.b0 hi) rfl 11 (by decide) (hg _ gm_fieldLink_RX9_253_ErrandGuild_Run_memory_LErrandGuild_Memory_) (fun _ h9 => h9) rfl dX9_leaveThread_49 ?_
                refine lv_iload_n hx hb dX9_leaveThread_52 rfl (lv_at hl 0 rfl) ?_
                have hCc : ([(50 + 16 * i + 2), (50 + 16 * i + 3)] : List Nat).map (fun i => ws_13[i]?) = ([(ad (50 + 16 * i + 2), .inr (6, [.ref (ad (50 + 16 * i + 3)), .ref (ad (50 + 16 * i + 4)), .ref (ad (50 + 16 * i + 5))])), (ad (50 + 16 * i + 3), .inl (kc 1, 8, .inl (F_12 i 0)))] : va_W).map some := mp2 (hQ.b2 hi) (hQ.b3 hi)
                have hNd : ([(50 + 16 * i + 2), (50 + 16 * i + 3)] : List Nat).Nodup := (nd_off (50 + 16 * i) (l := [2, 3]) (by decide))
                have hPc := hP.pick [(50 + 16 * i + 2), (50 + 16 * i + 3)] hCc
                have hDc := hD.pick [(50 + 16 * i + 2), (50 + 16 * i + 3)] hNd hCc
                have hKc := hK.sub (tys' := [((kc 1), .boolean)]) [1] rfl
                have hFc := va_free (wc := [(ad (50 + 16 * i + 2), .inr (6, [.ref (ad (50 + 16 * i + 3)), .ref (ad (50 + 16 * i + 4)), .ref (ad (50 + 16 * i + 5))])), (ad (50 + 16 * i + 3), .inl (kc 1, 8, .inl (F_12 i 0)))]) hD hS hA [(50 + 16 * i + 2), (50 + 16 * i + 3)] hCc
                exact by
                 refine va_callv (va_runV (As := [.int x_11]) (rest := []) ⟨hx, hb, hml, hown, hg⟩ (c_X6_forget l dC dI (ad (50 + 16 * i + 2)) (ad (50 + 16 * i + 3)) (ad (50 + 16 * i + 4)) (ad (50 + 16 * i + 5)) (kc 1) (F_12 i 0) x_11 H.size ) (cwV 1 hg (gw_V gm_methodLink_RX9_307_yX6_forget gm_instanceMethod_yX6_forget gm_selects_RX6_yX6_forget_yX6_forget gm_initialized_RX6 gm_code_yX6_forget_cX6_forget_2_none) rfl rfl rfl (by decide +kernel) ⟨Nat.le_of_ble_eq_true rfl, Nat.le_of_ble_eq_true rfl⟩) ⟨fun a U g mk q => by obtain ⟨q0, q1, qP, qK, qD, qN⟩ := q; exact ⟨q0, q1, qP, va_K.moved (u := U) (U := U.calling g mk a) (Vm.Alike.refl U.vm) qK, qD, nx_same (u := U) (U := U.calling g mk a) rfl qN⟩, va_recv hK hP (ci := 6) (q0 := (50 + 16 * i + 2)) rfl (hQ.b2 hi), fun U hU hW => ⟨rfl, by rw [hU], by rw [hU]; exact hPc, va_K.moved hW.alike hKc, hDc.weaken (fun _ _ _ _ => trivial), nx_warm hW hN⟩⟩ rfl rfl hl.1 rfl (lv_room (Nat.le_of_ble_eq_true rfl)) dX9_leaveThread_53 ⟨Nat.le_of_ble_eq_true rfl, Nat.le_of_ble_eq_true rfl⟩) hS (fun q _ h => hFc q h) hFc (fun u_36 t H1 locs ht hvm hw hB hz1 hk1 hS => ?_)
                 obtain ⟨ad_37, ac_38, af_39, ag_40⟩ := u_36
                 obtain ⟨hP1, hD1, hK1, qe_41⟩ := hB
                 rw [ht] at hP1
                 have hP1 : va_P (dC, dI) vwCl [((ad (50 + 16 * i + 2)), .inr (6, [.ref (ad (50 + 16 * i + 3)), .ref (ad (50 + 16 * i + 4)), .ref (ad (50 + 16 * i + 5))])), ((ad (50 + 16 * i + 3)), .inl ((kc 1), 8, .inl (af_39 0)))] H1 := hP1
                 have hD1 : va_D _ [((ad (50 + 16 * i + 2)), .inr (6, [.ref (ad (50 + 16 * i + 3)), .ref (ad (50 + 16 * i + 4)), .ref (ad (50 + 16 * i + 5))])), ((ad (50 + 16 * i + 3)), .inl ((kc 1), 8, .inl (af_39 0)))] := hD1
                 have qe_41 : (af_39 0) = st8 (F_12 i 0) x_11 0 := qe_41
                 rw [qe_41] at hP1 hD1
                 obtain ⟨hP, hD⟩ := va_repl (w1 := [((ad (50 + 16 * i + 2)), .inr (6, [.ref (ad (50 + 16 * i + 3)), .ref (ad (50 + 16 * i + 4)), .ref (ad (50 + 16 * i + 5))])), ((ad (50 + 16 * i + 3)), .inl ((kc 1), 8, .inl (st8 (F_12 i 0) x_11 0)))]) hP hD [(50 + 16 * i + 2), (50 + 16 * i + 3)] hCc hNd rfl hk1 hFc hP1 hD1
                 obtain ⟨ws_43, F_42, eF_42, hP, hD, hQ⟩ : ∃ (ws_43 : va_W) (F_42 : Nat → Nat → Nat → Int32), F_42 = u2 F_12 i 0 (st8 (F_12 i 0) x_11 0) ∧ va_P (dC, dI) vwCl ws_43 H1 ∧ va_D A ws_43 ∧ Pic9 kc ws_43 ad ga gc M n f T G_2 K F_42 := ⟨_, _, rfl, hP, hD, (hQ.same (hQ.b2 hi)).arr hi 3 0 (by decide) (st8 (F_12 i 0) x_11 0) rfl⟩
                 have i10_44 : i10 M G_2 K F_42 := by rw [eF_42]; exact (i10.pF i10_29 hi _ _)
                 have i11_45 : i11 M n gc f G_2 F_42 := by rw [eF_42]; exact (i11.pF i11_30 i _ (by decide))
                 generalize H1 = H at hP hS ⊢
                 obtain ⟨y_46, ey_46⟩ : ∃ q : Int32, q = x_11 + (1) := ⟨_, rfl⟩
                 exact by
                  refine lv_iinc (v := y_46) (lv' := [(2, .int y_46), (0, .ref (ad 0)), (1, .ref (ad (50 + 16 * i)))]) hx hb dX9_leaveThread_56 hl (k := 0) rfl (by rw [ey_46]; rfl) (by decide) rfl (fun ls hl => ?_)
                  have ty_46 : y_46.toInt = x_11.toInt + (1) := ar_add rfl ti_1 ey_46 (by omega)
                  refine lv_goto (tgt := 33) hx hb dX9_leaveThread_59 (by decide) ?_
                  exact ih_18 y_46   ws_43 F_42  H locs ls (by show (9 - y_46.toInt).toNat < _; omega) (by show 0 ≤ y_46.toInt ∧ y_46.toInt ≤ 8; omega) (by show itr (b_leave i) (fun s => s) y_46.toInt.toNat (8 - y_46.toInt.toNat) (C9.mk n f T G_2 K F_42) = k_leave i (C9.mk n f T G K F); subst eG_2; subst ez_32; subst eF_42; have hX := v_16; (first | rw [itr_go (by omega)] at hX | rw [itr_end (by omega)] at hX); (repeat (first | dsimp +instances only [c9n, c9f, c9T, c9G, c9K, c9F, b_come, b_leave, b_fill, awB, b_settle, b_wake, b_take, f_take, b_gather, f_gather, b_ask, a_ask, b_tell, c_close, d_close, k_add, k_rem, sco, k_clrF, k_mem, k_rebind, k_bnd, k_beg0, k_beg1, b_giveN, b_giveR, f_open, b_hand, k_op, b_turn, wlB, b_beat, f_anew, b_wipe, b_off, k_sadd, fits, frP, cntB, b_trace, b_child, k_lat, cond_true, cond_false, Option.elim_none, Option.elim_some, Option.getD_none, Option.getD_some] at hX | rw [if_pos (by first | with_reducible assumption | omega)] at hX | rw [if_neg (by first | with_reducible assumption | omega)] at hX | rw [jx_of (by omega)] at hX)); (rw [show y_46.toInt.toNat = x_11.toInt.toNat + 1 by omega]); first | exact hX | (exfalso; omega) | exact hX) hQ ⟨i1_20, i2_21, i3_22, i4_23, i5_24, i6_25, i7_26, i8_27, i9_28, i10_44, i11_45⟩ hP hD hS (lv_sub hl [0, 1, 2] rfl)
      exact L33 _ (0 : Int32)   ws_3 F  _ _ _ (Nat.lt_succ_self _) (by have t_0 := ti_0; show 0 ≤ (0 : Int32).toInt ∧ (0 : Int32).toInt ≤ 8; omega) (by show itr (b_leave i) (fun s => s) (0 : Int32).toInt.toNat (8 - (0 : Int32).toInt.toNat) (C9.mk n f T G_2 K F) = k_leave i (C9.mk n f T G K F); subst eG_2; have hX := (k_leave.eq_1 i (C9.mk n f T G K F)).symm; (repeat (first | dsimp +instances only [c9n, c9f, c9T, c9G, c9K, c9F, b_come, b_leave, b_fill, awB, b_settle, b_wake, b_take, f_take, b_gather, f_gather, b_ask, a_ask, b_tell, c_close, d_close, k_add, k_rem, sco, k_clrF, k_mem, k_rebind, k_bnd, k_beg0, k_beg1, b_giveN, b_giveR, f_open, b_hand, k_op, b_turn, wlB, b_beat, f_anew, b_wipe, b_off, k_sadd, fits, frP, cntB, b_trace, b_child, k_lat, cond_true, cond_false, Option.elim_none, Option.elim_some, Option.getD_none, Option.getD_some] at hX | rw [if_pos (by first | with_reducible assumption | omega)] at hX | rw [if_neg (by first | with_reducible assumption | omega)] at hX | rw [jx_of (by omega)] at hX)); (skip); first | exact hX | (exfalso; omega) | exact hX) hQ ⟨h_i1, h_i2, h_i3, h_i4, h_i5, i6_6, i7_7, i8_8, i9_9, i10_4, i11_5⟩ hP hD hS (lv_sub hl [0, 1, 2] rfl)
   · simp only [i_lt, i_le, i_eq, ti_0] at c_1
     refine lv_aload_n hx hb dX9_leaveThread_7 rfl (lv_at hl 1 rfl) ?_
     refine va_get (D := (dC, dI)) (ci := 7) (v := .int (G i 3)) (C := RX7) (T := TX7) (N := 15) hx hb hg gb_7 hown hK hP (50 + 16 * i) (hQ.b0 hi) rfl 3 (by decide) (hg _ gm_fieldLink_RX9_168_ErrandGuild_Run_thread_I_) (fun _ h9 => h9) rfl dX9_leaveThread_8 ?_
     refine lv_bipush (v := 6) hx hb dX9_leaveThread_11 (by decide) ?_
     refine lv_icmp_ge (tgt := 26) hx hb dX9_leaveThread_13 (by decide) (fun c_47 => ?_) (fun c_47 => ?_)
     · simp only [i_lt, i_le, i_eq, ti_6] at c_47
       refine lv_aload_n hx hb dX9_leaveThread_26 rfl (lv_at hl 1 rfl) ?_
       refine lv_iconst (v := -1) hx hb dX9_leaveThread_27 (by decide) ?_
       refine va_put (D := (dC, dI)) (ci := 7) (v := .int (-1)) (ty := .int) (C := RX7) (T := TX7) (N := 15) hx hb hg gb_7 tyX7 tyX7_ok nmX7 hown hK hP hD hS (50 + 16 * i) (hQ.b0 hi) rfl 3 (by decide) (hg _ gm_fieldLink_RX9_168_ErrandGuild_Run_thread_I_) (fun _ h9 => h9) rfl (by decide +kernel) rfl rfl (Nat.le_of_ble_eq_true rfl) dX9_leaveThread_28 (fun H locs hP hD hS => ?_)
       obtain ⟨ws_49, G_48, eG_48, hP, hD, hQ⟩ : ∃ (ws_49 : va_W) (G_48 : Nat → Nat → Int32), G_48 = u2 G i 3 (-1) ∧ va_P (dC, dI) vwCl ws_49 H ∧ va_D A ws_49 ∧ Pic9 kc ws_49 ad ga gc M n f T G_48 K F := ⟨_, _, rfl, hP, hD, hQ.run hi 3 (by decide) (-1)⟩
       have i10_50 : i10 M G_48 K F := by rw [eG_48]; exact (i10.pG h_i10 hi _ (by decide))
       have i11_51 : i11 M n gc f G_48 F := by rw [eG_48]; exact (i11.pG h_i11 i _ (by decide))
       have i6_52 : i6 n T G_48 := by rw [eG_48]; exact i6.off h_i6 i (by decide)
       have i7_53 : i7 n G_48 := by rw [eG_48]; exact i7.off h_i7 _ hst
       have i8_54 : i8 M n gc G_48 := by rw [eG_48]; exact (i8.pG h_i8 i _ (by decide))
       have i9_55 : i9 M gc G_48 R := by rw [eG_48]; exact (i9.pG h_i9 i _ (by decide))
       have eg_56 : G_48 i 3 = (-1) := by rw [eG_48, u2_eq]
       exact by
        refine lv_iconst (v := 0) hx hb dX9_leaveThread_31 (by decide) ?_
        refine lv_istore_n (lv' := [(2, .int 0), (0, .ref (ad 0)), (1, .ref (ad (50 + 16 * i)))]) hx hb dX9_leaveThread_32 rfl hl (by decide) rfl (fun ls hl => ?_)
        have L33 : ∀ (fuel : Nat) (x_57 : Int32)   (ws_59 : va_W) (F_58 : Nat → Nat → Nat → Int32)  (H : Heap) (locs : List Loc) (ls : Array Slot), (9 - x_57.toInt).toNat < fuel → (0 ≤ x_57.toInt ∧ x_57.toInt ≤ 8) → (itr (b_leave i) (fun s => s) x_57.toInt.toNat (8 - x_57.toInt.toNat) (C9.mk n f T G_48 K F_58) = k_leave i (C9.mk n f T G K F)) → Pic9 kc ws_59 ad ga gc M n f T G_48 K F_58 → I9 M n f T gc G_48 K F_58 R → va_P (dC, dI) vwCl ws_59 H → va_D A ws_59 → va_S A s.heap H locs → lv_has ls 3 [(2, .int x_57), (0, .ref (ad 0)), (1, .ref (ad (50 + 16 * i)))] → W p l e (headSpec (.code yX9_leaveThread cX9_leaveThread 3 none :: gw) ({ frames := 2, cells := 0, slots := 0, locals := 41 })).room s m ([.ref (ad 0), .ref (ad (50 + 16 * i))] : List Value).toArray below meth c H locs 0 0 (MQ below (va_Qv (fun (u : (Nat → Nat) × (Nat → Nat) × (Nat → Nat) × Nat × (Nat → Int32) × (Nat → Nat → Int32) × (Nat → Option Nat) × (Nat → Nat → Int32) × (Nat → Nat → Option Nat) × (Nat → Nat → Nat → Int32)) => (C9.mk n f u.2.2.2.2.2.2.1 u.2.2.2.2.2.2.2.1 K u.2.2.2.2.2.2.2.2.2) = k_leave i (C9.mk n f T G K F) ∧ (∀ t : Nat, u.2.2.2.2.2.2.1 t = T t ∨ u.2.2.2.2.2.2.1 t = none)) (fun u t => ∃ w : va_W, va_P (dC, dI) vwCl w t.heap ∧ va_D A w ∧ Pic9 kc w ad ga gc M n f u.2.2.2.2.2.2.1 u.2.2.2.2.2.2.2.1 K u.2.2.2.2.2.2.2.2.2 ∧ I9 M n f u.2.2.2.2.2.2.1 gc u.2.2.2.2.2.2.2.1 K u.2.2.2.2.2.2.2.2.2 R ∧ hpS t.heap + (260 * M + 2 * S9 M gc) ≤ (hpS s.heap) + (260 * M + 2 * S9 M gc) ∧ 16 * t.heap.size + (256 * M + S9 M gc) ≤ 16 * s.heap.size + (256 * M + S9 M gc)) A) ([.ref (ad 0), .ref (ad (50 + 16 * i))] : List Value).toArray s 0 0 A) (F0 m 33 ls []) := by
          intro fuel
          induction fuel with
          | zero => intro x_57 ws_59 F_58 H locs ls hm; exact absurd hm (Nat.not_lt_zero _)
          | succ fuel_65 ih_64 =>
            intro x_57 ws_59 F_58 H locs ls hm_60 v_61 v_62 hQ hI_63 hP hD hS hl
            obtain ⟨i1_66, i2_67, i3_68, i4_69, i5_70, i6_71, i7_72, i8_73, i9_74, i10_75, i11_76⟩ := id hI_63
            have q1_ := i1_66
            unfold i1 at q1_
            refine lv_iload_n hx hb dX9_leaveThread_33 rfl (lv_at hl 0 rfl) ?_
            exact by
             refine lv_bipush (v := 8) hx hb dX9_leaveThread_34 (by decide) ?_
             refine lv_icmp_ge (tgt := 62) hx hb dX9_leaveThread_36 (by decide) (fun c_77 => ?_) (fun c_77 => ?_)
             · simp only [i_lt, i_le, i_eq, ti_8] at c_77
               refine W_msr2 (fun hm1 hm2 hm3 => ?_)
               exact W.vret hx hb hr (fun t ht hW => ⟨⟨(ad, ga, gc, M, n, f, T, G_48, K, F_58), rfl, ⟨(by show (C9.mk n f T G_48 K F_58) = k_leave i (C9.mk n f T G K F); subst eG_48; have hX := v_62; (first | rw [itr_go (by omega)] at hX | rw [itr_end (by omega)] at hX); (repeat (first | dsimp +instances only [c9n, c9f, c9T, c9G, c9K, c9F, b_come, b_leave, b_fill, awB, b_settle, b_wake, b_take, f_take, b_gather, f_gather, b_ask, a_ask, b_tell, c_close, d_close, k_add, k_rem, sco, k_clrF, k_mem, k_rebind, k_bnd, k_beg0, k_beg1, b_giveN, b_giveR, f_open, b_hand, k_op, b_turn, wlB, b_beat, f_anew, b_wipe, b_off, k_sadd, fits, frP, cntB, b_trace, b_child, k_lat, cond_true, cond_false, Option.elim_none, Option.elim_some, Option.getD_none, Option.getD_some] at hX | rw [if_pos (by first | with_reducible assumption | omega)] at hX | rw [if_neg (by first | with_reducible assumption | omega)] at hX | rw [jx_of (by omega)] at hX)); first | exact hX | (exfalso; omega) | exact hX), (fun t => Or.inl rfl)⟩, ws_59, by rw [ht]; exact hP, hD, hQ, ⟨i1_66, i2_67, i3_68, i4_69, i5_70, i6_71, i7_72, i8_73, i9_74, i10_75, i11_76⟩, by rw [ht]; show hpS H + (260 * M + 2 * S9 M gc) ≤ hpS s.heap + (260 * M + 2 * S9 M gc); omega, by rw [ht]; show 16 * H.size + (256 * M + S9 M gc) ≤ 16 * s.heap.size + (256 * M + S9 M gc); omega⟩, hS.F ht⟩) hS.2.2 dX9_leaveThread_62
             · simp only [i_lt, i_le, i_eq, ti_8] at c_77
               refine lv_aload_n hx hb dX9_leaveThread_39 rfl (lv_at hl 1 rfl) ?_
               refine va_get (D := (dC, dI)) (ci := 9) (v := .ref (ad 1)) (C := RX9) (T := TX9) (N := 15) hx hb hg gb_9 hown hK hP 0 hQ.x0 rfl 0 (by decide) (hg _ gm_fieldLink_RX9_9_ErrandGuild_manners_AI_) (fun _ h9 => h9) rfl dX9_leaveThread_40 ?_
               refine lv_iload_n hx hb dX9_leaveThread_43 rfl (lv_at hl 0 rfl) ?_
               refine va_iald (f := f 0) hx hb hK hP 1 0 hQ.x1 rfl (vp_in_iff.mpr ⟨by omega, by omega⟩) dX9_leaveThread_44 ?_
               refine lv_topi (fun z_78 ez_78 => ?_)
               have ez_78 : z_78 = f 0 x_57.toInt.toNat := ez_78
               have qz_78 := congrArg Int32.toInt ez_78
               exact by
                refine lv_if_ne (tgt := 56) hx hb dX9_leaveThread_45 (by decide) (fun c_79 => ?_) (fun c_79 => ?_)
                · simp only [i_lt, i_le, i_eq, ti_0] at c_79
                  obtain ⟨y_80, ey_80⟩ : ∃ q : Int32, q = x_57 + (1) := ⟨_, rfl⟩
                  refine lv_iinc (v := y_80) (lv' := [(2, .int y_80), (0, .ref (ad 0)), (1, .ref (ad (50 + 16 * i)))]) hx hb dX9_leaveThread_56 hl (k := 0) rfl (by rw [ey_80]; rfl) (by decide) rfl (fun ls hl => ?_)
                  have ty_80 : y_80.toInt = x_57.toInt + (1) := ar_add rfl ti_1 ey_80 (by omega)
                  refine lv_goto (tgt := 33) hx hb dX9_leaveThread_59 (by decide) ?_
                  exact ih_64 y_80   ws_59 F_58  H locs ls (by show (9 - y_80.toInt).toNat < _; omega) (by show 0 ≤ y_80.toInt ∧ y_80.toInt ≤ 8; omega) (by show itr (b_leave i) (fun s => s) y_80.toInt.toNat (8 - y_80.toInt.toNat) (C9.mk n f T G_48 K F_58) = k_leave i (C9.mk n f T G K F); subst eG_48; subst ez_78; have hX := v_62; (first | rw [itr_go (by omega)] at hX | rw [itr_end (by omega)] at hX); (repeat (first | dsimp +instances only [c9n, c9f, c9T, c9G, c9K, c9F, b_come, b_leave, b_fill, awB, b_settle, b_wake, b_take, f_take, b_gather, f_gather, b_ask, a_ask, b_tell, c_close, d_close, k_add, k_rem, sco, k_clrF, k_mem, k_rebind, k_bnd, k_beg0, k_beg1, b_giveN, b_giveR, f_open, b_hand, k_op, b_turn, wlB, b_beat, f_anew, b_wipe, b_off, k_sadd, fits, frP, cntB, b_trace, b_child, k_lat, cond_true, cond_false, Option.elim_none, Option.elim_some, Option.getD_none, Option.getD_some] at hX | rw [if_pos (by first | with_reducible assumption | omega)] at hX | rw [if_neg (by first | with_reducible assumption | omega)] at hX | rw [jx_of (by omega)] at hX)); (rw [show y_80.toInt.toNat = x_57.toInt.toNat + 1 by omega]); first | exact hX | (exfalso; omega) | exact hX) hQ ⟨i1_66, i2_67, i3_68, i4_69, i5_70, i6_71, i7_72, i8_73, i9_74, i10_75, i11_76⟩ hP hD hS (lv_sub hl [0, 1, 2] rfl)
                · simp only [i_lt, i_le, i_eq, ti_0] at c_79
                  refine lv_aload_n hx hb dX9_leaveThread_48 rfl (lv_at hl 2 rfl) ?_
                  refine va_get (D := (dC, dI)) (ci := 7) (v := .ref (ad (50 + 16 * i + 2))) (C := RX7) (T := TX7) (N := 15) hx hb hg gb_7 hown hK hP (50 + 16 * i) (hQ.b0 hi) rfl 11 (by decide) (hg _ gm_fieldLink_RX9_253_ErrandGuild_Run_memory_LErrandGuild_Memory_) (fun _ h9 => h9) rfl dX9_leaveThread_49 ?_
                  refine lv_iload_n hx hb dX9_leaveThread_52 rfl (lv_at hl 0 rfl) ?_
                  have hCc : ([(50 + 16 * i + 2), (50 + 16 * i + 3)] : List Nat).map (fun i => ws_59[i]?) = ([(ad (50 + 16 * i + 2), .inr (6, [.ref (ad (50 + 16 * i + 3)), .ref (ad (50 + 16 * i + 4)), .ref (ad (50 + 16 * i + 5))])), (ad (50 + 16 * i + 3), .inl (kc 1, 8, .inl (F_58 i 0)))] : va_W).map some := mp2 (hQ.b2 hi) (hQ.b3 hi)
                  have hNd : ([(50 + 16 * i + 2), (50 + 16 * i + 3)] : List Nat).Nodup := (nd_off (50 + 16 * i) (l := [2, 3]) (by decide))
                  have hPc := hP.pick [(50 + 16 * i + 2), (50 + 16 * i + 3)] hCc
                  have hDc := hD.pick [(50 + 16 * i + 2), (50 + 16 * i + 3)] hNd hCc
                  have hKc := hK.sub (tys' := [((kc 1), .boolean)]) [1] rfl
                  have hFc := va_free (wc := [(ad (50 + 16 * i + 2), .inr (6, [.ref (ad (50 + 16 * i + 3)), .ref (ad (50 + 16 * i + 4)), .ref (ad (50 + 16 * i + 5))])), (ad (50 + 16 * i + 3), .inl (kc 1, 8, .inl (F_58 i 0)))]) hD hS hA [(50 + 16 * i + 2), (50 + 16 * i + 3)] hCc
                  exact by
                   refine va_callv (va_runV (As := [.int x_57]) (rest := []) ⟨hx, hb, hml, hown, hg⟩ (c_X6_forget l dC dI (ad (50 + 16 * i + 2)) (ad (50 + 16 * i + 3)) (ad (50 + 16 * i + 4)) (ad (50 + 16 * i + 5)) (kc 1) (F_58 i 0) x_57 H.size ) (cwV 1 hg (gw_V gm_methodLink_RX9_307_yX6_forget gm_instanceMethod_yX6_forget gm_selects_RX6_yX6_forget_yX6_forget gm_initialized_RX6 gm_code_yX6_forget_cX6_forget_2_none) rfl rfl rfl (by decide +kernel) ⟨Nat.le_of_ble_eq_true rfl, Nat.le_of_ble_eq_true rfl⟩) ⟨fun a U g mk q => by obtain ⟨q0, q1, qP, qK, qD, qN⟩ := q; exact ⟨q0, q1, qP, va_K.moved (u := U) (U := U.calling g mk a) (Vm.Alike.refl U.vm) qK, qD, nx_same (u := U) (U := U.calling g mk a) rfl qN⟩, va_recv hK hP (ci := 6) (q0 := (50 + 16 * i + 2)) rfl (hQ.b2 hi), fun U hU hW => ⟨rfl, by rw [hU], by rw [hU]; exact hPc, va_K.moved hW.alike hKc, hDc.weaken (fun _ _ _ _ => trivial), nx_warm hW hN⟩⟩ rfl rfl hl.1 rfl (lv_room (Nat.le_of_ble_eq_true rfl)) dX9_leaveThread_53 ⟨Nat.le_of_ble_eq_true rfl, Nat.le_of_ble_eq_true rfl⟩) hS (fun q _ h => hFc q h) hFc (fun u_82 t H1 locs ht hvm hw hB hz1 hk1 hS => ?_)
                   obtain ⟨ad_83, ac_84, af_85, ag_86⟩ := u_82
                   obtain ⟨hP1, hD1, hK1, qe_87⟩ := hB
                   rw [ht] at hP1
                   have hP1 : va_P (dC, dI) vwCl [((ad (50 + 16 * i + 2)), .inr (6, [.ref (ad (50 + 16 * i + 3)), .ref (ad (50 + 16 * i + 4)), .ref (ad (50 + 16 * i + 5))])), ((ad (50 + 16 * i + 3)), .inl ((kc 1), 8, .inl (af_85 0)))] H1 := hP1
                   have hD1 : va_D _ [((ad (50 + 16 * i + 2)), .inr (6, [.ref (ad (50 + 16 * i + 3)), .ref (ad (50 + 16 * i + 4)), .ref (ad (50 + 16 * i + 5))])), ((ad (50 + 16 * i + 3)), .inl ((kc 1), 8, .inl (af_85 0)))] := hD1
                   have qe_87 : (af_85 0) = st8 (F_58 i 0) x_57 0 := qe_87
                   rw [qe_87] at hP1 hD1
                   obtain ⟨hP, hD⟩ := va_repl (w1 := [((ad (50 + 16 * i + 2)), .inr (6, [.ref (ad (50 + 16 * i + 3)), .ref (ad (50 + 16 * i + 4)), .ref (ad (50 + 16 * i + 5))])), ((ad (50 + 16 * i + 3)), .inl ((kc 1), 8, .inl (st8 (F_58 i 0) x_57 0)))]) hP hD [(50 + 16 * i + 2), (50 + 16 * i + 3)] hCc hNd rfl hk1 hFc hP1 hD1
                   obtain ⟨ws_89, F_88, eF_88, hP, hD, hQ⟩ : ∃ (ws_89 : va_W) (F_88 : Nat → Nat → Nat → Int32), F_88 = u2 F_58 i 0 (st8 (F_58 i 0) x_57 0) ∧ va_P (dC, dI) vwCl ws_89 H1 ∧ va_D A ws_89 ∧ Pic9 kc ws_89 ad ga gc M n f T G_48 K F_88 := ⟨_, _, rfl, hP, hD, (hQ.same (hQ.b2 hi)).arr hi 3 0 (by decide) (st8 (F_58 i 0) x_57 0) rfl⟩
                   have i10_90 : i10 M G_48 K F_88 := by rw [eF_88]; exact (i10.pF i10_75 hi _ _)
                   have i11_91 : i11 M n gc f G_48 F_88 := by rw [eF_88]; exact (i11.pF i11_76 i _ (by decide))
                   generalize H1 = H at hP hS ⊢
                   obtain ⟨y_92, ey_92⟩ : ∃ q : Int32, q = x_57 + (1) := ⟨_, rfl⟩
                   exact by
                    refine lv_iinc (v := y_92) (lv' := [(2, .int y_92), (0, .ref (ad 0)), (1, .ref (ad (50 + 16 * i)))]) hx hb dX9_leaveThread_56 hl (k := 0) rfl (by rw [ey_92]; rfl) (by decide) rfl (fun ls hl => ?_)
                    have ty_92 : y_92.toInt = x_57.toInt + (1) := ar_add rfl ti_1 ey_92 (by omega)
                    refine lv_goto (tgt := 33) hx hb dX9_leaveThread_59 (by decide) ?_
                    exact ih_64 y_92   ws_89 F_88  H locs ls (by show (9 - y_92.toInt).toNat < _; omega) (by show 0 ≤ y_92.toInt ∧ y_92.toInt ≤ 8; omega) (by show itr (b_leave i) (fun s => s) y_92.toInt.toNat (8 - y_92.toInt.toNat) (C9.mk n f T G_48 K F_88) = k_leave i (C9.mk n f T G K F); subst eG_48; subst ez_78; subst eF_88; have hX := v_62; (first | rw [itr_go (by omega)] at hX | rw [itr_end (by omega)] at hX); (repeat (first | dsimp +instances only [c9n, c9f, c9T, c9G, c9K, c9F, b_come, b_leave, b_fill, awB, b_settle, b_wake, b_take, f_take, b_gather, f_gather, b_ask, a_ask, b_tell, c_close, d_close, k_add, k_rem, sco, k_clrF, k_mem, k_rebind, k_bnd, k_beg0, k_beg1, b_giveN, b_giveR, f_open, b_hand, k_op, b_turn, wlB, b_beat, f_anew, b_wipe, b_off, k_sadd, fits, frP, cntB, b_trace, b_child, k_lat, cond_true, cond_false, Option.elim_none, Option.elim_some, Option.getD_none, Option.getD_some] at hX | rw [if_pos (by first | with_reducible assumption | omega)] at hX | rw [if_neg (by first | with_reducible assumption | omega)] at hX | rw [jx_of (by omega)] at hX)); (rw [show y_92.toInt.toNat = x_57.toInt.toNat + 1 by omega]); first | exact hX | (exfalso; omega) | exact hX) hQ ⟨i1_66, i2_67, i3_68, i4_69, i5_70, i6_71, i7_72, i8_73, i9_74, i10_90, i11_91⟩ hP hD hS (lv_sub hl [0, 1, 2] rfl)
        exact L33 _ (0 : Int32)   ws_49 F  _ _ _ (Nat.lt_succ_self _) (by have t_0 := ti_0; show 0 ≤ (0 : Int32).toInt ∧ (0 : Int32).toInt ≤ 8; omega) (by show itr (b_leave i) (fun s => s) (0 : Int32).toInt.toNat (8 - (0 : Int32).toInt.toNat) (C9.mk n f T G_48 K F) = k_leave i (C9.mk n f T G K F); subst eG_48; have hX := (k_leave.eq_1 i (C9.mk n f T G K F)).symm; (repeat (first | dsimp +instances only [c9n, c9f, c9T, c9G, c9K, c9F, b_come, b_leave, b_fill, awB, b_settle, b_wake, b_take, f_take, b_gather, f_gather, b_ask, a_ask, b_tell, c_close, d_close, k_add, k_rem, sco, k_clrF, k_mem, k_rebind, k_bnd, k_beg0, k_beg1, b_giveN, b_giveR, f_open, b_hand, k_op, b_turn, wlB, b_beat, f_anew, b_wipe, b_off, k_sadd, fits, frP, cntB, b_trace, b_child, k_lat, cond_true, cond_false, Option.elim_none, Option.elim_some, Option.getD_none, Option.getD_some] at hX | rw [if_pos (by first | with_reducible assumption | omega)] at hX | rw [if_neg (by first | with_reducible assumption | omega)] at hX | rw [jx_of (by omega)] at hX)); (skip); first | exact hX | (exfalso; omega) | exact hX) hQ ⟨h_i1, h_i2, h_i3, h_i4, h_i5, i6_52, i7_53, i8_54, i9_55, i10_50, i11_51⟩ hP hD hS (lv_sub hl [0, 1, 2] rfl)
     · simp only [i_lt, i_le, i_eq, ti_6] at c_47
       refine lv_aload_n hx hb dX9_leaveThread_16 rfl (lv_at hl 0 rfl) ?_
       refine va_get (D := (dC, dI)) (ci := 9) (v := .ref (ad 41)) (C := RX9) (T := TX9) (N := 15) hx hb hg gb_9 hown hK hP 0 hQ.x0 rfl 6 (by decide) (hg _ gm_fieldLink_RX9_35_ErrandGuild_onThreads_ALErrandGuild_Run_) (fun _ h9 => h9) rfl dX9_leaveThread_17 ?_
       refine lv_aload_n hx hb dX9_leaveThread_20 rfl (lv_at hl 1 rfl) ?_
       refine va_get (D := (dC, dI)) (ci := 7) (v := .int (G i 3)) (C := RX7) (T := TX7) (N := 15) hx hb hg gb_7 hown hK hP (50 + 16 * i) (hQ.b0 hi) rfl 3 (by decide) (hg _ gm_fieldLink_RX9_168_ErrandGuild_Run_thread_I_) (fun _ h9 => h9) rfl dX9_leaveThread_21 ?_
       refine lv_null hx hb dX9_leaveThread_24 ?_
       refine va_astqN hx hb hK hP hD hS 41 3 hQ.x41 rfl (vp_in_iff.mpr ⟨by omega, by omega⟩) dX9_leaveThread_25 (fun H locs hP hD hS => ?_)
       obtain ⟨ws_94, T_93, eT_93, hP, hD, hQ⟩ : ∃ (ws_94 : va_W) (T_93 : Nat → Option Nat), T_93 = u1 T ((G i 3).toInt.toNat) none ∧ va_P (dC, dI) vwCl ws_94 H ∧ va_D A ws_94 ∧ Pic9 kc ws_94 ad ga gc M n f T_93 G K F := ⟨_, _, rfl, hP, hD, hQ.thr ((G i 3).toInt.toNat) none⟩
       have i2_95 : i2 M T_93 := by rw [eT_93]; exact i2.pT h_i2 _ (fun _ h => by cases h)
       refine lv_aload_n hx hb dX9_leaveThread_26 rfl (lv_at hl 1 rfl) ?_
       refine lv_iconst (v := -1) hx hb dX9_leaveThread_27 (by decide) ?_
       refine va_put (D := (dC, dI)) (ci := 7) (v := .int (-1)) (ty := .int) (C := RX7) (T := TX7) (N := 15) hx hb hg gb_7 tyX7 tyX7_ok nmX7 hown hK hP hD hS (50 + 16 * i) (hQ.b0 hi) rfl 3 (by decide) (hg _ gm_fieldLink_RX9_168_ErrandGuild_Run_thread_I_) (fun _ h9 => h9) rfl (by decide +kernel) rfl rfl (Nat.le_of_ble_eq_true rfl) dX9_leaveThread_28 (fun H locs hP hD hS => ?_)
       obtain ⟨ws_97, G_96, eG_96, hP, hD, hQ⟩ : ∃ (ws_97 : va_W) (G_96 : Nat → Nat → Int32), G_96 = u2 G i 3 (-1) ∧ va_P (dC, dI) vwCl ws_97 H ∧ va_D A ws_97 ∧ Pic9 kc ws_97 ad ga gc M n f T_93 G_96 K F := ⟨_, _, rfl, hP, hD, hQ.run hi 3 (by decide) (-1)⟩
       have i10_98 : i10 M G_96 K F := by rw [eG_96]; exact (i10.pG h_i10 hi _ (by decide))
       have i11_99 : i11 M n gc f G_96 F := by rw [eG_96]; exact (i11.pG h_i11 i _ (by decide))
       have i6_100 : i6 n T_93 G_96 := by rw [eG_96]; exact (by rw [eT_93]; exact i6.leave h_i6 hin (by omega) (by omega) (by decide) rfl)
       have i7_101 : i7 n G_96 := by rw [eG_96]; exact i7.off h_i7 _ hst
       have i8_102 : i8 M n gc G_96 := by rw [eG_96]; exact (i8.pG h_i8 i _ (by decide))
       have i9_103 : i9 M gc G_96 R := by rw [eG_96]; exact (i9.pG h_i9 i _ (by decide))
       have eg_104 : G_96 i 3 = (-1) := by rw [eG_96, u2_eq]
       exact by
        refine lv_iconst (v := 0) hx hb dX9_leaveThread_31 (by decide) ?_
        refine lv_istore_n (lv' := [(2, .int 0), (0, .ref (ad 0)), (1, .ref (ad (50 + 16 * i)))]) hx hb dX9_leaveThread_32 rfl hl (by decide) rfl (fun ls hl => ?_)
        have L33 : ∀ (fuel : Nat) (x_105 : Int32)   (ws_107 : va_W) (F_106 : Nat → Nat → Nat → Int32)  (H : Heap) (locs : List Loc) (ls : Array Slot), (9 - x_105.toInt).toNat < fuel → (0 ≤ x_105.toInt ∧ x_105.toInt ≤ 8) → (itr (b_leave i) (fun s => s) x_105.toInt.toNat (8 - x_105.toInt.toNat) (C9.mk n f T_93 G_96 K F_106) = k_leave i (C9.mk n f T G K F)) → Pic9 kc ws_107 ad ga gc M n f T_93 G_96 K F_106 → I9 M n f T_93 gc G_96 K F_106 R → va_P (dC, dI) vwCl ws_107 H → va_D A ws_107 → va_S A s.heap H locs → lv_has ls 3 [(2, .int x_105), (0, .ref (ad 0)), (1, .ref (ad (50 + 16 * i)))] → W p l e (headSpec (.code yX9_leaveThread cX9_leaveThread 3 none :: gw) ({ frames := 2, cells := 0, slots := 0, locals := 41 })).room s m ([.ref (ad 0), .ref (ad (50 + 16 * i))] : List Value).toArray below meth c H locs 0 0 (MQ below (va_Qv (fun (u : (Nat → Nat) × (Nat → Nat) × (Nat → Nat) × Nat × (Nat → Int32) × (Nat → Nat → Int32) × (Nat → Option Nat) × (Nat → Nat → Int32) × (Nat → Nat → Option Nat) × (Nat → Nat → Nat → Int32)) => (C9.mk n f u.2.2.2.2.2.2.1 u.2.2.2.2.2.2.2.1 K u.2.2.2.2.2.2.2.2.2) = k_leave i (C9.mk n f T G K F) ∧ (∀ t : Nat, u.2.2.2.2.2.2.1 t = T t ∨ u.2.2.2.2.2.2.1 t = none)) (fun u t => ∃ w : va_W, va_P (dC, dI) vwCl w t.heap ∧ va_D A w ∧ Pic9 kc w ad ga gc M n f u.2.2.2.2.2.2.1 u.2.2.2.2.2.2.2.1 K u.2.2.2.2.2.2.2.2.2 ∧ I9 M n f u.2.2.2.2.2.2.1 gc u.2.2.2.2.2.2.2.1 K u.2.2.2.2.2.2.2.2.2 R ∧ hpS t.heap + (260 * M + 2 * S9 M gc) ≤ (hpS s.heap) + (260 * M + 2 * S9 M gc) ∧ 16 * t.heap.size + (256 * M + S9 M gc) ≤ 16 * s.heap.size + (256 * M + S9 M gc)) A) ([.ref (ad 0), .ref (ad (50 + 16 * i))] : List Value).toArray s 0 0 A) (F0 m 33 ls []) := by
          intro fuel
          induction fuel with
          | zero => intro x_105 ws_107 F_106 H locs ls hm; exact absurd hm (Nat.not_lt_zero _)
          | succ fuel_113 ih_112 =>
            intro x_105 ws_107 F_106 H locs ls hm_108 v_109 v_110 hQ hI_111 hP hD hS hl
            obtain ⟨i1_114, i2_115, i3_116, i4_117, i5_118, i6_119, i7_120, i8_121, i9_122, i10_123, i11_124⟩ := id hI_111
            have q1_ := i1_114
            unfold i1 at q1_
            refine lv_iload_n hx hb dX9_leaveThread_33 rfl (lv_at hl 0 rfl) ?_
            exact by
             refine lv_bipush (v := 8) hx hb dX9_leaveThread_34 (by decide) ?_
             refine lv_icmp_ge (tgt := 62) hx hb dX9_leaveThread_36 (by decide) (fun c_125 => ?_) (fun c_125 => ?_)
             · simp only [i_lt, i_le, i_eq, ti_8] at c_125
               refine W_msr2 (fun hm1 hm2 hm3 => ?_)
               exact W.vret hx hb hr (fun t ht hW => ⟨⟨(ad, ga, gc, M, n, f, T_93, G_96, K, F_106), rfl, ⟨(by show (C9.mk n f T_93 G_96 K F_106) = k_leave i (C9.mk n f T G K F); subst eT_93; subst eG_96; have hX := v_110; (first | rw [itr_go (by omega)] at hX | rw [itr_end (by omega)] at hX); (repeat (first | dsimp +instances only [c9n, c9f, c9T, c9G, c9K, c9F, b_come, b_leave, b_fill, awB, b_settle, b_wake, b_take, f_take, b_gather, f_gather, b_ask, a_ask, b_tell, c_close, d_close, k_add, k_rem, sco, k_clrF, k_mem, k_rebind, k_bnd, k_beg0, k_beg1, b_giveN, b_giveR, f_open, b_hand, k_op, b_turn, wlB, b_beat, f_anew, b_wipe, b_off, k_sadd, fits, frP, cntB, b_trace, b_child, k_lat, cond_true, cond_false, Option.elim_none, Option.elim_some, Option.getD_none, Option.getD_some] at hX | rw [if_pos (by first | with_reducible assumption | omega)] at hX | rw [if_neg (by first | with_reducible assumption | omega)] at hX | rw [jx_of (by omega)] at hX)); first | exact hX | (exfalso; omega) | exact hX), (fun t => by show T_93 t = T t ∨ T_93 t = none; rw [eT_93]; exact T_off t)⟩, ws_107, by rw [ht]; exact hP, hD, hQ, ⟨i1_114, i2_115, i3_116, i4_117, i5_118, i6_119, i7_120, i8_121, i9_122, i10_123, i11_124⟩, by rw [ht]; show hpS H + (260 * M + 2 * S9 M gc) ≤ hpS s.heap + (260 * M + 2 * S9 M gc); omega, by rw [ht]; show 16 * H.size + (256 * M + S9 M gc) ≤ 16 * s.heap.size + (256 * M + S9 M gc); omega⟩, hS.F ht⟩) hS.2.2 dX9_leaveThread_62
             · simp only [i_lt, i_le, i_eq, ti_8] at c_125
               refine lv_aload_n hx hb dX9_leaveThread_39 rfl (lv_at hl 1 rfl) ?_
               refine va_get (D := (dC, dI)) (ci := 9) (v := .ref (ad 1)) (C := RX9) (T := TX9) (N := 15) hx hb hg gb_9 hown hK hP 0 hQ.x0 rfl 0 (by decide) (hg _ gm_fieldLink_RX9_9_ErrandGuild_manners_AI_) (fun _ h9 => h9) rfl dX9_leaveThread_40 ?_
               refine lv_iload_n hx hb dX9_leaveThread_43 rfl (lv_at hl 0 rfl) ?_
               refine va_iald (f := f 0) hx hb hK hP 1 0 hQ.x1 rfl (vp_in_iff.mpr ⟨by omega, by omega⟩) dX9_leaveThread_44 ?_
               refine lv_topi (fun z_126 ez_126 => ?_)
               have ez_126 : z_126 = f 0 x_105.toInt.toNat := ez_126
               have qz_126 := congrArg Int32.toInt ez_126
               exact by
                refine lv_if_ne (tgt := 56) hx hb dX9_leaveThread_45 (by decide) (fun c_127 => ?_) (fun c_127 => ?_)
                · simp only [i_lt, i_le, i_eq, ti_0] at c_127
                  obtain ⟨y_128, ey_128⟩ : ∃ q : Int32, q = x_105 + (1) := ⟨_, rfl⟩
                  refine lv_iinc (v := y_128) (lv' := [(2, .int y_128), (0, .ref (ad 0)), (1, .ref (ad (50 + 16 * i)))]) hx hb dX9_leaveThread_56 hl (k := 0) rfl (by rw [ey_128]; rfl) (by decide) rfl (fun ls hl => ?_)
                  have ty_128 : y_128.toInt = x_105.toInt + (1) := ar_add rfl ti_1 ey_128 (by omega)
                  refine lv_goto (tgt := 33) hx hb dX9_leaveThread_59 (by decide) ?_
                  exact ih_112 y_128   ws_107 F_106  H locs ls (by show (9 - y_128.toInt).toNat < _; omega) (by show 0 ≤ y_128.toInt ∧ y_128.toInt ≤ 8; omega) (by show itr (b_leave i) (fun s => s) y_128.toInt.toNat (8 - y_128.toInt.toNat) (C9.mk n f T_93 G_96 K F_106) = k_leave i (C9.mk n f T G K F); subst eT_93; subst eG_96; subst ez_126; have hX := v_110; (first | rw [itr_go (by omega)] at hX | rw [itr_end (by omega)] at hX); (repeat (first | dsimp +instances only [c9n, c9f, c9T, c9G, c9K, c9F, b_come, b_leave, b_fill, awB, b_settle, b_wake, b_take, f_take, b_gather, f_gather, b_ask, a_ask, b_tell, c_close, d_close, k_add, k_rem, sco, k_clrF, k_mem, k_rebind, k_bnd, k_beg0, k_beg1, b_giveN, b_giveR, f_open, b_hand, k_op, b_turn, wlB, b_beat, f_anew, b_wipe, b_off, k_sadd, fits, frP, cntB, b_trace, b_child, k_lat, cond_true, cond_false, Option.elim_none, Option.elim_some, Option.getD_none, Option.getD_some] at hX | rw [if_pos (by first | with_reducible assumption | omega)] at hX | rw [if_neg (by first | with_reducible assumption | omega)] at hX | rw [jx_of (by omega)] at hX)); (rw [show y_128.toInt.toNat = x_105.toInt.toNat + 1 by omega]); first | exact hX | (exfalso; omega) | exact hX) hQ ⟨i1_114, i2_115, i3_116, i4_117, i5_118, i6_119, i7_120, i8_121, i9_122, i10_123, i11_124⟩ hP hD hS (lv_sub hl [0, 1, 2] rfl)
                · simp only [i_lt, i_le, i_eq, ti_0] at c_127
                  refine lv_aload_n hx hb dX9_leaveThread_48 rfl (lv_at hl 2 rfl) ?_
                  refine va_get (D := (dC, dI)) (ci := 7) (v := .ref (ad (50 + 16 * i + 2))) (C := RX7) (T := TX7) (N := 15) hx hb hg gb_7 hown hK hP (50 + 16 * i) (hQ.b0 hi) rfl 11 (by decide) (hg _ gm_fieldLink_RX9_253_ErrandGuild_Run_memory_LErrandGuild_Memory_) (fun _ h9 => h9) rfl dX9_leaveThread_49 ?_
                  refine lv_iload_n hx hb dX9_leaveThread_52 rfl (lv_at hl 0 rfl) ?_
                  have hCc : ([(50 + 16 * i + 2), (50 + 16 * i + 3)] : List Nat).map (fun i => ws_107[i]?) = ([(ad (50 + 16 * i + 2), .inr (6, [.ref (ad (50 + 16 * i + 3)), .ref (ad (50 + 16 * i + 4)), .ref (ad (50 + 16 * i + 5))])), (ad (50 + 16 * i + 3), .inl (kc 1, 8, .inl (F_106 i 0)))] : va_W).map some := mp2 (hQ.b2 hi) (hQ.b3 hi)
                  have hNd : ([(50 + 16 * i + 2), (50 + 16 * i + 3)] : List Nat).Nodup := (nd_off (50 + 16 * i) (l := [2, 3]) (by decide))
                  have hPc := hP.pick [(50 + 16 * i + 2), (50 + 16 * i + 3)] hCc
                  have hDc := hD.pick [(50 + 16 * i + 2), (50 + 16 * i + 3)] hNd hCc
                  have hKc := hK.sub (tys' := [((kc 1), .boolean)]) [1] rfl
                  have hFc := va_free (wc := [(ad (50 + 16 * i + 2), .inr (6, [.ref (ad (50 + 16 * i + 3)), .ref (ad (50 + 16 * i + 4)), .ref (ad (50 + 16 * i + 5))])), (ad (50 + 16 * i + 3), .inl (kc 1, 8, .inl (F_106 i 0)))]) hD hS hA [(50 + 16 * i + 2), (50 + 16 * i + 3)] hCc
                  exact by
                   refine va_callv (va_runV (As := [.int x_105]) (rest := []) ⟨hx, hb, hml, hown, hg⟩ (c_X6_forget l dC dI (ad (50 + 16 * i + 2)) (ad (50 + 16 * i + 3)) (ad (50 + 16 * i + 4)) (ad (50 + 16 * i + 5)) (kc 1) (F_106 i 0) x_105 H.size ) (cwV 1 hg (gw_V gm_methodLink_RX9_307_yX6_forget gm_instanceMethod_yX6_forget gm_selects_RX6_yX6_forget_yX6_forget gm_initialized_RX6 gm_code_yX6_forget_cX6_forget_2_none) rfl rfl rfl (by decide +kernel) ⟨Nat.le_of_ble_eq_true rfl, Nat.le_of_ble_eq_true rfl⟩) ⟨fun a U g mk q => by obtain ⟨q0, q1, qP, qK, qD, qN⟩ := q; exact ⟨q0, q1, qP, va_K.moved (u := U) (U := U.calling g mk a) (Vm.Alike.refl U.vm) qK, qD, nx_same (u := U) (U := U.calling g mk a) rfl qN⟩, va_recv hK hP (ci := 6) (q0 := (50 + 16 * i + 2)) rfl (hQ.b2 hi), fun U hU hW => ⟨rfl, by rw [hU], by rw [hU]; exact hPc, va_K.moved hW.alike hKc, hDc.weaken (fun _ _ _ _ => trivial), nx_warm hW hN⟩⟩ rfl rfl hl.1 rfl (lv_room (Nat.le_of_ble_eq_true rfl)) dX9_leaveThread_53 ⟨Nat.le_of_ble_eq_true rfl, Nat.le_of_ble_eq_true rfl⟩) hS (fun q _ h => hFc q h) hFc (fun u_130 t H1 locs ht hvm hw hB hz1 hk1 hS => ?_)
                   obtain ⟨ad_131, ac_132, af_133, ag_134⟩ := u_130
                   obtain ⟨hP1, hD1, hK1, qe_135⟩ := hB
                   rw [ht] at hP1
                   have hP1 : va_P (dC, dI) vwCl [((ad (50 + 16 * i + 2)), .inr (6, [.ref (ad (50 + 16 * i + 3)), .ref (ad (50 + 16 * i + 4)), .ref (ad (50 + 16 * i + 5))])), ((ad (50 + 16 * i + 3)), .inl ((kc 1), 8, .inl (af_133 0)))] H1 := hP1
                   have hD1 : va_D _ [((ad (50 + 16 * i + 2)), .inr (6, [.ref (ad (50 + 16 * i + 3)), .ref (ad (50 + 16 * i + 4)), .ref (ad (50 + 16 * i + 5))])), ((ad (50 + 16 * i + 3)), .inl ((kc 1), 8, .inl (af_133 0)))] := hD1
                   have qe_135 : (af_133 0) = st8 (F_106 i 0) x_105 0 := qe_135
                   rw [qe_135] at hP1 hD1
                   obtain ⟨hP, hD⟩ := va_repl (w1 := [((ad (50 + 16 * i + 2)), .inr (6, [.ref (ad (50 + 16 * i + 3)), .ref (ad (50 + 16 * i + 4)), .ref (ad (50 + 16 * i + 5))])), ((ad (50 + 16 * i + 3)), .inl ((kc 1), 8, .inl (st8 (F_106 i 0) x_105 0)))]) hP hD [(50 + 16 * i + 2), (50 + 16 * i + 3)] hCc hNd rfl hk1 hFc hP1 hD1
                   obtain ⟨ws_137, F_136, eF_136, hP, hD, hQ⟩ : ∃ (ws_137 : va_W) (F_136 : Nat → Nat → Nat → Int32), F_136 = u2 F_106 i 0 (st8 (F_106 i 0) x_105 0) ∧ va_P (dC, dI) vwCl ws_137 H1 ∧ va_D A ws_137 ∧ Pic9 kc ws_137 ad ga gc M n f T_93 G_96 K F_136 := ⟨_, _, rfl, hP, hD, (hQ.same (hQ.b2 hi)).arr hi 3 0 (by decide) (st8 (F_106 i 0) x_105 0) rfl⟩
                   have i10_138 : i10 M G_96 K F_136 := by rw [eF_136]; exact (i10.pF i10_123 hi _ _)
                   have i11_139 : i11 M n gc f G_96 F_136 := by rw [eF_136]; exact (i11.pF i11_124 i _ (by decide))
                   generalize H1 = H at hP hS ⊢
                   obtain ⟨y_140, ey_140⟩ : ∃ q : Int32, q = x_105 + (1) := ⟨_, rfl⟩
                   exact by
                    refine lv_iinc (v := y_140) (lv' := [(2, .int y_140), (0, .ref (ad 0)), (1, .ref (ad (50 + 16 * i)))]) hx hb dX9_leaveThread_56 hl (k := 0) rfl (by rw [ey_140]; rfl) (by decide) rfl (fun ls hl => ?_)
                    have ty_140 : y_140.toInt = x_105.toInt + (1) := ar_add rfl ti_1 ey_140 (by omega)
                    refine lv_goto (tgt := 33) hx hb dX9_leaveThread_59 (by decide) ?_
                    exact ih_112 y_140   ws_137 F_136  H locs ls (by show (9 - y_140.toInt).toNat < _; omega) (by show 0 ≤ y_140.toInt ∧ y_140.toInt ≤ 8; omega) (by show itr (b_leave i) (fun s => s) y_140.toInt.toNat (8 - y_140.toInt.toNat) (C9.mk n f T_93 G_96 K F_136) = k_leave i (C9.mk n f T G K F); subst eT_93; subst eG_96; subst ez_126; subst eF_136; have hX := v_110; (first | rw [itr_go (by omega)] at hX | rw [itr_end (by omega)] at hX); (repeat (first | dsimp +instances only [c9n, c9f, c9T, c9G, c9K, c9F, b_come, b_leave, b_fill, awB, b_settle, b_wake, b_take, f_take, b_gather, f_gather, b_ask, a_ask, b_tell, c_close, d_close, k_add, k_rem, sco, k_clrF, k_mem, k_rebind, k_bnd, k_beg0, k_beg1, b_giveN, b_giveR, f_open, b_hand, k_op, b_turn, wlB, b_beat, f_anew, b_wipe, b_off, k_sadd, fits, frP, cntB, b_trace, b_child, k_lat, cond_true, cond_false, Option.elim_none, Option.elim_some, Option.getD_none, Option.getD_some] at hX | rw [if_pos (by first | with_reducible assumption | omega)] at hX | rw [if_neg (by first | with_reducible assumption | omega)] at hX | rw [jx_of (by omega)] at hX)); (rw [show y_140.toInt.toNat = x_105.toInt.toNat + 1 by omega]); first | exact hX | (exfalso; omega) | exact hX) hQ ⟨i1_114, i2_115, i3_116, i4_117, i5_118, i6_119, i7_120, i8_121, i9_122, i10_138, i11_139⟩ hP hD hS (lv_sub hl [0, 1, 2] rfl)
        exact L33 _ (0 : Int32)   ws_97 F  _ _ _ (Nat.lt_succ_self _) (by have t_0 := ti_0; show 0 ≤ (0 : Int32).toInt ∧ (0 : Int32).toInt ≤ 8; omega) (by show itr (b_leave i) (fun s => s) (0 : Int32).toInt.toNat (8 - (0 : Int32).toInt.toNat) (C9.mk n f T_93 G_96 K F) = k_leave i (C9.mk n f T G K F); subst eT_93; subst eG_96; have hX := (k_leave.eq_1 i (C9.mk n f T G K F)).symm; (repeat (first | dsimp +instances only [c9n, c9f, c9T, c9G, c9K, c9F, b_come, b_leave, b_fill, awB, b_settle, b_wake, b_take, f_take, b_gather, f_gather, b_ask, a_ask, b_tell, c_close, d_close, k_add, k_rem, sco, k_clrF, k_mem, k_rebind, k_bnd, k_beg0, k_beg1, b_giveN, b_giveR, f_open, b_hand, k_op, b_turn, wlB, b_beat, f_anew, b_wipe, b_off, k_sadd, fits, frP, cntB, b_trace, b_child, k_lat, cond_true, cond_false, Option.elim_none, Option.elim_some, Option.getD_none, Option.getD_some] at hX | rw [if_pos (by first | with_reducible assumption | omega)] at hX | rw [if_neg (by first | with_reducible assumption | omega)] at hX | rw [jx_of (by omega)] at hX)); (skip); first | exact hX | (exfalso; omega) | exact hX) hQ ⟨h_i1, i2_95, h_i3, h_i4, h_i5, i6_100, i7_101, i8_102, i9_103, i10_98, i11_99⟩ hP hD hS (lv_sub hl [0, 1, 2] rfl)
