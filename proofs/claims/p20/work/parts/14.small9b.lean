set_option maxHeartbeats 4000000 in
set_option maxRecDepth 100000 in
theorem c_X8_catchOf (l : Launch) (dC : Nat → ClassId) (dI : Nat → Nat → Nat) (h0 : Nat) (w0 : Nat) (w1 : Nat) (w2 : Nat) (w3 : Nat) (w4 : Nat) (w5 : Nat) (k2 : ClassId) (k3 : ClassId) (k4 : ClassId) (k5 : ClassId) (f2 : Nat → Int32) (f3 : Nat → Int32) (f4 : Nat → Int32) (f5 : Nat → Int32) (s3 : Int32) (s7 : Int32) (s8 : Int32) (v1 : Int32) (sz : Nat)  : Met l yX8_catchOf (.code yX8_catchOf cX8_catchOf 3 (some .int) :: gw) ({ frames := 1, cells := 0, slots := 0, locals := 22 }) (va_Pc [.ref h0, .int v1] (fun U => U.heap.size = sz ∧ va_P (dC, dI) vwCl [(h0, .inr (8, [.ref w0, .ref w1, .ref w2, .int s3, .ref w3, .ref w4, .ref w5, .int s7, .int s8])), (w2, .inl (k2, 24, .inl f2)), (w3, .inl (k3, 24, .inl f3)), (w4, .inl (k4, 24, .inl f4)), (w5, .inl (k5, 24, .inl f5))] U.heap ∧ va_K (dC, dI) vwCl [(k2, .int), (k3, .int), (k4, .int), (k5, .int)] U ∧ va_D (fun _ => True) [(h0, .inr (8, [.ref w0, .ref w1, .ref w2, .int s3, .ref w3, .ref w4, .ref w5, .int s7, .int s8])), (w2, .inl (k2, 24, .inl f2)), (w3, .inl (k3, 24, .inl f3)), (w4, .inl (k4, 24, .inl f4)), (w5, .inl (k5, 24, .inl f5))] ∧ nx U)) (va_Qi (fun (r : Int32) (u : wS) => r = caA s7 f3 f4 v1) (fun u t => va_P (dC, dI) vwCl [(h0, .inr (8, [.ref w0, .ref w1, .ref w2, .int (u.2.2.1 6 0), .ref w3, .ref w4, .ref w5, .int (u.2.2.1 7 0), .int (u.2.2.1 8 0)])), (w2, .inl (k2, 24, .inl f2)), (w3, .inl (k3, 24, .inl f3)), (w4, .inl (k4, 24, .inl f4)), (w5, .inl (k5, 24, .inl f5))] t.heap ∧ va_D (va_A [(h0, .inr (8, [.ref w0, .ref w1, .ref w2, .int s3, .ref w3, .ref w4, .ref w5, .int s7, .int s8])), (w2, .inl (k2, 24, .inl f2)), (w3, .inl (k3, 24, .inl f3)), (w4, .inl (k4, 24, .inl f4)), (w5, .inl (k5, 24, .inl f5))] sz) [(h0, .inr (8, [.ref w0, .ref w1, .ref w2, .int (u.2.2.1 6 0), .ref w3, .ref w4, .ref w5, .int (u.2.2.1 7 0), .int (u.2.2.1 8 0)])), (w2, .inl (k2, 24, .inl f2)), (w3, .inl (k3, 24, .inl f3)), (w4, .inl (k4, 24, .inl f4)), (w5, .inl (k5, 24, .inl f5))] ∧ va_K (dC, dI) vwCl [] t ∧ (u.2.2.1 6 0) = caB s7 f3 f5 f2 v1 s3 ∧ (u.2.2.1 7 0) = caN s7 f3 v1 ∧ (u.2.2.1 8 0) = s8) (va_A [(h0, .inr (8, [.ref w0, .ref w1, .ref w2, .int s3, .ref w3, .ref w4, .ref w5, .int s7, .int s8])), (w2, .inl (k2, 24, .inl f2)), (w3, .inl (k3, 24, .inl f3)), (w4, .inl (k4, 24, .inl f4)), (w5, .inl (k5, 24, .inl f5))] sz)) 0 0 (va_A [(h0, .inr (8, [.ref w0, .ref w1, .ref w2, .int s3, .ref w3, .ref w4, .ref w5, .int s7, .int s8])), (w2, .inl (k2, 24, .inl f2)), (w3, .inl (k3, 24, .inl f3)), (w4, .inl (k4, 24, .inl f4)), (w5, .inl (k5, 24, .inl f5))] sz) := by
  refine Met.ofW (cc := cX8_catchOf) (maxL := 3) (ret := (some .int)) (by decide) rfl ?_
  intro p e s m args below meth c s₁ B hml hv
  obtain ⟨rfl, hsz, hP, hK, hD0, hN⟩ := hv
  have hx := B.exec
  have hb := B.bytes
  have hr := B.returns
  have hts := atoms_spec (ws := .code yX8_catchOf cX8_catchOf 3 (some .int) :: gw) B.pre
  have hg : ∀ w ∈ gw, w.before _ s = true := fun w h => hts w (List.mem_cons_of_mem _ h)
  have hown : s.vm.findClass RX8 = some m.cls := findClass_of_methodNamed B.named
  have hlocks := B.notSynchronized
  subst hsz
  have hD := hD0.self (sz := s.heap.size)
  generalize hAe : va_A [(h0, .inr (8, [.ref w0, .ref w1, .ref w2, .int s3, .ref w3, .ref w4, .ref w5, .int s7, .int s8])), (w2, .inl (k2, 24, .inl f2)), (w3, .inl (k3, 24, .inl f3)), (w4, .inl (k4, 24, .inl f4)), (w5, .inl (k5, 24, .inl f5))] s.heap.size = A at hD ⊢
  have hA : ∀ q : Nat, s.heap.size ≤ q → A q := fun q h => by rw [← hAe]; exact Or.inr h
  have hS : va_S A s.heap s.heap [] := va_S.rf
  have hP : va_P (dC, dI) vwCl [(h0, .inr (8, [.ref w0, .ref w1, .ref w2, .int s3, .ref w3, .ref w4, .ref w5, .int s7, .int s8])), (w2, .inl (k2, 24, .inl f2)), (w3, .inl (k3, 24, .inl f3)), (w4, .inl (k4, 24, .inl f4)), (w5, .inl (k5, 24, .inl f5))] s.heap := hP
  have hl := lv_entry ([.ref h0, .int v1]) (n := 3) (Nat.le_of_ble_eq_true rfl)
  rw [lg_entry_eq]
  generalize (lg_sl ([.ref h0, .int v1]) ++ List.replicate (3 - (lg_sl ([.ref h0, .int v1])).length) Slot.unset).toArray = ls at hl ⊢
  have hl : lv_has ls 3 [(0, .ref h0), (1, .int v1)] := hl
  refine lv_bipush (v := 23) hx hb dX8_catchOf_0 (by decide) ?_
  refine lv_istore_n (lv' := [(2, .int 23), (0, .ref h0), (1, .int v1)]) hx hb dX8_catchOf_2 rfl hl (by decide) rfl (fun ls hl => ?_)
  have L3 : ∀ (fuel : Nat) (x_1 : Int32)  (H : Heap) (locs : List Loc) (ls : Array Slot), (x_1.toInt + 1).toNat < fuel → (-1 ≤ x_1.toInt ∧ x_1.toInt ≤ 23) → (tfd s7 f3 v1 (x_1.toInt + 1).toNat = tfd s7 f3 v1 24) → va_P (dC, dI) vwCl [(h0, .inr (8, [.ref w0, .ref w1, .ref w2, .int s3, .ref w3, .ref w4, .ref w5, .int s7, .int s8])), (w2, .inl (k2, 24, .inl f2)), (w3, .inl (k3, 24, .inl f3)), (w4, .inl (k4, 24, .inl f4)), (w5, .inl (k5, 24, .inl f5))] H → va_D A [(h0, .inr (8, [.ref w0, .ref w1, .ref w2, .int s3, .ref w3, .ref w4, .ref w5, .int s7, .int s8])), (w2, .inl (k2, 24, .inl f2)), (w3, .inl (k3, 24, .inl f3)), (w4, .inl (k4, 24, .inl f4)), (w5, .inl (k5, 24, .inl f5))] → va_S A s.heap H locs → lv_has ls 3 [(2, .int x_1), (0, .ref h0), (1, .int v1)] → W p l e (headSpec (.code yX8_catchOf cX8_catchOf 3 (some .int) :: gw) ({ frames := 1, cells := 0, slots := 0, locals := 22 })).room s m ([.ref h0, .int v1] : List Value).toArray below meth c H locs 0 0 (MQ below (va_Qi (fun (r : Int32) (u : wS) => r = caA s7 f3 f4 v1) (fun u t => va_P (dC, dI) vwCl [(h0, .inr (8, [.ref w0, .ref w1, .ref w2, .int (u.2.2.1 6 0), .ref w3, .ref w4, .ref w5, .int (u.2.2.1 7 0), .int (u.2.2.1 8 0)])), (w2, .inl (k2, 24, .inl f2)), (w3, .inl (k3, 24, .inl f3)), (w4, .inl (k4, 24, .inl f4)), (w5, .inl (k5, 24, .inl f5))] t.heap ∧ va_D A [(h0, .inr (8, [.ref w0, .ref w1, .ref w2, .int (u.2.2.1 6 0), .ref w3, .ref w4, .ref w5, .int (u.2.2.1 7 0), .int (u.2.2.1 8 0)])), (w2, .inl (k2, 24, .inl f2)), (w3, .inl (k3, 24, .inl f3)), (w4, .inl (k4, 24, .inl f4)), (w5, .inl (k5, 24, .inl f5))] ∧ va_K (dC, dI) vwCl [] t ∧ (u.2.2.1 6 0) = caB s7 f3 f5 f2 v1 s3 ∧ (u.2.2.1 7 0) = caN s7 f3 v1 ∧ (u.2.2.1 8 0) = s8) A) ([.ref h0, .int v1] : List Value).toArray s 0 0 A) (F0 m 3 ls []) := by
    intro fuel
    induction fuel with
    | zero => intro x_1 H locs ls hm; exact absurd hm (Nat.not_lt_zero _)
    | succ fuel_3 ih_2 =>
      intro x_1 H locs ls hm_4 v_5 v_6 hP hD hS hl
      refine lv_iload_n hx hb dX8_catchOf_3 rfl (lv_at hl 0 rfl) ?_
      refine lv_if_lt (tgt := 64) hx hb dX8_catchOf_4 (by decide) (fun c_7 => ?_) (fun c_7 => ?_)
      · simp only [i_lt, i_le, i_eq, ti_0] at c_7
        refine lv_iconst (v := -1) hx hb dX8_catchOf_64 (by decide) ?_
        have hP9 := hP.sub (ws' := [(h0, .inr (8, [.ref w0, .ref w1, .ref w2, .int s3, .ref w3, .ref w4, .ref w5, .int s7, .int s8])), (w2, .inl (k2, 24, .inl f2)), (w3, .inl (k3, 24, .inl f3)), (w4, .inl (k4, 24, .inl f4)), (w5, .inl (k5, 24, .inl f5))]) [0, 1, 2, 3, 4] rfl
        have hD9 := hD.sub (ws' := [(h0, .inr (8, [.ref w0, .ref w1, .ref w2, .int s3, .ref w3, .ref w4, .ref w5, .int s7, .int s8])), (w2, .inl (k2, 24, .inl f2)), (w3, .inl (k3, 24, .inl f3)), (w4, .inl (k4, 24, .inl f4)), (w5, .inl (k5, 24, .inl f5))]) [0, 1, 2, 3, 4] (by decide) rfl
        have hK9 := hK.sub (tys' := []) [] rfl
        exact W.iret (v := -1) hx hb hr (fun t ht hW => ⟨⟨-1, ((fun _ => 0), (fun _ => (dC 0)), (fun k => ([(fun _ => 0), (fun _ => 0), (fun _ => 0), (fun _ => 0), (fun _ => 0), (fun _ => 0), (fun _ => s3), (fun _ => s7), (fun _ => s8)] : List (Nat → Int32)).getD k (fun _ => 0)), (fun _ => (fun _ => none))), rfl, (by have hX := v_6; rw [show (x_1.toInt + 1).toNat = 0 by omega, tfd_0] at hX; show (-1 : Int32) = caA s7 f3 f4 v1; unfold caA; rw [if_neg (by omega)]), by rw [ht]; exact hP9, hD9, va_K.moved hW.alike hK9, (by have hX := v_6; rw [show (x_1.toInt + 1).toNat = 0 by omega, tfd_0] at hX; show s3 = caB s7 f3 f5 f2 v1 s3; unfold caB; rw [if_neg (by omega)]), (by have hX := v_6; rw [show (x_1.toInt + 1).toNat = 0 by omega, tfd_0] at hX; show s7 = caN s7 f3 v1; unfold caN; rw [if_neg (by omega)]), (by show s8 = s8; (subst_vars; first | rfl | ((try simp only [aN, aF, st8, st17, wrOr, gvAt, bdOr, rbF, bnN, bnM, bnF, frN, ctN, caN, caB, caA, hAt, cAt, nb1, nb0]); first | rfl | (rw [if_pos (by omega)]; done) | (rw [if_neg (by omega)]; done) | (rw [if_pos (by omega)]; rfl) | (rw [if_neg (by omega)]; rfl))))⟩, hS.F ht⟩) hS.2.2 dX8_catchOf_65
      · simp only [i_lt, i_le, i_eq, ti_0] at c_7
        refine lv_iload_n hx hb dX8_catchOf_7 rfl (lv_at hl 0 rfl) ?_
        refine lv_aload_n hx hb dX8_catchOf_8 rfl (lv_at hl 1 rfl) ?_
        refine va_get (D := (dC, dI)) (ci := 8) (v := .int s7) (C := RX8) (T := TX8) (N := 9) hx hb hg gb_8 hown hK hP 0 rfl rfl 7 (by decide) (hg _ gm_fieldLink_RX8_34_ErrandGuild_Scopes_tries_I_) (fun _ h9 => h9) rfl dX8_catchOf_9 ?_
        refine lv_icmp_ge (tgt := 58) hx hb dX8_catchOf_12 (by decide) (fun c_8 => ?_) (fun c_8 => ?_)
        · simp only [i_lt, i_le, i_eq] at c_8
          obtain ⟨y_9, ey_9⟩ : ∃ q : Int32, q = x_1 + (-1) := ⟨_, rfl⟩
          refine lv_iinc (v := y_9) (lv' := [(2, .int y_9), (0, .ref h0), (1, .int v1)]) hx hb dX8_catchOf_58 hl (k := 0) rfl (by rw [ey_9]; rfl) (by decide) rfl (fun ls hl => ?_)
          have ty_9 : y_9.toInt = x_1.toInt + (-1) := ar_add rfl ti_m1 ey_9 (by omega)
          refine lv_goto (tgt := 3) hx hb dX8_catchOf_61 (by decide) ?_
          exact ih_2 y_9  H locs ls (by omega) (by omega) (by have hX := v_6; have c1_ := cl_eq x_1; rw [show (x_1.toInt + 1).toNat = Int32.toNatClampNeg x_1 + 1 by omega, tfd_s, if_neg (by omega)] at hX; rw [show (y_9.toInt + 1).toNat = Int32.toNatClampNeg x_1 by omega]; exact hX) hP hD hS (lv_sub hl [0, 1, 2] rfl)
        · simp only [i_lt, i_le, i_eq] at c_8
          refine lv_aload_n hx hb dX8_catchOf_15 rfl (lv_at hl 1 rfl) ?_
          refine va_get (D := (dC, dI)) (ci := 8) (v := .ref w3) (C := RX8) (T := TX8) (N := 9) hx hb hg gb_8 hown hK hP 0 rfl rfl 4 (by decide) (hg _ gm_fieldLink_RX8_21_ErrandGuild_Scopes_tryKinds_AI_) (fun _ h9 => h9) rfl dX8_catchOf_16 ?_
          refine lv_iload_n hx hb dX8_catchOf_19 rfl (lv_at hl 0 rfl) ?_
          refine va_iald hx hb hK hP 2 1 rfl rfl (vp_in_iff.mpr ⟨by omega, by omega⟩) dX8_catchOf_20 ?_
          refine lv_topi (fun z_10 ez_10 => ?_)
          refine lv_iload_n hx hb dX8_catchOf_21 rfl (lv_at hl 2 rfl) ?_
          refine lv_icmp_eq (tgt := 36) hx hb dX8_catchOf_22 (by decide) (fun c_11 => ?_) (fun c_11 => ?_)
          · simp only [i_lt, i_le, i_eq] at c_11
            refine lv_aload_n hx hb dX8_catchOf_36 rfl (lv_at hl 1 rfl) ?_
            refine lv_iload_n hx hb dX8_catchOf_37 rfl (lv_at hl 0 rfl) ?_
            refine va_put (D := (dC, dI)) (ci := 8) (v := .int x_1) (ty := .int) (C := RX8) (T := TX8) (N := 9) hx hb hg gb_8 tyX8 tyX8_ok nmX8 hown hK hP hD hS 0 rfl rfl 7 (by decide) (hg _ gm_fieldLink_RX8_34_ErrandGuild_Scopes_tries_I_) (fun _ h9 => h9) rfl (by decide +kernel) rfl rfl (Nat.le_of_ble_eq_true rfl) dX8_catchOf_38 (fun H locs hP hD hS => ?_)
            have hP : va_P (dC, dI) vwCl [(h0, .inr (8, [.ref w0, .ref w1, .ref w2, .int s3, .ref w3, .ref w4, .ref w5, .int x_1, .int s8])), (w2, .inl (k2, 24, .inl f2)), (w3, .inl (k3, 24, .inl f3)), (w4, .inl (k4, 24, .inl f4)), (w5, .inl (k5, 24, .inl f5))] H := hP
            have hD : va_D A [(h0, .inr (8, [.ref w0, .ref w1, .ref w2, .int s3, .ref w3, .ref w4, .ref w5, .int x_1, .int s8])), (w2, .inl (k2, 24, .inl f2)), (w3, .inl (k3, 24, .inl f3)), (w4, .inl (k4, 24, .inl f4)), (w5, .inl (k5, 24, .inl f5))] := hD
            refine lv_aload_n hx hb dX8_catchOf_41 rfl (lv_at hl 1 rfl) ?_
            refine lv_aload_n hx hb dX8_catchOf_42 rfl (lv_at hl 1 rfl) ?_
            refine va_get (D := (dC, dI)) (ci := 8) (v := .ref w5) (C := RX8) (T := TX8) (N := 9) hx hb hg gb_8 hown hK hP 0 rfl rfl 6 (by decide) (hg _ gm_fieldLink_RX8_27_ErrandGuild_Scopes_tryMarks_AI_) (fun _ h9 => h9) rfl dX8_catchOf_43 ?_
            refine lv_iload_n hx hb dX8_catchOf_46 rfl (lv_at hl 0 rfl) ?_
            refine va_iald hx hb hK hP 4 3 rfl rfl (vp_in_iff.mpr ⟨by omega, by omega⟩) dX8_catchOf_47 ?_
            refine lv_topi (fun z_12 ez_12 => ?_)
            have hPc := hP.sub (ws' := [(h0, .inr (8, [.ref w0, .ref w1, .ref w2, .int s3, .ref w3, .ref w4, .ref w5, .int x_1, .int s8])), (w2, .inl (k2, 24, .inl f2))]) [0, 1] rfl
            have hDc := hD.sub (ws' := [(h0, .inr (8, [.ref w0, .ref w1, .ref w2, .int s3, .ref w3, .ref w4, .ref w5, .int x_1, .int s8])), (w2, .inl (k2, 24, .inl f2))]) [0, 1] (by decide) rfl
            have hKc := hK.sub (tys' := [(k2, .int)]) [0] rfl
            have hFc := va_free (wc := [(h0, .inr (8, [.ref w0, .ref w1, .ref w2, .int s3, .ref w3, .ref w4, .ref w5, .int x_1, .int s8])), (w2, .inl (k2, 24, .inl f2))]) hD hS hA [0, 1] rfl
            refine va_callv (va_runV (As := [.int z_12]) (rest := []) ⟨hx, hb, hml, hown, hg⟩ (c_X8_endBindingsSince l dC dI h0 w0 w1 w2 w3 w4 w5 k2 f2 s3 x_1 s8 z_12 H.size ) (cwV 1 hg (gw_V gm_methodLink_RX8_44_yX8_endBindingsSince gm_instanceMethod_yX8_endBindingsSince gm_selects_RX8_yX8_endBindingsSince_yX8_endBindingsSince gm_initialized_RX8 gm_code_yX8_endBindingsSince_cX8_endBindingsSince_3_none) rfl rfl rfl (by decide +kernel) ⟨Nat.le_of_ble_eq_true rfl, Nat.le_of_ble_eq_true rfl⟩) ⟨fun a U g mk q => by obtain ⟨q0, q1, qP, qK, qD, qN⟩ := q; exact ⟨q0, q1, qP, va_K.moved (u := U) (U := U.calling g mk a) (Vm.Alike.refl U.vm) qK, qD, nx_same (u := U) (U := U.calling g mk a) rfl qN⟩, va_recv hKc hPc (ci := 8) (q0 := 0) rfl rfl, fun U hU hW => ⟨rfl, by rw [hU], by rw [hU]; exact hPc, va_K.moved hW.alike hKc, hDc.weaken (fun _ _ _ _ => trivial), nx_warm hW hN⟩⟩ rfl rfl hl.1 rfl (lv_room (Nat.le_of_ble_eq_true rfl)) dX8_catchOf_48 ⟨Nat.le_of_ble_eq_true rfl, Nat.le_of_ble_eq_true rfl⟩) hS (fun q _ h => hFc q h) hFc (fun u_14 t H1 locs ht hvm hw hB hz1 hk1 hS => ?_)
            obtain ⟨ad_15, ac_16, af_17, ag_18⟩ := u_14
            obtain ⟨hP1, hD1, hK1, qe_19, qe_20, qe_21⟩ := hB
            rw [ht] at hP1
            have hK1 := va_K.moved hvm.symm hK1
            have hP1 : va_P (dC, dI) vwCl [(h0, .inr (8, [.ref w0, .ref w1, .ref w2, .int (af_17 6 0), .ref w3, .ref w4, .ref w5, .int (af_17 7 0), .int (af_17 8 0)])), (w2, .inl (k2, 24, .inl f2))] H1 := hP1
            have hD1 : va_D _ [(h0, .inr (8, [.ref w0, .ref w1, .ref w2, .int (af_17 6 0), .ref w3, .ref w4, .ref w5, .int (af_17 7 0), .int (af_17 8 0)])), (w2, .inl (k2, 24, .inl f2))] := hD1
            have qe_19 : (af_17 6 0) = ebs z_12 f2 24 s3 := qe_19
            have qe_20 : (af_17 7 0) = x_1 := qe_20
            have qe_21 : (af_17 8 0) = s8 := qe_21
            rw [qe_19, qe_20, qe_21] at hP1 hD1
            obtain ⟨hP, hD⟩ := va_join (wr := [(w3, .inl (k3, 24, .inl f3)), (w4, .inl (k4, 24, .inl f4)), (w5, .inl (k5, 24, .inl f5))]) (w1 := [(h0, .inr (8, [.ref w0, .ref w1, .ref w2, .int (ebs z_12 f2 24 s3), .ref w3, .ref w4, .ref w5, .int x_1, .int s8])), (w2, .inl (k2, 24, .inl f2))]) hP hD [0, 1] [2, 3, 4] rfl rfl (by decide) (by decide +kernel) hk1 hFc hP1 hD1
            generalize H1 = H at hP hS ⊢
            have hP : va_P (dC, dI) vwCl [(w3, .inl (k3, 24, .inl f3)), (w4, .inl (k4, 24, .inl f4)), (w5, .inl (k5, 24, .inl f5)), (h0, .inr (8, [.ref w0, .ref w1, .ref w2, .int (ebs z_12 f2 24 s3), .ref w3, .ref w4, .ref w5, .int x_1, .int s8])), (w2, .inl (k2, 24, .inl f2))] H := hP
            have hD : va_D A [(w3, .inl (k3, 24, .inl f3)), (w4, .inl (k4, 24, .inl f4)), (w5, .inl (k5, 24, .inl f5)), (h0, .inr (8, [.ref w0, .ref w1, .ref w2, .int (ebs z_12 f2 24 s3), .ref w3, .ref w4, .ref w5, .int x_1, .int s8])), (w2, .inl (k2, 24, .inl f2))] := hD
            refine W.widen (k := 0) (n := 0) (Nat.le_of_ble_eq_true rfl) (Nat.le_of_ble_eq_true rfl) ?_
            refine lv_aload_n hx hb dX8_catchOf_51 rfl (lv_at hl 1 rfl) ?_
            refine va_get (D := (dC, dI)) (ci := 8) (v := .ref w4) (C := RX8) (T := TX8) (N := 9) hx hb hg gb_8 hown hK hP 3 rfl rfl 5 (by decide) (hg _ gm_fieldLink_RX8_24_ErrandGuild_Scopes_tryPlaces_AI_) (fun _ h9 => h9) rfl dX8_catchOf_52 ?_
            refine lv_iload_n hx hb dX8_catchOf_55 rfl (lv_at hl 0 rfl) ?_
            refine va_iald hx hb hK hP 1 2 rfl rfl (vp_in_iff.mpr ⟨by omega, by omega⟩) dX8_catchOf_56 ?_
            refine lv_topi (fun z_22 ez_22 => ?_)
            have hP9 := hP.sub (ws' := [(h0, .inr (8, [.ref w0, .ref w1, .ref w2, .int (ebs z_12 f2 24 s3), .ref w3, .ref w4, .ref w5, .int x_1, .int s8])), (w2, .inl (k2, 24, .inl f2)), (w3, .inl (k3, 24, .inl f3)), (w4, .inl (k4, 24, .inl f4)), (w5, .inl (k5, 24, .inl f5))]) [3, 4, 0, 1, 2] rfl
            have hD9 := hD.sub (ws' := [(h0, .inr (8, [.ref w0, .ref w1, .ref w2, .int (ebs z_12 f2 24 s3), .ref w3, .ref w4, .ref w5, .int x_1, .int s8])), (w2, .inl (k2, 24, .inl f2)), (w3, .inl (k3, 24, .inl f3)), (w4, .inl (k4, 24, .inl f4)), (w5, .inl (k5, 24, .inl f5))]) [3, 4, 0, 1, 2] (by decide) rfl
            have hK9 := hK.sub (tys' := []) [] rfl
            exact W.iret (v := z_22) hx hb hr (fun t ht hW => ⟨⟨z_22, ((fun _ => 0), (fun _ => (dC 0)), (fun k => ([(fun _ => 0), (fun _ => 0), (fun _ => 0), (fun _ => 0), (fun _ => 0), (fun _ => 0), (fun _ => (ebs z_12 f2 24 s3)), (fun _ => x_1), (fun _ => s8)] : List (Nat → Int32)).getD k (fun _ => 0)), (fun _ => (fun _ => none))), rfl, (by have qz_10 := congrArg Int32.toInt ez_10; have qz_12 := congrArg Int32.toInt ez_12; have qz_22 := congrArg Int32.toInt ez_22; have hX := v_6; have c1_ := cl_eq x_1; rw [show (x_1.toInt + 1).toNat = Int32.toNatClampNeg x_1 + 1 by omega, tfd_s, if_pos (by omega)] at hX; show z_22 = caA s7 f3 f4 v1; unfold caA; rw [if_pos (by omega), ← hX, ez_22]; rfl), by rw [ht]; exact hP9, hD9, va_K.moved hW.alike hK9, (by have qz_10 := congrArg Int32.toInt ez_10; have qz_12 := congrArg Int32.toInt ez_12; have qz_22 := congrArg Int32.toInt ez_22; have hX := v_6; have c1_ := cl_eq x_1; rw [show (x_1.toInt + 1).toNat = Int32.toNatClampNeg x_1 + 1 by omega, tfd_s, if_pos (by omega)] at hX; show (ebs z_12 f2 24 s3) = caB s7 f3 f5 f2 v1 s3; unfold caB; rw [if_pos (by omega), ← hX]; subst_vars; rfl), (by have qz_10 := congrArg Int32.toInt ez_10; have qz_12 := congrArg Int32.toInt ez_12; have qz_22 := congrArg Int32.toInt ez_22; have hX := v_6; have c1_ := cl_eq x_1; rw [show (x_1.toInt + 1).toNat = Int32.toNatClampNeg x_1 + 1 by omega, tfd_s, if_pos (by omega)] at hX; show x_1 = caN s7 f3 v1; unfold caN; rw [if_pos (by omega), ← hX]; exact (i_of (by omega)).symm), (by show s8 = s8; (subst_vars; first | rfl | ((try simp only [aN, aF, st8, st17, wrOr, gvAt, bdOr, rbF, bnN, bnM, bnF, frN, ctN, caN, caB, caA, hAt, cAt, nb1, nb0]); first | rfl | (rw [if_pos (by omega)]; done) | (rw [if_neg (by omega)]; done) | (rw [if_pos (by omega)]; rfl) | (rw [if_neg (by omega)]; rfl))))⟩, hS.F ht⟩) hS.2.2 dX8_catchOf_57
          · simp only [i_lt, i_le, i_eq] at c_11
            refine lv_aload_n hx hb dX8_catchOf_25 rfl (lv_at hl 1 rfl) ?_
            refine va_get (D := (dC, dI)) (ci := 8) (v := .ref w3) (C := RX8) (T := TX8) (N := 9) hx hb hg gb_8 hown hK hP 0 rfl rfl 4 (by decide) (hg _ gm_fieldLink_RX8_21_ErrandGuild_Scopes_tryKinds_AI_) (fun _ h9 => h9) rfl dX8_catchOf_26 ?_
            refine lv_iload_n hx hb dX8_catchOf_29 rfl (lv_at hl 0 rfl) ?_
            refine va_iald hx hb hK hP 2 1 rfl rfl (vp_in_iff.mpr ⟨by omega, by omega⟩) dX8_catchOf_30 ?_
            refine lv_topi (fun z_23 ez_23 => ?_)
            refine lv_bipush (v := 8) hx hb dX8_catchOf_31 (by decide) ?_
            refine lv_icmp_ne (tgt := 58) hx hb dX8_catchOf_33 (by decide) (fun c_24 => ?_) (fun c_24 => ?_)
            · simp only [i_lt, i_le, i_eq, ti_8] at c_24
              obtain ⟨y_25, ey_25⟩ : ∃ q : Int32, q = x_1 + (-1) := ⟨_, rfl⟩
              refine lv_iinc (v := y_25) (lv' := [(2, .int y_25), (0, .ref h0), (1, .int v1)]) hx hb dX8_catchOf_58 hl (k := 0) rfl (by rw [ey_25]; rfl) (by decide) rfl (fun ls hl => ?_)
              have ty_25 : y_25.toInt = x_1.toInt + (-1) := ar_add rfl ti_m1 ey_25 (by omega)
              refine lv_goto (tgt := 3) hx hb dX8_catchOf_61 (by decide) ?_
              exact ih_2 y_25  H locs ls (by omega) (by omega) (by have qz_10 := congrArg Int32.toInt ez_10; have qz_23 := congrArg Int32.toInt ez_23; have hX := v_6; have c1_ := cl_eq x_1; rw [show (x_1.toInt + 1).toNat = Int32.toNatClampNeg x_1 + 1 by omega, tfd_s, if_neg (by omega)] at hX; rw [show (y_25.toInt + 1).toNat = Int32.toNatClampNeg x_1 by omega]; exact hX) hP hD hS (lv_sub hl [0, 1, 2] rfl)
            · simp only [i_lt, i_le, i_eq, ti_8] at c_24
              refine lv_aload_n hx hb dX8_catchOf_36 rfl (lv_at hl 1 rfl) ?_
              refine lv_iload_n hx hb dX8_catchOf_37 rfl (lv_at hl 0 rfl) ?_
              refine va_put (D := (dC, dI)) (ci := 8) (v := .int x_1) (ty := .int) (C := RX8) (T := TX8) (N := 9) hx hb hg gb_8 tyX8 tyX8_ok nmX8 hown hK hP hD hS 0 rfl rfl 7 (by decide) (hg _ gm_fieldLink_RX8_34_ErrandGuild_Scopes_tries_I_) (fun _ h9 => h9) rfl (by decide +kernel) rfl rfl (Nat.le_of_ble_eq_true rfl) dX8_catchOf_38 (fun H locs hP hD hS => ?_)
              have hP : va_P (dC, dI) vwCl [(h0, .inr (8, [.ref w0, .ref w1, .ref w2, .int s3, .ref w3, .ref w4, .ref w5, .int x_1, .int s8])), (w2, .inl (k2, 24, .inl f2)), (w3, .inl (k3, 24, .inl f3)), (w4, .inl (k4, 24, .inl f4)), (w5, .inl (k5, 24, .inl f5))] H := hP
              have hD : va_D A [(h0, .inr (8, [.ref w0, .ref w1, .ref w2, .int s3, .ref w3, .ref w4, .ref w5, .int x_1, .int s8])), (w2, .inl (k2, 24, .inl f2)), (w3, .inl (k3, 24, .inl f3)), (w4, .inl (k4, 24, .inl f4)), (w5, .inl (k5, 24, .inl f5))] := hD
              refine lv_aload_n hx hb dX8_catchOf_41 rfl (lv_at hl 1 rfl) ?_
              refine lv_aload_n hx hb dX8_catchOf_42 rfl (lv_at hl 1 rfl) ?_
              refine va_get (D := (dC, dI)) (ci := 8) (v := .ref w5) (C := RX8) (T := TX8) (N := 9) hx hb hg gb_8 hown hK hP 0 rfl rfl 6 (by decide) (hg _ gm_fieldLink_RX8_27_ErrandGuild_Scopes_tryMarks_AI_) (fun _ h9 => h9) rfl dX8_catchOf_43 ?_
              refine lv_iload_n hx hb dX8_catchOf_46 rfl (lv_at hl 0 rfl) ?_
              refine va_iald hx hb hK hP 4 3 rfl rfl (vp_in_iff.mpr ⟨by omega, by omega⟩) dX8_catchOf_47 ?_
              refine lv_topi (fun z_26 ez_26 => ?_)
              have hPc := hP.sub (ws' := [(h0, .inr (8, [.ref w0, .ref w1, .ref w2, .int s3, .ref w3, .ref w4, .ref w5, .int x_1, .int s8])), (w2, .inl (k2, 24, .inl f2))]) [0, 1] rfl
              have hDc := hD.sub (ws' := [(h0, .inr (8, [.ref w0, .ref w1, .ref w2, .int s3, .ref w3, .ref w4, .ref w5, .int x_1, .int s8])), (w2, .inl (k2, 24, .inl f2))]) [0, 1] (by decide) rfl
              have hKc := hK.sub (tys' := [(k2, .int)]) [0] rfl
              have hFc := va_free (wc := [(h0, .inr (8, [.ref w0, .ref w1, .ref w2, .int s3, .ref w3, .ref w4, .ref w5, .int x_1, .int s8])), (w2, .inl (k2, 24, .inl f2))]) hD hS hA [0, 1] rfl
              refine va_callv (va_runV (As := [.int z_26]) (rest := []) ⟨hx, hb, hml, hown, hg⟩ (c_X8_endBindingsSince l dC dI h0 w0 w1 w2 w3 w4 w5 k2 f2 s3 x_1 s8 z_26 H.size ) (cwV 1 hg (gw_V gm_methodLink_RX8_44_yX8_endBindingsSince gm_instanceMethod_yX8_endBindingsSince gm_selects_RX8_yX8_endBindingsSince_yX8_endBindingsSince gm_initialized_RX8 gm_code_yX8_endBindingsSince_cX8_endBindingsSince_3_none) rfl rfl rfl (by decide +kernel) ⟨Nat.le_of_ble_eq_true rfl, Nat.le_of_ble_eq_true rfl⟩) ⟨fun a U g mk q => by obtain ⟨q0, q1, qP, qK, qD, qN⟩ := q; exact ⟨q0, q1, qP, va_K.moved (u := U) (U := U.calling g mk a) (Vm.Alike.refl U.vm) qK, qD, nx_same (u := U) (U := U.calling g mk a) rfl qN⟩, va_recv hKc hPc (ci := 8) (q0 := 0) rfl rfl, fun U hU hW => ⟨rfl, by rw [hU], by rw [hU]; exact hPc, va_K.moved hW.alike hKc, hDc.weaken (fun _ _ _ _ => trivial), nx_warm hW hN⟩⟩ rfl rfl hl.1 rfl (lv_room (Nat.le_of_ble_eq_true rfl)) dX8_catchOf_48 ⟨Nat.le_of_ble_eq_true rfl, Nat.le_of_ble_eq_true rfl⟩) hS (fun q _ h => hFc q h) hFc (fun u_28 t H1 locs ht hvm hw hB hz1 hk1 hS => ?_)
              obtain ⟨ad_29, ac_30, af_31, ag_32⟩ := u_28
              obtain ⟨hP1, hD1, hK1, qe_33, qe_34, qe_35⟩ := hB
              rw [ht] at hP1
              have hK1 := va_K.moved hvm.symm hK1
              have hP1 : va_P (dC, dI) vwCl [(h0, .inr (8, [.ref w0, .ref w1, .ref w2, .int (af_31 6 0), .ref w3, .ref w4, .ref w5, .int (af_31 7 0), .int (af_31 8 0)])), (w2, .inl (k2, 24, .inl f2))] H1 := hP1
              have hD1 : va_D _ [(h0, .inr (8, [.ref w0, .ref w1, .ref w2, .int (af_31 6 0), .ref w3, .ref w4, .ref w5, .int (af_31 7 0), .int (af_31 8 0)])), (w2, .inl (k2, 24, .inl f2))] := hD1
              have qe_33 : (af_31 6 0) = ebs z_26 f2 24 s3 := qe_33
              have qe_34 : (af_31 7 0) = x_1 := qe_34
              have qe_35 : (af_31 8 0) = s8 := qe_35
              rw [qe_33, qe_34, qe_35] at hP1 hD1
              obtain ⟨hP, hD⟩ := va_join (wr := [(w3, .inl (k3, 24, .inl f3)), (w4, .inl (k4, 24, .inl f4)), (w5, .inl (k5, 24, .inl f5))]) (w1 := [(h0, .inr (8, [.ref w0, .ref w1, .ref w2, .int (ebs z_26 f2 24 s3), .ref w3, .ref w4, .ref w5, .int x_1, .int s8])), (w2, .inl (k2, 24, .inl f2))]) hP hD [0, 1] [2, 3, 4] rfl rfl (by decide) (by decide +kernel) hk1 hFc hP1 hD1
              generalize H1 = H at hP hS ⊢
              have hP : va_P (dC, dI) vwCl [(w3, .inl (k3, 24, .inl f3)), (w4, .inl (k4, 24, .inl f4)), (w5, .inl (k5, 24, .inl f5)), (h0, .inr (8, [.ref w0, .ref w1, .ref w2, .int (ebs z_26 f2 24 s3), .ref w3, .ref w4, .ref w5, .int x_1, .int s8])), (w2, .inl (k2, 24, .inl f2))] H := hP
              have hD : va_D A [(w3, .inl (k3, 24, .inl f3)), (w4, .inl (k4, 24, .inl f4)), (w5, .inl (k5, 24, .inl f5)), (h0, .inr (8, [.ref w0, .ref w1, .ref w2, .int (ebs z_26 f2 24 s3), .ref w3, .ref w4, .ref w5, .int x_1, .int s8])), (w2, .inl (k2, 24, .inl f2))] := hD
              refine W.widen (k := 0) (n := 0) (Nat.le_of_ble_eq_true rfl) (Nat.le_of_ble_eq_true rfl) ?_
              refine lv_aload_n hx hb dX8_catchOf_51 rfl (lv_at hl 1 rfl) ?_
              refine va_get (D := (dC, dI)) (ci := 8) (v := .ref w4) (C := RX8) (T := TX8) (N := 9) hx hb hg gb_8 hown hK hP 3 rfl rfl 5 (by decide) (hg _ gm_fieldLink_RX8_24_ErrandGuild_Scopes_tryPlaces_AI_) (fun _ h9 => h9) rfl dX8_catchOf_52 ?_
              refine lv_iload_n hx hb dX8_catchOf_55 rfl (lv_at hl 0 rfl) ?_
              refine va_iald hx hb hK hP 1 2 rfl rfl (vp_in_iff.mpr ⟨by omega, by omega⟩) dX8_catchOf_56 ?_
              refine lv_topi (fun z_36 ez_36 => ?_)
              have hP9 := hP.sub (ws' := [(h0, .inr (8, [.ref w0, .ref w1, .ref w2, .int (ebs z_26 f2 24 s3), .ref w3, .ref w4, .ref w5, .int x_1, .int s8])), (w2, .inl (k2, 24, .inl f2)), (w3, .inl (k3, 24, .inl f3)), (w4, .inl (k4, 24, .inl f4)), (w5, .inl (k5, 24, .inl f5))]) [3, 4, 0, 1, 2] rfl
              have hD9 := hD.sub (ws' := [(h0, .inr (8, [.ref w0, .ref w1, .ref w2, .int (ebs z_26 f2 24 s3), .ref w3, .ref w4, .ref w5, .int x_1, .int s8])), (w2, .inl (k2, 24, .inl f2)), (w3, .inl (k3, 24, .inl f3)), (w4, .inl (k4, 24, .inl f4)), (w5, .inl (k5, 24, .inl f5))]) [3, 4, 0, 1, 2] (by decide) rfl
              have hK9 := hK.sub (tys' := []) [] rfl
              exact W.iret (v := z_36) hx hb hr (fun t ht hW => ⟨⟨z_36, ((fun _ => 0), (fun _ => (dC 0)), (fun k => ([(fun _ => 0), (fun _ => 0), (fun _ => 0), (fun _ => 0), (fun _ => 0), (fun _ => 0), (fun _ => (ebs z_26 f2 24 s3)), (fun _ => x_1), (fun _ => s8)] : List (Nat → Int32)).getD k (fun _ => 0)), (fun _ => (fun _ => none))), rfl, (by have qz_10 := congrArg Int32.toInt ez_10; have qz_23 := congrArg Int32.toInt ez_23; have qz_26 := congrArg Int32.toInt ez_26; have qz_36 := congrArg Int32.toInt ez_36; have hX := v_6; have c1_ := cl_eq x_1; rw [show (x_1.toInt + 1).toNat = Int32.toNatClampNeg x_1 + 1 by omega, tfd_s, if_pos (by omega)] at hX; show z_36 = caA s7 f3 f4 v1; unfold caA; rw [if_pos (by omega), ← hX, ez_36]; rfl), by rw [ht]; exact hP9, hD9, va_K.moved hW.alike hK9, (by have qz_10 := congrArg Int32.toInt ez_10; have qz_23 := congrArg Int32.toInt ez_23; have qz_26 := congrArg Int32.toInt ez_26; have qz_36 := congrArg Int32.toInt ez_36; have hX := v_6; have c1_ := cl_eq x_1; rw [show (x_1.toInt + 1).toNat = Int32.toNatClampNeg x_1 + 1 by omega, tfd_s, if_pos (by omega)] at hX; show (ebs z_26 f2 24 s3) = caB s7 f3 f5 f2 v1 s3; unfold caB; rw [if_pos (by omega), ← hX]; subst_vars; rfl), (by have qz_10 := congrArg Int32.toInt ez_10; have qz_23 := congrArg Int32.toInt ez_23; have qz_26 := congrArg Int32.toInt ez_26; have qz_36 := congrArg Int32.toInt ez_36; have hX := v_6; have c1_ := cl_eq x_1; rw [show (x_1.toInt + 1).toNat = Int32.toNatClampNeg x_1 + 1 by omega, tfd_s, if_pos (by omega)] at hX; show x_1 = caN s7 f3 v1; unfold caN; rw [if_pos (by omega), ← hX]; exact (i_of (by omega)).symm), (by show s8 = s8; (subst_vars; first | rfl | ((try simp only [aN, aF, st8, st17, wrOr, gvAt, bdOr, rbF, bnN, bnM, bnF, frN, ctN, caN, caB, caA, hAt, cAt, nb1, nb0]); first | rfl | (rw [if_pos (by omega)]; done) | (rw [if_neg (by omega)]; done) | (rw [if_pos (by omega)]; rfl) | (rw [if_neg (by omega)]; rfl))))⟩, hS.F ht⟩) hS.2.2 dX8_catchOf_57
  exact L3 _ (23 : Int32)  _ _ _ (Nat.lt_succ_self _) (by have t_0 := ti_23; omega) (by rw [show ((23 : Int32).toInt + 1).toNat = 24 by decide]) hP hD hS (lv_sub hl [0, 1, 2] rfl)

set_option maxHeartbeats 4000000 in
set_option maxRecDepth 100000 in
theorem c_X0_at (l : Launch) (dC : Nat → ClassId) (dI : Nat → Nat → Nat) (h0 : Nat) (w0 : Nat) (cn : Nat) (k0 : ClassId) (f0 : Nat → Int32) (lm : Int32) (us : Int32) (v1 : Int32) (sz : Nat) (hcn : cn ≤ 1048576) (hus : us.toInt ≤ (cn : Int)) : Met l yX0_at (.code yX0_at cX0_at 2 (some .int) :: gw) ({ frames := 1, cells := 0, slots := 0, locals := 21 }) (va_Pc [.ref h0, .int v1] (fun U => U.heap.size = sz ∧ va_P (dC, dI) vwCl [(h0, .inr (0, [.int lm, .ref w0, .int us])), (w0, .inl (k0, cn, .inl f0))] U.heap ∧ va_K (dC, dI) vwCl [(k0, .int)] U ∧ va_D (fun _ => True) [(h0, .inr (0, [.int lm, .ref w0, .int us])), (w0, .inl (k0, cn, .inl f0))] ∧ nx U)) (va_Qi (fun (r : Int32) (u : Unit) => r = cAt us f0 v1) (fun _ t => va_P (dC, dI) vwCl [(h0, .inr (0, [.int lm, .ref w0, .int us])), (w0, .inl (k0, cn, .inl f0))] t.heap ∧ va_D (va_A [(h0, .inr (0, [.int lm, .ref w0, .int us])), (w0, .inl (k0, cn, .inl f0))] sz) [(h0, .inr (0, [.int lm, .ref w0, .int us])), (w0, .inl (k0, cn, .inl f0))]) (va_A [(h0, .inr (0, [.int lm, .ref w0, .int us])), (w0, .inl (k0, cn, .inl f0))] sz)) 0 0 (va_A [(h0, .inr (0, [.int lm, .ref w0, .int us])), (w0, .inl (k0, cn, .inl f0))] sz) := by
  refine Met.ofW (cc := cX0_at) (maxL := 2) (ret := (some .int)) (by decide) rfl ?_
  intro p e s m args below meth c s₁ B hml hv
  obtain ⟨rfl, hsz, hP, hK, hD0, hN⟩ := hv
  have hx := B.exec
  have hb := B.bytes
  have hr := B.returns
  have hts := atoms_spec (ws := .code yX0_at cX0_at 2 (some .int) :: gw) B.pre
  have hg : ∀ w ∈ gw, w.before _ s = true := fun w h => hts w (List.mem_cons_of_mem _ h)
  have hown : s.vm.findClass RX0 = some m.cls := findClass_of_methodNamed B.named
  have hlocks := B.notSynchronized
  subst hsz
  have hD := hD0.self (sz := s.heap.size)
  generalize hAe : va_A [(h0, .inr (0, [.int lm, .ref w0, .int us])), (w0, .inl (k0, cn, .inl f0))] s.heap.size = A at hD ⊢
  have hA : ∀ q : Nat, s.heap.size ≤ q → A q := fun q h => by rw [← hAe]; exact Or.inr h
  have hS : va_S A s.heap s.heap [] := va_S.rf
  have hP : va_P (dC, dI) vwCl [(h0, .inr (0, [.int lm, .ref w0, .int us])), (w0, .inl (k0, cn, .inl f0))] s.heap := hP
  have hl := lv_entry ([.ref h0, .int v1]) (n := 2) (Nat.le_of_ble_eq_true rfl)
  rw [lg_entry_eq]
  generalize (lg_sl ([.ref h0, .int v1]) ++ List.replicate (2 - (lg_sl ([.ref h0, .int v1])).length) Slot.unset).toArray = ls at hl ⊢
  have hl : lv_has ls 2 [(0, .ref h0), (1, .int v1)] := hl
  refine lv_aload_n hx hb dX0_at_0 rfl (lv_at hl 0 rfl) ?_
  refine lv_iload_n hx hb dX0_at_1 rfl (lv_at hl 1 rfl) ?_
  have hPc := hP.sub (ws' := [(h0, .inr (0, [.int lm, .ref w0, .int us])), (w0, .inl (k0, cn, .inl f0))]) [0, 1] rfl
  have hDc := hD.sub (ws' := [(h0, .inr (0, [.int lm, .ref w0, .int us])), (w0, .inl (k0, cn, .inl f0))]) [0, 1] (by decide) rfl
  have hKc := hK.sub (tys' := [(k0, .int)]) [0] rfl
  have hFc := va_free (wc := [(h0, .inr (0, [.int lm, .ref w0, .int us])), (w0, .inl (k0, cn, .inl f0))]) hD hS hA [0, 1] rfl
  refine va_calli (va_runV (As := [.int v1]) (rest := []) ⟨hx, hb, hml, hown, hg⟩ (c_X0_has l dC dI h0 w0 cn k0 f0 lm us v1 s.heap.size (hcn) (hus)) (cwV 1 hg (gw_V gm_methodLink_RX0_28_yX0_has gm_instanceMethod_yX0_has gm_selects_RX0_yX0_has_yX0_has gm_initialized_RX0 gm_code_yX0_has_cX0_has_2_some_boolean_) rfl rfl rfl (by decide +kernel) ⟨Nat.le_of_ble_eq_true rfl, Nat.le_of_ble_eq_true rfl⟩) ⟨fun a U g mk q => by obtain ⟨q0, q1, qP, qK, qD, qN⟩ := q; exact ⟨q0, q1, qP, va_K.moved (u := U) (U := U.calling g mk a) (Vm.Alike.refl U.vm) qK, qD, nx_same (u := U) (U := U.calling g mk a) rfl qN⟩, va_recv hKc hPc (ci := 0) (q0 := 0) rfl rfl, fun U hU hW => ⟨rfl, by rw [hU], by rw [hU]; exact hPc, va_K.moved hW.alike hKc, hDc.weaken (fun _ _ _ _ => trivial), nx_warm hW hN⟩⟩ rfl rfl hl.1 rfl (lv_room (Nat.le_of_ble_eq_true rfl)) dX0_at_2 ⟨Nat.le_of_ble_eq_true rfl, Nat.le_of_ble_eq_true rfl⟩) hS (fun q _ h => hFc q h) hFc (fun r_1 u_2 t H1 locs ht hvm hw hB hz1 hk1 hS => ?_)
  obtain ⟨hP1, hD1⟩ := hB
  rw [ht] at hP1
  obtain ⟨hP, hD⟩ := va_join (wr := []) (w1 := [(h0, .inr (0, [.int lm, .ref w0, .int us])), (w0, .inl (k0, cn, .inl f0))]) hP hD [0, 1] [] rfl rfl (by decide) (by decide +kernel) hk1 hFc hP1 hD1
  generalize H1 = H at hP hS ⊢
  have hP : va_P (dC, dI) vwCl [(h0, .inr (0, [.int lm, .ref w0, .int us])), (w0, .inl (k0, cn, .inl f0))] H := hP
  have hD : va_D A [(h0, .inr (0, [.int lm, .ref w0, .int us])), (w0, .inl (k0, cn, .inl f0))] := hD
  refine W.widen (k := 0) (n := 0) (Nat.le_of_ble_eq_true rfl) (Nat.le_of_ble_eq_true rfl) ?_
  rcases hw with ⟨rfl, w_3⟩ | ⟨rfl, w_3⟩
  · refine lv_if_eq (tgt := 17) hx hb dX0_at_5 (by decide) (fun c_4 => absurd c_4 (by decide)) (fun _ => ?_)
    refine lv_aload_n hx hb dX0_at_8 rfl (lv_at hl 0 rfl) ?_
    refine va_get (D := (dC, dI)) (ci := 0) (v := .ref w0) (C := RX0) (T := TX0) (N := 3) hx hb hg gb_0 hown hK hP 0 rfl rfl 1 (by decide) (hg _ gm_fieldLink_RX0_9_ErrandGuild_Cells_cells_AI_) (fun _ h9 => h9) rfl dX0_at_9 ?_
    refine lv_iload_n hx hb dX0_at_12 rfl (lv_at hl 1 rfl) ?_
    refine va_iald hx hb hK hP 1 0 rfl rfl (vp_in_iff.mpr ⟨by omega, by omega⟩) dX0_at_13 ?_
    refine lv_topi (fun z_5 ez_5 => ?_)
    refine lv_goto (tgt := 18) hx hb dX0_at_14 (by decide) ?_
    have hP9 := hP.sub (ws' := [(h0, .inr (0, [.int lm, .ref w0, .int us])), (w0, .inl (k0, cn, .inl f0))]) [0, 1] rfl
    have hD9 := hD.sub (ws' := [(h0, .inr (0, [.int lm, .ref w0, .int us])), (w0, .inl (k0, cn, .inl f0))]) [0, 1] (by decide) rfl
    exact W.iret (v := z_5) hx hb hr (fun t ht hW => ⟨⟨z_5, (), rfl, (by show (z_5 : Int32) = cAt us f0 v1; (subst_vars; first | rfl | ((try simp only [aN, aF, st8, st17, wrOr, gvAt, bdOr, rbF, bnN, bnM, bnF, frN, ctN, caN, caB, caA, hAt, cAt, nb1, nb0]); first | rfl | (rw [if_pos (by omega)]; done) | (rw [if_neg (by omega)]; done) | (rw [if_pos (by omega)]; rfl) | (rw [if_neg (by omega)]; rfl)))), by rw [ht]; exact hP9, hD9⟩, hS.F ht⟩) hS.2.2 dX0_at_18
  · refine lv_if_eq (tgt := 17) hx hb dX0_at_5 (by decide) (fun _ => ?_) (fun c_6 => absurd c_6 (by decide))
    refine lv_iconst (v := 0) hx hb dX0_at_17 (by decide) ?_
    have hP9 := hP.sub (ws' := [(h0, .inr (0, [.int lm, .ref w0, .int us])), (w0, .inl (k0, cn, .inl f0))]) [0, 1] rfl
    have hD9 := hD.sub (ws' := [(h0, .inr (0, [.int lm, .ref w0, .int us])), (w0, .inl (k0, cn, .inl f0))]) [0, 1] (by decide) rfl
    exact W.iret (v := 0) hx hb hr (fun t ht hW => ⟨⟨0, (), rfl, (by show (0 : Int32) = cAt us f0 v1; (subst_vars; first | rfl | ((try simp only [aN, aF, st8, st17, wrOr, gvAt, bdOr, rbF, bnN, bnM, bnF, frN, ctN, caN, caB, caA, hAt, cAt, nb1, nb0]); first | rfl | (rw [if_pos (by omega)]; done) | (rw [if_neg (by omega)]; done) | (rw [if_pos (by omega)]; rfl) | (rw [if_neg (by omega)]; rfl)))), by rw [ht]; exact hP9, hD9⟩, hS.F ht⟩) hS.2.2 dX0_at_18

set_option maxHeartbeats 4000000 in
set_option maxRecDepth 100000 in
theorem c_X5_at (l : Launch) (dC : Nat → ClassId) (dI : Nat → Nat → Nat) (g0 : Nat) (l5 : Int32) (h0 : Nat) (w0 : Nat) (cn : Nat) (k0 : ClassId) (f0 : Nat → Int32) (lm : Int32) (us : Int32) (v1 : Int32) (v2 : Int32) (sz : Nat) (hcn : cn ≤ 1048576) (hus : us.toInt ≤ (cn : Int)) (hl5 : l5.toInt ≤ 1000) : Met l yX5_at (.code yX5_at cX5_at 4 (some .int) :: gw) ({ frames := 2, cells := 0, slots := 0, locals := 42 }) (va_Pc [.ref g0, .int v1, .int v2] (fun U => U.heap.size = sz ∧ va_P (dC, dI) vwCl [(g0, .inr (5, [.int l5, .ref h0])), (h0, .inr (0, [.int lm, .ref w0, .int us])), (w0, .inl (k0, cn, .inl f0))] U.heap ∧ va_K (dC, dI) vwCl [(k0, .int)] U ∧ va_D (fun _ => True) [(g0, .inr (5, [.int l5, .ref h0])), (h0, .inr (0, [.int lm, .ref w0, .int us])), (w0, .inl (k0, cn, .inl f0))] ∧ nx U)) (va_Qi (fun (r : Int32) (u : Unit) => r = (if 0 ≤ v1.toInt ∧ v1.toInt < l5.toInt ∧ 0 ≤ v2.toInt ∧ v2.toInt < 4 ∧ 4 * v1.toInt + v2.toInt < us.toInt then f0 (4 * v1.toInt + v2.toInt).toNat else -1)) (fun _ t => va_P (dC, dI) vwCl [(g0, .inr (5, [.int l5, .ref h0])), (h0, .inr (0, [.int lm, .ref w0, .int us])), (w0, .inl (k0, cn, .inl f0))] t.heap ∧ va_D (va_A [(g0, .inr (5, [.int l5, .ref h0])), (h0, .inr (0, [.int lm, .ref w0, .int us])), (w0, .inl (k0, cn, .inl f0))] sz) [(g0, .inr (5, [.int l5, .ref h0])), (h0, .inr (0, [.int lm, .ref w0, .int us])), (w0, .inl (k0, cn, .inl f0))]) (va_A [(g0, .inr (5, [.int l5, .ref h0])), (h0, .inr (0, [.int lm, .ref w0, .int us])), (w0, .inl (k0, cn, .inl f0))] sz)) 0 0 (va_A [(g0, .inr (5, [.int l5, .ref h0])), (h0, .inr (0, [.int lm, .ref w0, .int us])), (w0, .inl (k0, cn, .inl f0))] sz) := by
  refine Met.ofW (cc := cX5_at) (maxL := 4) (ret := (some .int)) (by decide) rfl ?_
  intro p e s m args below meth c s₁ B hml hv
  obtain ⟨rfl, hsz, hP, hK, hD0, hN⟩ := hv
  have hx := B.exec
  have hb := B.bytes
  have hr := B.returns
  have hts := atoms_spec (ws := .code yX5_at cX5_at 4 (some .int) :: gw) B.pre
  have hg : ∀ w ∈ gw, w.before _ s = true := fun w h => hts w (List.mem_cons_of_mem _ h)
  have hown : s.vm.findClass RX5 = some m.cls := findClass_of_methodNamed B.named
  have hlocks := B.notSynchronized
  subst hsz
  have hD := hD0.self (sz := s.heap.size)
  generalize hAe : va_A [(g0, .inr (5, [.int l5, .ref h0])), (h0, .inr (0, [.int lm, .ref w0, .int us])), (w0, .inl (k0, cn, .inl f0))] s.heap.size = A at hD ⊢
  have hA : ∀ q : Nat, s.heap.size ≤ q → A q := fun q h => by rw [← hAe]; exact Or.inr h
  have hS : va_S A s.heap s.heap [] := va_S.rf
  have hP : va_P (dC, dI) vwCl [(g0, .inr (5, [.int l5, .ref h0])), (h0, .inr (0, [.int lm, .ref w0, .int us])), (w0, .inl (k0, cn, .inl f0))] s.heap := hP
  have hl := lv_entry ([.ref g0, .int v1, .int v2]) (n := 4) (Nat.le_of_ble_eq_true rfl)
  rw [lg_entry_eq]
  generalize (lg_sl ([.ref g0, .int v1, .int v2]) ++ List.replicate (4 - (lg_sl ([.ref g0, .int v1, .int v2])).length) Slot.unset).toArray = ls at hl ⊢
  have hl : lv_has ls 4 [(0, .ref g0), (1, .int v1), (2, .int v2)] := hl
  refine lv_iload_n hx hb dX5_at_0 rfl (lv_at hl 1 rfl) ?_
  refine lv_if_lt (tgt := 21) hx hb dX5_at_1 (by decide) (fun c_1 => ?_) (fun c_1 => ?_)
  · simp only [i_lt, i_le, i_eq, ti_0] at c_1
    refine lv_iconst (v := -1) hx hb dX5_at_21 (by decide) ?_
    have hP9 := hP.sub (ws' := [(g0, .inr (5, [.int l5, .ref h0])), (h0, .inr (0, [.int lm, .ref w0, .int us])), (w0, .inl (k0, cn, .inl f0))]) [0, 1, 2] rfl
    have hD9 := hD.sub (ws' := [(g0, .inr (5, [.int l5, .ref h0])), (h0, .inr (0, [.int lm, .ref w0, .int us])), (w0, .inl (k0, cn, .inl f0))]) [0, 1, 2] (by decide) rfl
    exact W.iret (v := -1) hx hb hr (fun t ht hW => ⟨⟨-1, (), rfl, (by show (-1 : Int32) = (if 0 ≤ v1.toInt ∧ v1.toInt < l5.toInt ∧ 0 ≤ v2.toInt ∧ v2.toInt < 4 ∧ 4 * v1.toInt + v2.toInt < us.toInt then f0 (4 * v1.toInt + v2.toInt).toNat else -1); rw [if_neg (by omega)]), by rw [ht]; exact hP9, hD9⟩, hS.F ht⟩) hS.2.2 dX5_at_22
  · simp only [i_lt, i_le, i_eq, ti_0] at c_1
    refine lv_iload_n hx hb dX5_at_4 rfl (lv_at hl 1 rfl) ?_
    refine lv_aload_n hx hb dX5_at_5 rfl (lv_at hl 0 rfl) ?_
    refine va_get (D := (dC, dI)) (ci := 5) (v := .int l5) (C := RX5) (T := TX5) (N := 2) hx hb hg gb_5 hown hK hP 0 rfl rfl 0 (by decide) (hg _ gm_fieldLink_RX5_9_ErrandGuild_Ledger_limit_I_) (fun _ h9 => h9) rfl dX5_at_6 ?_
    refine lv_icmp_ge (tgt := 21) hx hb dX5_at_9 (by decide) (fun c_2 => ?_) (fun c_2 => ?_)
    · simp only [i_lt, i_le, i_eq] at c_2
      refine lv_iconst (v := -1) hx hb dX5_at_21 (by decide) ?_
      have hP9 := hP.sub (ws' := [(g0, .inr (5, [.int l5, .ref h0])), (h0, .inr (0, [.int lm, .ref w0, .int us])), (w0, .inl (k0, cn, .inl f0))]) [0, 1, 2] rfl
      have hD9 := hD.sub (ws' := [(g0, .inr (5, [.int l5, .ref h0])), (h0, .inr (0, [.int lm, .ref w0, .int us])), (w0, .inl (k0, cn, .inl f0))]) [0, 1, 2] (by decide) rfl
      exact W.iret (v := -1) hx hb hr (fun t ht hW => ⟨⟨-1, (), rfl, (by show (-1 : Int32) = (if 0 ≤ v1.toInt ∧ v1.toInt < l5.toInt ∧ 0 ≤ v2.toInt ∧ v2.toInt < 4 ∧ 4 * v1.toInt + v2.toInt < us.toInt then f0 (4 * v1.toInt + v2.toInt).toNat else -1); rw [if_neg (by omega)]), by rw [ht]; exact hP9, hD9⟩, hS.F ht⟩) hS.2.2 dX5_at_22
    · simp only [i_lt, i_le, i_eq] at c_2
      refine lv_iload_n hx hb dX5_at_12 rfl (lv_at hl 2 rfl) ?_
      refine lv_if_lt (tgt := 21) hx hb dX5_at_13 (by decide) (fun c_3 => ?_) (fun c_3 => ?_)
      · simp only [i_lt, i_le, i_eq, ti_0] at c_3
        refine lv_iconst (v := -1) hx hb dX5_at_21 (by decide) ?_
        have hP9 := hP.sub (ws' := [(g0, .inr (5, [.int l5, .ref h0])), (h0, .inr (0, [.int lm, .ref w0, .int us])), (w0, .inl (k0, cn, .inl f0))]) [0, 1, 2] rfl
        have hD9 := hD.sub (ws' := [(g0, .inr (5, [.int l5, .ref h0])), (h0, .inr (0, [.int lm, .ref w0, .int us])), (w0, .inl (k0, cn, .inl f0))]) [0, 1, 2] (by decide) rfl
        exact W.iret (v := -1) hx hb hr (fun t ht hW => ⟨⟨-1, (), rfl, (by show (-1 : Int32) = (if 0 ≤ v1.toInt ∧ v1.toInt < l5.toInt ∧ 0 ≤ v2.toInt ∧ v2.toInt < 4 ∧ 4 * v1.toInt + v2.toInt < us.toInt then f0 (4 * v1.toInt + v2.toInt).toNat else -1); rw [if_neg (by omega)]), by rw [ht]; exact hP9, hD9⟩, hS.F ht⟩) hS.2.2 dX5_at_22
      · simp only [i_lt, i_le, i_eq, ti_0] at c_3
        refine lv_iload_n hx hb dX5_at_16 rfl (lv_at hl 2 rfl) ?_
        refine lv_iconst (v := 4) hx hb dX5_at_17 (by decide) ?_
        refine lv_icmp_lt (tgt := 23) hx hb dX5_at_18 (by decide) (fun c_4 => ?_) (fun c_4 => ?_)
        · simp only [i_lt, i_le, i_eq, ti_4] at c_4
          refine lv_iconst (v := 4) hx hb dX5_at_23 (by decide) ?_
          refine lv_iload_n hx hb dX5_at_24 rfl (lv_at hl 1 rfl) ?_
          refine lv_imul hx hb dX5_at_25 ?_
          refine lv_topi (fun z_5 ez_5 => ?_)
          have tz_5 : z_5.toInt = 4 * v1.toInt := ar_mul ti_4 rfl ez_5 (by omega)
          refine lv_iload_n hx hb dX5_at_26 rfl (lv_at hl 2 rfl) ?_
          refine lv_iadd hx hb dX5_at_27 ?_
          refine lv_topi (fun z_6 ez_6 => ?_)
          have tz_6 : z_6.toInt = z_5.toInt + v2.toInt := ar_add rfl rfl ez_6 (by omega)
          refine lv_istore_n (lv' := [(3, .int z_6), (0, .ref g0), (1, .int v1), (2, .int v2)]) hx hb dX5_at_28 rfl hl (by decide) rfl (fun ls hl => ?_)
          refine lv_aload_n hx hb dX5_at_29 rfl (lv_at hl 1 rfl) ?_
          refine va_get (D := (dC, dI)) (ci := 5) (v := .ref h0) (C := RX5) (T := TX5) (N := 2) hx hb hg gb_5 hown hK hP 0 rfl rfl 1 (by decide) (hg _ gm_fieldLink_RX5_20_ErrandGuild_Ledger_cells_LErrandGuild_Cells_) (fun _ h9 => h9) rfl dX5_at_30 ?_
          refine lv_iload_n hx hb dX5_at_33 rfl (lv_at hl 0 rfl) ?_
          have hPc := hP.sub (ws' := [(h0, .inr (0, [.int lm, .ref w0, .int us])), (w0, .inl (k0, cn, .inl f0))]) [1, 2] rfl
          have hDc := hD.sub (ws' := [(h0, .inr (0, [.int lm, .ref w0, .int us])), (w0, .inl (k0, cn, .inl f0))]) [1, 2] (by decide) rfl
          have hKc := hK.sub (tys' := [(k0, .int)]) [0] rfl
          have hFc := va_free (wc := [(h0, .inr (0, [.int lm, .ref w0, .int us])), (w0, .inl (k0, cn, .inl f0))]) hD hS hA [1, 2] rfl
          refine va_calli (va_runV (As := [.int z_6]) (rest := []) ⟨hx, hb, hml, hown, hg⟩ (c_X0_has l dC dI h0 w0 cn k0 f0 lm us z_6 s.heap.size (hcn) (hus)) (cwV 1 hg (gw_V gm_methodLink_RX5_30_yX0_has gm_instanceMethod_yX0_has gm_selects_RX0_yX0_has_yX0_has gm_initialized_RX0 gm_code_yX0_has_cX0_has_2_some_boolean_) rfl rfl rfl (by decide +kernel) ⟨Nat.le_of_ble_eq_true rfl, Nat.le_of_ble_eq_true rfl⟩) ⟨fun a U g mk q => by obtain ⟨q0, q1, qP, qK, qD, qN⟩ := q; exact ⟨q0, q1, qP, va_K.moved (u := U) (U := U.calling g mk a) (Vm.Alike.refl U.vm) qK, qD, nx_same (u := U) (U := U.calling g mk a) rfl qN⟩, va_recv hKc hPc (ci := 0) (q0 := 0) rfl rfl, fun U hU hW => ⟨rfl, by rw [hU], by rw [hU]; exact hPc, va_K.moved hW.alike hKc, hDc.weaken (fun _ _ _ _ => trivial), nx_warm hW hN⟩⟩ rfl rfl hl.1 rfl (lv_room (Nat.le_of_ble_eq_true rfl)) dX5_at_34 ⟨Nat.le_of_ble_eq_true rfl, Nat.le_of_ble_eq_true rfl⟩) hS (fun q _ h => hFc q h) hFc (fun r_7 u_8 t H1 locs ht hvm hw hB hz1 hk1 hS => ?_)
          obtain ⟨hP1, hD1⟩ := hB
          rw [ht] at hP1
          obtain ⟨hP, hD⟩ := va_join (wr := [(g0, .inr (5, [.int l5, .ref h0]))]) (w1 := [(h0, .inr (0, [.int lm, .ref w0, .int us])), (w0, .inl (k0, cn, .inl f0))]) hP hD [1, 2] [0] rfl rfl (by decide) (by decide +kernel) hk1 hFc hP1 hD1
          generalize H1 = H at hP hS ⊢
          have hP : va_P (dC, dI) vwCl [(g0, .inr (5, [.int l5, .ref h0])), (h0, .inr (0, [.int lm, .ref w0, .int us])), (w0, .inl (k0, cn, .inl f0))] H := hP
          have hD : va_D A [(g0, .inr (5, [.int l5, .ref h0])), (h0, .inr (0, [.int lm, .ref w0, .int us])), (w0, .inl (k0, cn, .inl f0))] := hD
          refine W.widen (k := 0) (n := 0) (Nat.le_of_ble_eq_true rfl) (Nat.le_of_ble_eq_true rfl) ?_
          rcases hw with ⟨rfl, w_9⟩ | ⟨rfl, w_9⟩
          · refine lv_if_eq (tgt := 51) hx hb dX5_at_37 (by decide) (fun c_10 => absurd c_10 (by decide)) (fun _ => ?_)
            refine lv_aload_n hx hb dX5_at_40 rfl (lv_at hl 1 rfl) ?_
            refine va_get (D := (dC, dI)) (ci := 5) (v := .ref h0) (C := RX5) (T := TX5) (N := 2) hx hb hg gb_5 hown hK hP 0 rfl rfl 1 (by decide) (hg _ gm_fieldLink_RX5_20_ErrandGuild_Ledger_cells_LErrandGuild_Cells_) (fun _ h9 => h9) rfl dX5_at_41 ?_
            refine lv_iload_n hx hb dX5_at_44 rfl (lv_at hl 0 rfl) ?_
            have hPc := hP.sub (ws' := [(h0, .inr (0, [.int lm, .ref w0, .int us])), (w0, .inl (k0, cn, .inl f0))]) [1, 2] rfl
            have hDc := hD.sub (ws' := [(h0, .inr (0, [.int lm, .ref w0, .int us])), (w0, .inl (k0, cn, .inl f0))]) [1, 2] (by decide) rfl
            have hKc := hK.sub (tys' := [(k0, .int)]) [0] rfl
            have hFc := va_free (wc := [(h0, .inr (0, [.int lm, .ref w0, .int us])), (w0, .inl (k0, cn, .inl f0))]) hD hS hA [1, 2] rfl
            refine va_calli (va_runV (As := [.int z_6]) (rest := []) ⟨hx, hb, hml, hown, hg⟩ (c_X0_at l dC dI h0 w0 cn k0 f0 lm us z_6 H.size (hcn) (hus)) (cwV 1 hg (gw_V gm_methodLink_RX5_34_yX0_at gm_instanceMethod_yX0_at gm_selects_RX0_yX0_at_yX0_at gm_initialized_RX0 gm_code_yX0_at_cX0_at_2_some_int_) rfl rfl rfl (by decide +kernel) ⟨Nat.le_of_ble_eq_true rfl, Nat.le_of_ble_eq_true rfl⟩) ⟨fun a U g mk q => by obtain ⟨q0, q1, qP, qK, qD, qN⟩ := q; exact ⟨q0, q1, qP, va_K.moved (u := U) (U := U.calling g mk a) (Vm.Alike.refl U.vm) qK, qD, nx_same (u := U) (U := U.calling g mk a) rfl qN⟩, va_recv hKc hPc (ci := 0) (q0 := 0) rfl rfl, fun U hU hW => ⟨rfl, by rw [hU], by rw [hU]; exact hPc, va_K.moved hW.alike hKc, hDc.weaken (fun _ _ _ _ => trivial), nx_warm hW hN⟩⟩ rfl rfl hl.1 rfl (lv_room (Nat.le_of_ble_eq_true rfl)) dX5_at_45 ⟨Nat.le_of_ble_eq_true rfl, Nat.le_of_ble_eq_true rfl⟩) hS (fun q _ h => hFc q h) hFc (fun r_11 u_12 t H1 locs ht hvm hw hB hz1 hk1 hS => ?_)
            obtain ⟨hP1, hD1⟩ := hB
            rw [ht] at hP1
            obtain ⟨hP, hD⟩ := va_join (wr := [(g0, .inr (5, [.int l5, .ref h0]))]) (w1 := [(h0, .inr (0, [.int lm, .ref w0, .int us])), (w0, .inl (k0, cn, .inl f0))]) hP hD [1, 2] [0] rfl rfl (by decide) (by decide +kernel) hk1 hFc hP1 hD1
            generalize H1 = H at hP hS ⊢
            have hP : va_P (dC, dI) vwCl [(g0, .inr (5, [.int l5, .ref h0])), (h0, .inr (0, [.int lm, .ref w0, .int us])), (w0, .inl (k0, cn, .inl f0))] H := hP
            have hD : va_D A [(g0, .inr (5, [.int l5, .ref h0])), (h0, .inr (0, [.int lm, .ref w0, .int us])), (w0, .inl (k0, cn, .inl f0))] := hD
            refine W.widen (k := 0) (n := 0) (Nat.le_of_ble_eq_true rfl) (Nat.le_of_ble_eq_true rfl) ?_
            have w_13 := hw
            try dsimp +instances only [c9n, c9f, c9T, c9G, c9K, c9F, q10F, q10n] at w_13
            refine lv_goto (tgt := 52) hx hb dX5_at_48 (by decide) ?_
            have hP9 := hP.sub (ws' := [(g0, .inr (5, [.int l5, .ref h0])), (h0, .inr (0, [.int lm, .ref w0, .int us])), (w0, .inl (k0, cn, .inl f0))]) [0, 1, 2] rfl
            have hD9 := hD.sub (ws' := [(g0, .inr (5, [.int l5, .ref h0])), (h0, .inr (0, [.int lm, .ref w0, .int us])), (w0, .inl (k0, cn, .inl f0))]) [0, 1, 2] (by decide) rfl
            exact W.iret (v := r_11) hx hb hr (fun t ht hW => ⟨⟨r_11, (), rfl, (by have q_ := w_13; show r_11 = (if 0 ≤ v1.toInt ∧ v1.toInt < l5.toInt ∧ 0 ≤ v2.toInt ∧ v2.toInt < 4 ∧ 4 * v1.toInt + v2.toInt < us.toInt then f0 (4 * v1.toInt + v2.toInt).toNat else -1); rw [if_pos (by omega), q_]; unfold cAt; rw [if_pos (by omega), cl_eq]; congr 1; omega), by rw [ht]; exact hP9, hD9⟩, hS.F ht⟩) hS.2.2 dX5_at_52
          · refine lv_if_eq (tgt := 51) hx hb dX5_at_37 (by decide) (fun _ => ?_) (fun c_14 => absurd c_14 (by decide))
            refine lv_iconst (v := -1) hx hb dX5_at_51 (by decide) ?_
            have hP9 := hP.sub (ws' := [(g0, .inr (5, [.int l5, .ref h0])), (h0, .inr (0, [.int lm, .ref w0, .int us])), (w0, .inl (k0, cn, .inl f0))]) [0, 1, 2] rfl
            have hD9 := hD.sub (ws' := [(g0, .inr (5, [.int l5, .ref h0])), (h0, .inr (0, [.int lm, .ref w0, .int us])), (w0, .inl (k0, cn, .inl f0))]) [0, 1, 2] (by decide) rfl
            exact W.iret (v := -1) hx hb hr (fun t ht hW => ⟨⟨-1, (), rfl, (by show (-1 : Int32) = (if 0 ≤ v1.toInt ∧ v1.toInt < l5.toInt ∧ 0 ≤ v2.toInt ∧ v2.toInt < 4 ∧ 4 * v1.toInt + v2.toInt < us.toInt then f0 (4 * v1.toInt + v2.toInt).toNat else -1); rw [if_neg (by omega)]), by rw [ht]; exact hP9, hD9⟩, hS.F ht⟩) hS.2.2 dX5_at_52
        · simp only [i_lt, i_le, i_eq, ti_4] at c_4
          refine lv_iconst (v := -1) hx hb dX5_at_21 (by decide) ?_
          have hP9 := hP.sub (ws' := [(g0, .inr (5, [.int l5, .ref h0])), (h0, .inr (0, [.int lm, .ref w0, .int us])), (w0, .inl (k0, cn, .inl f0))]) [0, 1, 2] rfl
          have hD9 := hD.sub (ws' := [(g0, .inr (5, [.int l5, .ref h0])), (h0, .inr (0, [.int lm, .ref w0, .int us])), (w0, .inl (k0, cn, .inl f0))]) [0, 1, 2] (by decide) rfl
          exact W.iret (v := -1) hx hb hr (fun t ht hW => ⟨⟨-1, (), rfl, (by show (-1 : Int32) = (if 0 ≤ v1.toInt ∧ v1.toInt < l5.toInt ∧ 0 ≤ v2.toInt ∧ v2.toInt < 4 ∧ 4 * v1.toInt + v2.toInt < us.toInt then f0 (4 * v1.toInt + v2.toInt).toNat else -1); rw [if_neg (by omega)]), by rw [ht]; exact hP9, hD9⟩, hS.F ht⟩) hS.2.2 dX5_at_22

set_option maxHeartbeats 4000000 in
set_option maxRecDepth 100000 in
theorem c_X5_clear (l : Launch) (dC : Nat → ClassId) (dI : Nat → Nat → Nat) (g0 : Nat) (h0 : Nat) (w0 : Nat) (l5 : Int32) (lm : Int32) (us : Int32) (sz : Nat)  : Met l yX5_clear (.code yX5_clear cX5_clear 1 none :: gw) ({ frames := 1, cells := 0, slots := 0, locals := 20 }) (va_Pc [.ref g0] (fun U => U.heap.size = sz ∧ va_P (dC, dI) vwCl [(g0, .inr (5, [.int l5, .ref h0])), (h0, .inr (0, [.int lm, .ref w0, .int us]))] U.heap ∧ va_K (dC, dI) vwCl [] U ∧ va_D (fun _ => True) [(g0, .inr (5, [.int l5, .ref h0])), (h0, .inr (0, [.int lm, .ref w0, .int us]))] ∧ nx U)) (va_Qv (fun (u : wS) => True) (fun u t => va_P (dC, dI) vwCl [(g0, .inr (5, [.int l5, .ref h0])), (h0, .inr (0, [.int lm, .ref w0, .int 0]))] t.heap ∧ va_D (va_A [(g0, .inr (5, [.int l5, .ref h0])), (h0, .inr (0, [.int lm, .ref w0, .int us]))] sz) [(g0, .inr (5, [.int l5, .ref h0])), (h0, .inr (0, [.int lm, .ref w0, .int 0]))] ∧ va_K (dC, dI) vwCl [] t) (va_A [(g0, .inr (5, [.int l5, .ref h0])), (h0, .inr (0, [.int lm, .ref w0, .int us]))] sz)) 0 0 (va_A [(g0, .inr (5, [.int l5, .ref h0])), (h0, .inr (0, [.int lm, .ref w0, .int us]))] sz) := by
  refine Met.ofW (cc := cX5_clear) (maxL := 1) (ret := none) (by decide) rfl ?_
  intro p e s m args below meth c s₁ B hml hv
  obtain ⟨rfl, hsz, hP, hK, hD0, hN⟩ := hv
  have hx := B.exec
  have hb := B.bytes
  have hr := B.returns
  have hts := atoms_spec (ws := .code yX5_clear cX5_clear 1 none :: gw) B.pre
  have hg : ∀ w ∈ gw, w.before _ s = true := fun w h => hts w (List.mem_cons_of_mem _ h)
  have hown : s.vm.findClass RX5 = some m.cls := findClass_of_methodNamed B.named
  have hlocks := B.notSynchronized
  subst hsz
  have hD := hD0.self (sz := s.heap.size)
  generalize hAe : va_A [(g0, .inr (5, [.int l5, .ref h0])), (h0, .inr (0, [.int lm, .ref w0, .int us]))] s.heap.size = A at hD ⊢
  have hA : ∀ q : Nat, s.heap.size ≤ q → A q := fun q h => by rw [← hAe]; exact Or.inr h
  have hS : va_S A s.heap s.heap [] := va_S.rf
  have hP : va_P (dC, dI) vwCl [(g0, .inr (5, [.int l5, .ref h0])), (h0, .inr (0, [.int lm, .ref w0, .int us]))] s.heap := hP
  have hl := lv_entry ([.ref g0]) (n := 1) (Nat.le_of_ble_eq_true rfl)
  rw [lg_entry_eq]
  generalize (lg_sl ([.ref g0]) ++ List.replicate (1 - (lg_sl ([.ref g0])).length) Slot.unset).toArray = ls at hl ⊢
  have hl : lv_has ls 1 [(0, .ref g0)] := hl
  refine lv_aload_n hx hb dX5_clear_0 rfl (lv_at hl 0 rfl) ?_
  refine va_get (D := (dC, dI)) (ci := 5) (v := .ref h0) (C := RX5) (T := TX5) (N := 2) hx hb hg gb_5 hown hK hP 0 rfl rfl 1 (by decide) (hg _ gm_fieldLink_RX5_20_ErrandGuild_Ledger_cells_LErrandGuild_Cells_) (fun _ h9 => h9) rfl dX5_clear_1 ?_
  have hPc := hP.sub (ws' := [(h0, .inr (0, [.int lm, .ref w0, .int us]))]) [1] rfl
  have hDc := hD.sub (ws' := [(h0, .inr (0, [.int lm, .ref w0, .int us]))]) [1] (by decide) rfl
  have hKc := hK.sub (tys' := []) [] rfl
  have hFc := va_free (wc := [(h0, .inr (0, [.int lm, .ref w0, .int us]))]) hD hS hA [1] rfl
  refine va_callv (va_runV (As := []) (rest := []) ⟨hx, hb, hml, hown, hg⟩ (c_X0_clear l dC dI h0 w0 lm us s.heap.size ) (cwV 0 hg (gw_V gm_methodLink_RX5_24_yX0_clear gm_instanceMethod_yX0_clear gm_selects_RX0_yX0_clear_yX0_clear gm_initialized_RX0 gm_code_yX0_clear_cX0_clear_1_none) rfl rfl rfl (by decide +kernel) ⟨Nat.le_of_ble_eq_true rfl, Nat.le_of_ble_eq_true rfl⟩) ⟨fun a U g mk q => by obtain ⟨q0, q1, qP, qK, qD, qN⟩ := q; exact ⟨q0, q1, qP, va_K.moved (u := U) (U := U.calling g mk a) (Vm.Alike.refl U.vm) qK, qD, nx_same (u := U) (U := U.calling g mk a) rfl qN⟩, va_recv hKc hPc (ci := 0) (q0 := 0) rfl rfl, fun U hU hW => ⟨rfl, by rw [hU], by rw [hU]; exact hPc, va_K.moved hW.alike hKc, hDc.weaken (fun _ _ _ _ => trivial), nx_warm hW hN⟩⟩ rfl rfl hl.1 rfl (lv_room (Nat.le_of_ble_eq_true rfl)) dX5_clear_4 ⟨Nat.le_of_ble_eq_true rfl, Nat.le_of_ble_eq_true rfl⟩) hS (fun q _ h => hFc q h) hFc (fun u_2 t H1 locs ht hvm hw hB hz1 hk1 hS => ?_)
  obtain ⟨ad_3, ac_4, af_5, ag_6⟩ := u_2
  obtain ⟨hP1, hD1, hK1⟩ := hB
  rw [ht] at hP1
  have hK1 := va_K.moved hvm.symm hK1
  obtain ⟨hP, hD⟩ := va_join (wr := [(g0, .inr (5, [.int l5, .ref h0]))]) (w1 := [(h0, .inr (0, [.int lm, .ref w0, .int 0]))]) hP hD [1] [0] rfl rfl (by decide) (by decide +kernel) hk1 hFc hP1 hD1
  generalize H1 = H at hP hS ⊢
  have hP : va_P (dC, dI) vwCl [(g0, .inr (5, [.int l5, .ref h0])), (h0, .inr (0, [.int lm, .ref w0, .int 0]))] H := hP
  have hD : va_D A [(g0, .inr (5, [.int l5, .ref h0])), (h0, .inr (0, [.int lm, .ref w0, .int 0]))] := hD
  refine W.widen (k := 0) (n := 0) (Nat.le_of_ble_eq_true rfl) (Nat.le_of_ble_eq_true rfl) ?_
  have hP9 := hP.sub (ws' := [(g0, .inr (5, [.int l5, .ref h0])), (h0, .inr (0, [.int lm, .ref w0, .int 0]))]) [0, 1] rfl
  have hD9 := hD.sub (ws' := [(g0, .inr (5, [.int l5, .ref h0])), (h0, .inr (0, [.int lm, .ref w0, .int 0]))]) [0, 1] (by decide) rfl
  have hK9 := hK.sub (tys' := []) [] rfl
  exact W.vret hx hb hr (fun t ht hW => ⟨⟨((fun _ => 0), (fun _ => (dC 0)), (fun _ => (fun _ => 0)), (fun _ => (fun _ => none))), rfl, trivial, by rw [ht]; exact hP9, hD9, va_K.moved hW.alike hK9⟩, hS.F ht⟩) hS.2.2 dX5_clear_7

theorem clr8_0 (g : Nat → Int32) : clr8 g 0 = g := by funext j; simp [clr8]
theorem clr8_up (g : Nat → Int32) (k : Nat) : upd (clr8 g k) k 0 = clr8 g (k + 1) := by
  funext j
  unfold upd clr8
  by_cases h : j = k
  · rw [if_pos h, if_pos (by omega)]
  · rw [if_neg h]
    by_cases h2 : j < k
    · rw [if_pos h2, if_pos (by omega)]
    · rw [if_neg h2, if_neg (by omega)]

set_option maxHeartbeats 4000000 in
set_option maxRecDepth 100000 in
theorem c_X6_clear (l : Launch) (dC : Nat → ClassId) (dI : Nat → Nat → Nat) (h0 : Nat) (w0 : Nat) (w1 : Nat) (w2 : Nat) (k0 : ClassId) (k2 : ClassId) (f0 : Nat → Int32) (f2 : Nat → Int32) (sz : Nat)  : Met l yX6_clear (.code yX6_clear cX6_clear 2 none :: gw) ({ frames := 0, cells := 0, slots := 0, locals := 0 }) (va_Pc [.ref h0] (fun U => U.heap.size = sz ∧ va_P (dC, dI) vwCl [(h0, .inr (6, [.ref w0, .ref w1, .ref w2])), (w0, .inl (k0, 8, .inl f0)), (w2, .inl (k2, 8, .inl f2))] U.heap ∧ va_K (dC, dI) vwCl [(k0, .boolean), (k2, .int)] U ∧ va_D (fun _ => True) [(h0, .inr (6, [.ref w0, .ref w1, .ref w2])), (w0, .inl (k0, 8, .inl f0)), (w2, .inl (k2, 8, .inl f2))] ∧ nx U)) (va_Qv (fun (u : wS) => True) (fun u t => va_P (dC, dI) vwCl [(h0, .inr (6, [.ref w0, .ref w1, .ref w2])), (w0, .inl (k0, 8, .inl (u.2.2.1 0))), (w2, .inl (k2, 8, .inl (u.2.2.1 2)))] t.heap ∧ va_D (va_A [(h0, .inr (6, [.ref w0, .ref w1, .ref w2])), (w0, .inl (k0, 8, .inl f0)), (w2, .inl (k2, 8, .inl f2))] sz) [(h0, .inr (6, [.ref w0, .ref w1, .ref w2])), (w0, .inl (k0, 8, .inl (u.2.2.1 0))), (w2, .inl (k2, 8, .inl (u.2.2.1 2)))] ∧ va_K (dC, dI) vwCl [] t ∧ (u.2.2.1 0) = clr8 f0 8 ∧ (u.2.2.1 2) = clr8 f2 8) (va_A [(h0, .inr (6, [.ref w0, .ref w1, .ref w2])), (w0, .inl (k0, 8, .inl f0)), (w2, .inl (k2, 8, .inl f2))] sz)) 0 0 (va_A [(h0, .inr (6, [.ref w0, .ref w1, .ref w2])), (w0, .inl (k0, 8, .inl f0)), (w2, .inl (k2, 8, .inl f2))] sz) := by
  refine Met.ofW (cc := cX6_clear) (maxL := 2) (ret := none) (by decide) rfl ?_
  intro p e s m args below meth c s₁ B hml hv
  obtain ⟨rfl, hsz, hP, hK, hD0, hN⟩ := hv
  have hx := B.exec
  have hb := B.bytes
  have hr := B.returns
  have hts := atoms_spec (ws := .code yX6_clear cX6_clear 2 none :: gw) B.pre
  have hg : ∀ w ∈ gw, w.before _ s = true := fun w h => hts w (List.mem_cons_of_mem _ h)
  have hown : s.vm.findClass RX6 = some m.cls := findClass_of_methodNamed B.named
  have hlocks := B.notSynchronized
  subst hsz
  have hD := hD0.self (sz := s.heap.size)
  generalize hAe : va_A [(h0, .inr (6, [.ref w0, .ref w1, .ref w2])), (w0, .inl (k0, 8, .inl f0)), (w2, .inl (k2, 8, .inl f2))] s.heap.size = A at hD ⊢
  have hA : ∀ q : Nat, s.heap.size ≤ q → A q := fun q h => by rw [← hAe]; exact Or.inr h
  have hS : va_S A s.heap s.heap [] := va_S.rf
  have hP : va_P (dC, dI) vwCl [(h0, .inr (6, [.ref w0, .ref w1, .ref w2])), (w0, .inl (k0, 8, .inl f0)), (w2, .inl (k2, 8, .inl f2))] s.heap := hP
  have hl := lv_entry ([.ref h0]) (n := 2) (Nat.le_of_ble_eq_true rfl)
  rw [lg_entry_eq]
  generalize (lg_sl ([.ref h0]) ++ List.replicate (2 - (lg_sl ([.ref h0])).length) Slot.unset).toArray = ls at hl ⊢
  have hl : lv_has ls 2 [(0, .ref h0)] := hl
  refine lv_iconst (v := 0) hx hb dX6_clear_0 (by decide) ?_
  refine lv_istore_n (lv' := [(1, .int 0), (0, .ref h0)]) hx hb dX6_clear_1 rfl hl (by decide) rfl (fun ls hl => ?_)
  have L2 : ∀ (fuel : Nat) (x_1 : Int32) (f_2 : Nat → Int32) (f_3 : Nat → Int32) (H : Heap) (locs : List Loc) (ls : Array Slot), (9 - x_1.toInt).toNat < fuel → (0 ≤ x_1.toInt ∧ x_1.toInt ≤ 8) → (f_2 = clr8 f0 (Int32.toNatClampNeg x_1)) → (f_3 = clr8 f2 (Int32.toNatClampNeg x_1)) → va_P (dC, dI) vwCl [(h0, .inr (6, [.ref w0, .ref w1, .ref w2])), (w0, .inl (k0, 8, .inl f_2)), (w2, .inl (k2, 8, .inl f_3))] H → va_D A [(h0, .inr (6, [.ref w0, .ref w1, .ref w2])), (w0, .inl (k0, 8, .inl f_2)), (w2, .inl (k2, 8, .inl f_3))] → va_S A s.heap H locs → lv_has ls 2 [(1, .int x_1), (0, .ref h0)] → W p l e (headSpec (.code yX6_clear cX6_clear 2 none :: gw) ({ frames := 0, cells := 0, slots := 0, locals := 0 })).room s m ([.ref h0] : List Value).toArray below meth c H locs 0 0 (MQ below (va_Qv (fun (u : wS) => True) (fun u t => va_P (dC, dI) vwCl [(h0, .inr (6, [.ref w0, .ref w1, .ref w2])), (w0, .inl (k0, 8, .inl (u.2.2.1 0))), (w2, .inl (k2, 8, .inl (u.2.2.1 2)))] t.heap ∧ va_D A [(h0, .inr (6, [.ref w0, .ref w1, .ref w2])), (w0, .inl (k0, 8, .inl (u.2.2.1 0))), (w2, .inl (k2, 8, .inl (u.2.2.1 2)))] ∧ va_K (dC, dI) vwCl [] t ∧ (u.2.2.1 0) = clr8 f0 8 ∧ (u.2.2.1 2) = clr8 f2 8) A) ([.ref h0] : List Value).toArray s 0 0 A) (F0 m 2 ls []) := by
    intro fuel
    induction fuel with
    | zero => intro x_1 f_2 f_3 H locs ls hm; exact absurd hm (Nat.not_lt_zero _)
    | succ fuel_5 ih_4 =>
      intro x_1 f_2 f_3 H locs ls hm_6 v_7 v_8 v_9 hP hD hS hl
      refine lv_iload_n hx hb dX6_clear_2 rfl (lv_at hl 0 rfl) ?_
      refine lv_bipush (v := 8) hx hb dX6_clear_3 (by decide) ?_
      refine lv_icmp_ge (tgt := 28) hx hb dX6_clear_5 (by decide) (fun c_10 => ?_) (fun c_10 => ?_)
      · simp only [i_lt, i_le, i_eq, ti_8] at c_10
        have hP9 := hP.sub (ws' := [(h0, .inr (6, [.ref w0, .ref w1, .ref w2])), (w0, .inl (k0, 8, .inl f_2)), (w2, .inl (k2, 8, .inl f_3))]) [0, 1, 2] rfl
        have hD9 := hD.sub (ws' := [(h0, .inr (6, [.ref w0, .ref w1, .ref w2])), (w0, .inl (k0, 8, .inl f_2)), (w2, .inl (k2, 8, .inl f_3))]) [0, 1, 2] (by decide) rfl
        have hK9 := hK.sub (tys' := []) [] rfl
        exact W.vret hx hb hr (fun t ht hW => ⟨⟨((fun _ => 0), (fun _ => (dC 0)), (fun k => ([f_2, (fun _ => 0), f_3] : List (Nat → Int32)).getD k (fun _ => 0)), (fun _ => (fun _ => none))), rfl, trivial, by rw [ht]; exact hP9, hD9, va_K.moved hW.alike hK9, (by show f_2 = clr8 f0 8; rw [v_8, show Int32.toNatClampNeg x_1 = 8 by have := cl_eq x_1; omega]), (by show f_3 = clr8 f2 8; rw [v_9, show Int32.toNatClampNeg x_1 = 8 by have := cl_eq x_1; omega])⟩, hS.F ht⟩) hS.2.2 dX6_clear_28
      · simp only [i_lt, i_le, i_eq, ti_8] at c_10
        refine lv_aload_n hx hb dX6_clear_8 rfl (lv_at hl 1 rfl) ?_
        refine va_get (D := (dC, dI)) (ci := 6) (v := .ref w0) (C := RX6) (T := TX6) (N := 3) hx hb hg gb_6 hown hK hP 0 rfl rfl 0 (by decide) (hg _ gm_fieldLink_RX6_9_ErrandGuild_Memory_wrote_AZ_) (fun _ h9 => h9) rfl dX6_clear_9 ?_
        refine lv_iload_n hx hb dX6_clear_12 rfl (lv_at hl 0 rfl) ?_
        refine lv_iconst (v := 0) hx hb dX6_clear_13 (by decide) ?_
        refine va_zast hx hb hK hP hD hS 1 0 rfl rfl (vp_in_iff.mpr ⟨by omega, by omega⟩) dX6_clear_14 (fun H locs hP hD hS => ?_)
        have hP : va_P (dC, dI) vwCl [(h0, .inr (6, [.ref w0, .ref w1, .ref w2])), (w0, .inl (k0, 8, .inl (upd f_2 (Int32.toNatClampNeg x_1) (vp_nar .boolean 0)))), (w2, .inl (k2, 8, .inl f_3))] H := hP
        have hD : va_D A [(h0, .inr (6, [.ref w0, .ref w1, .ref w2])), (w0, .inl (k0, 8, .inl (upd f_2 (Int32.toNatClampNeg x_1) (vp_nar .boolean 0)))), (w2, .inl (k2, 8, .inl f_3))] := hD
        refine lv_aload_n hx hb dX6_clear_15 rfl (lv_at hl 1 rfl) ?_
        refine va_get (D := (dC, dI)) (ci := 6) (v := .ref w2) (C := RX6) (T := TX6) (N := 3) hx hb hg gb_6 hown hK hP 0 rfl rfl 2 (by decide) (hg _ gm_fieldLink_RX6_19_ErrandGuild_Memory_given_AI_) (fun _ h9 => h9) rfl dX6_clear_16 ?_
        refine lv_iload_n hx hb dX6_clear_19 rfl (lv_at hl 0 rfl) ?_
        refine lv_iconst (v := 0) hx hb dX6_clear_20 (by decide) ?_
        refine va_iast hx hb hK hP hD hS 2 1 rfl rfl (vp_in_iff.mpr ⟨by omega, by omega⟩) dX6_clear_21 (fun H locs hP hD hS => ?_)
        have hP : va_P (dC, dI) vwCl [(h0, .inr (6, [.ref w0, .ref w1, .ref w2])), (w0, .inl (k0, 8, .inl (upd f_2 (Int32.toNatClampNeg x_1) (vp_nar .boolean 0)))), (w2, .inl (k2, 8, .inl (upd f_3 (Int32.toNatClampNeg x_1) 0)))] H := hP
        have hD : va_D A [(h0, .inr (6, [.ref w0, .ref w1, .ref w2])), (w0, .inl (k0, 8, .inl (upd f_2 (Int32.toNatClampNeg x_1) (vp_nar .boolean 0)))), (w2, .inl (k2, 8, .inl (upd f_3 (Int32.toNatClampNeg x_1) 0)))] := hD
        obtain ⟨y_11, ey_11⟩ : ∃ q : Int32, q = x_1 + (1) := ⟨_, rfl⟩
        refine lv_iinc (v := y_11) (lv' := [(1, .int y_11), (0, .ref h0)]) hx hb dX6_clear_22 hl (k := 0) rfl (by rw [ey_11]; rfl) (by decide) rfl (fun ls hl => ?_)
        have ty_11 : y_11.toInt = x_1.toInt + (1) := ar_add rfl ti_1 ey_11 (by omega)
        refine lv_goto (tgt := 2) hx hb dX6_clear_25 (by decide) ?_
        exact ih_4 y_11 (upd f_2 (Int32.toNatClampNeg x_1) (vp_nar .boolean 0)) (upd f_3 (Int32.toNatClampNeg x_1) 0) H locs ls (by omega) (by omega) (by show (upd f_2 (Int32.toNatClampNeg x_1) (vp_nar .boolean 0)) = clr8 f0 (Int32.toNatClampNeg y_11); have c1_ := cl_eq x_1; have c2_ := cl_eq y_11; rw [v_8, show Int32.toNatClampNeg y_11 = Int32.toNatClampNeg x_1 + 1 by omega]; rw [nb0]; exact clr8_up _ _) (by show (upd f_3 (Int32.toNatClampNeg x_1) 0) = clr8 f2 (Int32.toNatClampNeg y_11); have c1_ := cl_eq x_1; have c2_ := cl_eq y_11; rw [v_9, show Int32.toNatClampNeg y_11 = Int32.toNatClampNeg x_1 + 1 by omega]; exact clr8_up _ _) hP hD hS (lv_sub hl [0, 1] rfl)
  exact L2 _ (0 : Int32) f0 f2 _ _ _ (Nat.lt_succ_self _) (by have t_0 := ti_0; omega) (by rw [ix_0]; exact (clr8_0 _).symm) (by rw [ix_0]; exact (clr8_0 _).symm) hP hD hS (lv_sub hl [0, 1] rfl)

set_option maxHeartbeats 4000000 in
set_option maxRecDepth 100000 in
theorem c_X6_write (l : Launch) (dC : Nat → ClassId) (dI : Nat → Nat → Nat) (h0 : Nat) (w0 : Nat) (w1 : Nat) (w2 : Nat) (k0 : ClassId) (k1 : ClassId) (f0 : Nat → Int32) (f1 : Nat → Int32) (v1 : Int32) (v2 : Int32) (sz : Nat)  : Met l yX6_write (.code yX6_write cX6_write 3 none :: gw) ({ frames := 1, cells := 0, slots := 0, locals := 20 }) (va_Pc [.ref h0, .int v1, .int v2] (fun U => U.heap.size = sz ∧ va_P (dC, dI) vwCl [(h0, .inr (6, [.ref w0, .ref w1, .ref w2])), (w0, .inl (k0, 8, .inl f0)), (w1, .inl (k1, 8, .inl f1))] U.heap ∧ va_K (dC, dI) vwCl [(k0, .boolean), (k1, .int)] U ∧ va_D (fun _ => True) [(h0, .inr (6, [.ref w0, .ref w1, .ref w2])), (w0, .inl (k0, 8, .inl f0)), (w1, .inl (k1, 8, .inl f1))] ∧ nx U)) (va_Qv (fun (u : wS) => True) (fun u t => va_P (dC, dI) vwCl [(h0, .inr (6, [.ref w0, .ref w1, .ref w2])), (w0, .inl (k0, 8, .inl (u.2.2.1 0))), (w1, .inl (k1, 8, .inl (u.2.2.1 1)))] t.heap ∧ va_D (va_A [(h0, .inr (6, [.ref w0, .ref w1, .ref w2])), (w0, .inl (k0, 8, .inl f0)), (w1, .inl (k1, 8, .inl f1))] sz) [(h0, .inr (6, [.ref w0, .ref w1, .ref w2])), (w0, .inl (k0, 8, .inl (u.2.2.1 0))), (w1, .inl (k1, 8, .inl (u.2.2.1 1)))] ∧ va_K (dC, dI) vwCl [] t ∧ (u.2.2.1 0) = st8 f0 v1 1 ∧ (u.2.2.1 1) = st8 f1 v1 v2) (va_A [(h0, .inr (6, [.ref w0, .ref w1, .ref w2])), (w0, .inl (k0, 8, .inl f0)), (w1, .inl (k1, 8, .inl f1))] sz)) 0 0 (va_A [(h0, .inr (6, [.ref w0, .ref w1, .ref w2])), (w0, .inl (k0, 8, .inl f0)), (w1, .inl (k1, 8, .inl f1))] sz) := by
  refine Met.ofW (cc := cX6_write) (maxL := 3) (ret := none) (by decide) rfl ?_
  intro p e s m args below meth c s₁ B hml hv
  obtain ⟨rfl, hsz, hP, hK, hD0, hN⟩ := hv
  have hx := B.exec
  have hb := B.bytes
  have hr := B.returns
  have hts := atoms_spec (ws := .code yX6_write cX6_write 3 none :: gw) B.pre
  have hg : ∀ w ∈ gw, w.before _ s = true := fun w h => hts w (List.mem_cons_of_mem _ h)
  have hown : s.vm.findClass RX6 = some m.cls := findClass_of_methodNamed B.named
  have hlocks := B.notSynchronized
  subst hsz
  have hD := hD0.self (sz := s.heap.size)
  generalize hAe : va_A [(h0, .inr (6, [.ref w0, .ref w1, .ref w2])), (w0, .inl (k0, 8, .inl f0)), (w1, .inl (k1, 8, .inl f1))] s.heap.size = A at hD ⊢
  have hA : ∀ q : Nat, s.heap.size ≤ q → A q := fun q h => by rw [← hAe]; exact Or.inr h
  have hS : va_S A s.heap s.heap [] := va_S.rf
  have hP : va_P (dC, dI) vwCl [(h0, .inr (6, [.ref w0, .ref w1, .ref w2])), (w0, .inl (k0, 8, .inl f0)), (w1, .inl (k1, 8, .inl f1))] s.heap := hP
  have hl := lv_entry ([.ref h0, .int v1, .int v2]) (n := 3) (Nat.le_of_ble_eq_true rfl)
  rw [lg_entry_eq]
  generalize (lg_sl ([.ref h0, .int v1, .int v2]) ++ List.replicate (3 - (lg_sl ([.ref h0, .int v1, .int v2])).length) Slot.unset).toArray = ls at hl ⊢
  have hl : lv_has ls 3 [(0, .ref h0), (1, .int v1), (2, .int v2)] := hl
  refine lv_iload_n hx hb dX6_write_0 rfl (lv_at hl 1 rfl) ?_
  have hPc := hP.sub (ws' := []) [] rfl
  have hDc := hD.sub (ws' := []) [] (by decide) rfl
  have hKc := hK.sub (tys' := []) [] rfl
  have hFc := va_free (wc := []) hD hS hA [] rfl
  refine va_calli (va_runSN (As := [.int v1]) (rest := []) ⟨hx, hb, hml, hown, hg⟩ (c_X9_isSlot l dC dI v1 s.heap.size ) (⟨va_cnB 1 hg (gw_c gm_code_yX9_isSlot_cX9_isSlot_1_some_boolean_) rfl rfl rfl (nx_RX6_22 hN) (hg _ gm_initialized_RX9) (by decide +kernel) ⟨Nat.le_of_ble_eq_true rfl, Nat.le_of_ble_eq_true rfl⟩, hg _ gm_static_yX9_isSlot, trivial⟩) ⟨fun a U g mk q => by obtain ⟨q0, q1, qP, qK, qD, qN⟩ := q; exact ⟨q0, q1, qP, va_K.moved (u := U) (U := U.calling g mk a) (Vm.Alike.refl U.vm) qK, qD, nx_same (u := U) (U := U.calling g mk a) rfl qN⟩, fun U hU hW => ⟨rfl, by rw [hU], by rw [hU]; exact hPc, va_K.moved hW.alike hKc, hDc.weaken (fun _ _ _ _ => trivial), nx_warm hW hN⟩⟩ rfl rfl hl.1 rfl (lv_room (Nat.le_of_ble_eq_true rfl)) dX6_write_1 ⟨Nat.le_of_ble_eq_true rfl, Nat.le_of_ble_eq_true rfl⟩) hS (fun q _ h => hFc q h) hFc (fun r_1 u_2 t H1 locs ht hvm hw hB hz1 hk1 hS => ?_)
  have hP1 : va_P (dC, dI) vwCl [] H1 := nil_P
  have hD1 := nil_D (A := va_A [] s.heap.size)
  obtain ⟨hP, hD⟩ := va_join (wr := [(h0, .inr (6, [.ref w0, .ref w1, .ref w2])), (w0, .inl (k0, 8, .inl f0)), (w1, .inl (k1, 8, .inl f1))]) (w1 := []) hP hD [] [0, 1, 2] rfl rfl (by decide) (by decide +kernel) hk1 hFc hP1 hD1
  generalize H1 = H at hP hS ⊢
  have hP : va_P (dC, dI) vwCl [(h0, .inr (6, [.ref w0, .ref w1, .ref w2])), (w0, .inl (k0, 8, .inl f0)), (w1, .inl (k1, 8, .inl f1))] H := hP
  have hD : va_D A [(h0, .inr (6, [.ref w0, .ref w1, .ref w2])), (w0, .inl (k0, 8, .inl f0)), (w1, .inl (k1, 8, .inl f1))] := hD
  refine W.widen (k := 0) (n := 0) (Nat.le_of_ble_eq_true rfl) (Nat.le_of_ble_eq_true rfl) ?_
  rcases hw with ⟨rfl, w_3⟩ | ⟨rfl, w_3⟩
  · refine lv_if_eq (tgt := 21) hx hb dX6_write_4 (by decide) (fun c_4 => absurd c_4 (by decide)) (fun _ => ?_)
    refine lv_aload_n hx hb dX6_write_7 rfl (lv_at hl 0 rfl) ?_
    refine va_get (D := (dC, dI)) (ci := 6) (v := .ref w0) (C := RX6) (T := TX6) (N := 3) hx hb hg gb_6 hown hK hP 0 rfl rfl 0 (by decide) (hg _ gm_fieldLink_RX6_9_ErrandGuild_Memory_wrote_AZ_) (fun _ h9 => h9) rfl dX6_write_8 ?_
    refine lv_iload_n hx hb dX6_write_11 rfl (lv_at hl 1 rfl) ?_
    refine lv_iconst (v := 1) hx hb dX6_write_12 (by decide) ?_
    refine va_zast hx hb hK hP hD hS 1 0 rfl rfl (vp_in_iff.mpr ⟨by omega, by omega⟩) dX6_write_13 (fun H locs hP hD hS => ?_)
    have hP : va_P (dC, dI) vwCl [(h0, .inr (6, [.ref w0, .ref w1, .ref w2])), (w0, .inl (k0, 8, .inl (upd f0 (Int32.toNatClampNeg v1) (vp_nar .boolean 1)))), (w1, .inl (k1, 8, .inl f1))] H := hP
    have hD : va_D A [(h0, .inr (6, [.ref w0, .ref w1, .ref w2])), (w0, .inl (k0, 8, .inl (upd f0 (Int32.toNatClampNeg v1) (vp_nar .boolean 1)))), (w1, .inl (k1, 8, .inl f1))] := hD
    refine lv_aload_n hx hb dX6_write_14 rfl (lv_at hl 0 rfl) ?_
    refine va_get (D := (dC, dI)) (ci := 6) (v := .ref w1) (C := RX6) (T := TX6) (N := 3) hx hb hg gb_6 hown hK hP 0 rfl rfl 1 (by decide) (hg _ gm_fieldLink_RX6_15_ErrandGuild_Memory_written_AI_) (fun _ h9 => h9) rfl dX6_write_15 ?_
    refine lv_iload_n hx hb dX6_write_18 rfl (lv_at hl 1 rfl) ?_
    refine lv_iload_n hx hb dX6_write_19 rfl (lv_at hl 2 rfl) ?_
    refine va_iast hx hb hK hP hD hS 2 1 rfl rfl (vp_in_iff.mpr ⟨by omega, by omega⟩) dX6_write_20 (fun H locs hP hD hS => ?_)
    have hP : va_P (dC, dI) vwCl [(h0, .inr (6, [.ref w0, .ref w1, .ref w2])), (w0, .inl (k0, 8, .inl (upd f0 (Int32.toNatClampNeg v1) (vp_nar .boolean 1)))), (w1, .inl (k1, 8, .inl (upd f1 (Int32.toNatClampNeg v1) v2)))] H := hP
    have hD : va_D A [(h0, .inr (6, [.ref w0, .ref w1, .ref w2])), (w0, .inl (k0, 8, .inl (upd f0 (Int32.toNatClampNeg v1) (vp_nar .boolean 1)))), (w1, .inl (k1, 8, .inl (upd f1 (Int32.toNatClampNeg v1) v2)))] := hD
    have hP9 := hP.sub (ws' := [(h0, .inr (6, [.ref w0, .ref w1, .ref w2])), (w0, .inl (k0, 8, .inl (upd f0 (Int32.toNatClampNeg v1) (vp_nar .boolean 1)))), (w1, .inl (k1, 8, .inl (upd f1 (Int32.toNatClampNeg v1) v2)))]) [0, 1, 2] rfl
    have hD9 := hD.sub (ws' := [(h0, .inr (6, [.ref w0, .ref w1, .ref w2])), (w0, .inl (k0, 8, .inl (upd f0 (Int32.toNatClampNeg v1) (vp_nar .boolean 1)))), (w1, .inl (k1, 8, .inl (upd f1 (Int32.toNatClampNeg v1) v2)))]) [0, 1, 2] (by decide) rfl
    have hK9 := hK.sub (tys' := []) [] rfl
    exact W.vret hx hb hr (fun t ht hW => ⟨⟨((fun _ => 0), (fun _ => (dC 0)), (fun k => ([upd f0 (Int32.toNatClampNeg v1) (vp_nar .boolean 1), upd f1 (Int32.toNatClampNeg v1) v2] : List (Nat → Int32)).getD k (fun _ => 0)), (fun _ => (fun _ => none))), rfl, trivial, by rw [ht]; exact hP9, hD9, va_K.moved hW.alike hK9, (by show upd f0 (Int32.toNatClampNeg v1) (vp_nar .boolean 1) = st8 f0 v1 1; (subst_vars; first | rfl | ((try simp only [aN, aF, st8, st17, wrOr, gvAt, bdOr, rbF, bnN, bnM, bnF, frN, ctN, caN, caB, caA, hAt, cAt, nb1, nb0]); first | rfl | (rw [if_pos (by omega)]; done) | (rw [if_neg (by omega)]; done) | (rw [if_pos (by omega)]; rfl) | (rw [if_neg (by omega)]; rfl)))), (by show upd f1 (Int32.toNatClampNeg v1) v2 = st8 f1 v1 v2; (subst_vars; first | rfl | ((try simp only [aN, aF, st8, st17, wrOr, gvAt, bdOr, rbF, bnN, bnM, bnF, frN, ctN, caN, caB, caA, hAt, cAt, nb1, nb0]); first | rfl | (rw [if_pos (by omega)]; done) | (rw [if_neg (by omega)]; done) | (rw [if_pos (by omega)]; rfl) | (rw [if_neg (by omega)]; rfl))))⟩, hS.F ht⟩) hS.2.2 dX6_write_21
  · refine lv_if_eq (tgt := 21) hx hb dX6_write_4 (by decide) (fun _ => ?_) (fun c_5 => absurd c_5 (by decide))
    have hP9 := hP.sub (ws' := [(h0, .inr (6, [.ref w0, .ref w1, .ref w2])), (w0, .inl (k0, 8, .inl f0)), (w1, .inl (k1, 8, .inl f1))]) [0, 1, 2] rfl
    have hD9 := hD.sub (ws' := [(h0, .inr (6, [.ref w0, .ref w1, .ref w2])), (w0, .inl (k0, 8, .inl f0)), (w1, .inl (k1, 8, .inl f1))]) [0, 1, 2] (by decide) rfl
    have hK9 := hK.sub (tys' := []) [] rfl
    exact W.vret hx hb hr (fun t ht hW => ⟨⟨((fun _ => 0), (fun _ => (dC 0)), (fun k => ([f0, f1] : List (Nat → Int32)).getD k (fun _ => 0)), (fun _ => (fun _ => none))), rfl, trivial, by rw [ht]; exact hP9, hD9, va_K.moved hW.alike hK9, (by show f0 = st8 f0 v1 1; (subst_vars; first | rfl | ((try simp only [aN, aF, st8, st17, wrOr, gvAt, bdOr, rbF, bnN, bnM, bnF, frN, ctN, caN, caB, caA, hAt, cAt, nb1, nb0]); first | rfl | (rw [if_pos (by omega)]; done) | (rw [if_neg (by omega)]; done) | (rw [if_pos (by omega)]; rfl) | (rw [if_neg (by omega)]; rfl)))), (by show f1 = st8 f1 v1 v2; (subst_vars; first | rfl | ((try simp only [aN, aF, st8, st17, wrOr, gvAt, bdOr, rbF, bnN, bnM, bnF, frN, ctN, caN, caB, caA, hAt, cAt, nb1, nb0]); first | rfl | (rw [if_pos (by omega)]; done) | (rw [if_neg (by omega)]; done) | (rw [if_pos (by omega)]; rfl) | (rw [if_neg (by omega)]; rfl))))⟩, hS.F ht⟩) hS.2.2 dX6_write_21

set_option maxHeartbeats 4000000 in
set_option maxRecDepth 100000 in
theorem c_X6_forget (l : Launch) (dC : Nat → ClassId) (dI : Nat → Nat → Nat) (h0 : Nat) (w0 : Nat) (w1 : Nat) (w2 : Nat) (k0 : ClassId) (f0 : Nat → Int32) (v1 : Int32) (sz : Nat)  : Met l yX6_forget (.code yX6_forget cX6_forget 2 none :: gw) ({ frames := 1, cells := 0, slots := 0, locals := 20 }) (va_Pc [.ref h0, .int v1] (fun U => U.heap.size = sz ∧ va_P (dC, dI) vwCl [(h0, .inr (6, [.ref w0, .ref w1, .ref w2])), (w0, .inl (k0, 8, .inl f0))] U.heap ∧ va_K (dC, dI) vwCl [(k0, .boolean)] U ∧ va_D (fun _ => True) [(h0, .inr (6, [.ref w0, .ref w1, .ref w2])), (w0, .inl (k0, 8, .inl f0))] ∧ nx U)) (va_Qv (fun (u : wS) => True) (fun u t => va_P (dC, dI) vwCl [(h0, .inr (6, [.ref w0, .ref w1, .ref w2])), (w0, .inl (k0, 8, .inl (u.2.2.1 0)))] t.heap ∧ va_D (va_A [(h0, .inr (6, [.ref w0, .ref w1, .ref w2])), (w0, .inl (k0, 8, .inl f0))] sz) [(h0, .inr (6, [.ref w0, .ref w1, .ref w2])), (w0, .inl (k0, 8, .inl (u.2.2.1 0)))] ∧ va_K (dC, dI) vwCl [] t ∧ (u.2.2.1 0) = st8 f0 v1 0) (va_A [(h0, .inr (6, [.ref w0, .ref w1, .ref w2])), (w0, .inl (k0, 8, .inl f0))] sz)) 0 0 (va_A [(h0, .inr (6, [.ref w0, .ref w1, .ref w2])), (w0, .inl (k0, 8, .inl f0))] sz) := by
  refine Met.ofW (cc := cX6_forget) (maxL := 2) (ret := none) (by decide) rfl ?_
  intro p e s m args below meth c s₁ B hml hv
  obtain ⟨rfl, hsz, hP, hK, hD0, hN⟩ := hv
  have hx := B.exec
  have hb := B.bytes
  have hr := B.returns
  have hts := atoms_spec (ws := .code yX6_forget cX6_forget 2 none :: gw) B.pre
  have hg : ∀ w ∈ gw, w.before _ s = true := fun w h => hts w (List.mem_cons_of_mem _ h)
  have hown : s.vm.findClass RX6 = some m.cls := findClass_of_methodNamed B.named
  have hlocks := B.notSynchronized
  subst hsz
  have hD := hD0.self (sz := s.heap.size)
  generalize hAe : va_A [(h0, .inr (6, [.ref w0, .ref w1, .ref w2])), (w0, .inl (k0, 8, .inl f0))] s.heap.size = A at hD ⊢
  have hA : ∀ q : Nat, s.heap.size ≤ q → A q := fun q h => by rw [← hAe]; exact Or.inr h
  have hS : va_S A s.heap s.heap [] := va_S.rf
  have hP : va_P (dC, dI) vwCl [(h0, .inr (6, [.ref w0, .ref w1, .ref w2])), (w0, .inl (k0, 8, .inl f0))] s.heap := hP
  have hl := lv_entry ([.ref h0, .int v1]) (n := 2) (Nat.le_of_ble_eq_true rfl)
  rw [lg_entry_eq]
  generalize (lg_sl ([.ref h0, .int v1]) ++ List.replicate (2 - (lg_sl ([.ref h0, .int v1])).length) Slot.unset).toArray = ls at hl ⊢
  have hl : lv_has ls 2 [(0, .ref h0), (1, .int v1)] := hl
  refine lv_iload_n hx hb dX6_forget_0 rfl (lv_at hl 1 rfl) ?_
  have hPc := hP.sub (ws' := []) [] rfl
  have hDc := hD.sub (ws' := []) [] (by decide) rfl
  have hKc := hK.sub (tys' := []) [] rfl
  have hFc := va_free (wc := []) hD hS hA [] rfl
  refine va_calli (va_runSN (As := [.int v1]) (rest := []) ⟨hx, hb, hml, hown, hg⟩ (c_X9_isSlot l dC dI v1 s.heap.size ) (⟨va_cnB 1 hg (gw_c gm_code_yX9_isSlot_cX9_isSlot_1_some_boolean_) rfl rfl rfl (nx_RX6_22 hN) (hg _ gm_initialized_RX9) (by decide +kernel) ⟨Nat.le_of_ble_eq_true rfl, Nat.le_of_ble_eq_true rfl⟩, hg _ gm_static_yX9_isSlot, trivial⟩) ⟨fun a U g mk q => by obtain ⟨q0, q1, qP, qK, qD, qN⟩ := q; exact ⟨q0, q1, qP, va_K.moved (u := U) (U := U.calling g mk a) (Vm.Alike.refl U.vm) qK, qD, nx_same (u := U) (U := U.calling g mk a) rfl qN⟩, fun U hU hW => ⟨rfl, by rw [hU], by rw [hU]; exact hPc, va_K.moved hW.alike hKc, hDc.weaken (fun _ _ _ _ => trivial), nx_warm hW hN⟩⟩ rfl rfl hl.1 rfl (lv_room (Nat.le_of_ble_eq_true rfl)) dX6_forget_1 ⟨Nat.le_of_ble_eq_true rfl, Nat.le_of_ble_eq_true rfl⟩) hS (fun q _ h => hFc q h) hFc (fun r_1 u_2 t H1 locs ht hvm hw hB hz1 hk1 hS => ?_)
  have hP1 : va_P (dC, dI) vwCl [] H1 := nil_P
  have hD1 := nil_D (A := va_A [] s.heap.size)
  obtain ⟨hP, hD⟩ := va_join (wr := [(h0, .inr (6, [.ref w0, .ref w1, .ref w2])), (w0, .inl (k0, 8, .inl f0))]) (w1 := []) hP hD [] [0, 1] rfl rfl (by decide) (by decide +kernel) hk1 hFc hP1 hD1
  generalize H1 = H at hP hS ⊢
  have hP : va_P (dC, dI) vwCl [(h0, .inr (6, [.ref w0, .ref w1, .ref w2])), (w0, .inl (k0, 8, .inl f0))] H := hP
  have hD : va_D A [(h0, .inr (6, [.ref w0, .ref w1, .ref w2])), (w0, .inl (k0, 8, .inl f0))] := hD
  refine W.widen (k := 0) (n := 0) (Nat.le_of_ble_eq_true rfl) (Nat.le_of_ble_eq_true rfl) ?_
  rcases hw with ⟨rfl, w_3⟩ | ⟨rfl, w_3⟩
  · refine lv_if_eq (tgt := 14) hx hb dX6_forget_4 (by decide) (fun c_4 => absurd c_4 (by decide)) (fun _ => ?_)
    refine lv_aload_n hx hb dX6_forget_7 rfl (lv_at hl 0 rfl) ?_
    refine va_get (D := (dC, dI)) (ci := 6) (v := .ref w0) (C := RX6) (T := TX6) (N := 3) hx hb hg gb_6 hown hK hP 0 rfl rfl 0 (by decide) (hg _ gm_fieldLink_RX6_9_ErrandGuild_Memory_wrote_AZ_) (fun _ h9 => h9) rfl dX6_forget_8 ?_
    refine lv_iload_n hx hb dX6_forget_11 rfl (lv_at hl 1 rfl) ?_
    refine lv_iconst (v := 0) hx hb dX6_forget_12 (by decide) ?_
    refine va_zast hx hb hK hP hD hS 1 0 rfl rfl (vp_in_iff.mpr ⟨by omega, by omega⟩) dX6_forget_13 (fun H locs hP hD hS => ?_)
    have hP : va_P (dC, dI) vwCl [(h0, .inr (6, [.ref w0, .ref w1, .ref w2])), (w0, .inl (k0, 8, .inl (upd f0 (Int32.toNatClampNeg v1) (vp_nar .boolean 0))))] H := hP
    have hD : va_D A [(h0, .inr (6, [.ref w0, .ref w1, .ref w2])), (w0, .inl (k0, 8, .inl (upd f0 (Int32.toNatClampNeg v1) (vp_nar .boolean 0))))] := hD
    have hP9 := hP.sub (ws' := [(h0, .inr (6, [.ref w0, .ref w1, .ref w2])), (w0, .inl (k0, 8, .inl (upd f0 (Int32.toNatClampNeg v1) (vp_nar .boolean 0))))]) [0, 1] rfl
    have hD9 := hD.sub (ws' := [(h0, .inr (6, [.ref w0, .ref w1, .ref w2])), (w0, .inl (k0, 8, .inl (upd f0 (Int32.toNatClampNeg v1) (vp_nar .boolean 0))))]) [0, 1] (by decide) rfl
    have hK9 := hK.sub (tys' := []) [] rfl
    exact W.vret hx hb hr (fun t ht hW => ⟨⟨((fun _ => 0), (fun _ => (dC 0)), (fun k => ([upd f0 (Int32.toNatClampNeg v1) (vp_nar .boolean 0)] : List (Nat → Int32)).getD k (fun _ => 0)), (fun _ => (fun _ => none))), rfl, trivial, by rw [ht]; exact hP9, hD9, va_K.moved hW.alike hK9, (by show upd f0 (Int32.toNatClampNeg v1) (vp_nar .boolean 0) = st8 f0 v1 0; (subst_vars; first | rfl | ((try simp only [aN, aF, st8, st17, wrOr, gvAt, bdOr, rbF, bnN, bnM, bnF, frN, ctN, caN, caB, caA, hAt, cAt, nb1, nb0]); first | rfl | (rw [if_pos (by omega)]; done) | (rw [if_neg (by omega)]; done) | (rw [if_pos (by omega)]; rfl) | (rw [if_neg (by omega)]; rfl))))⟩, hS.F ht⟩) hS.2.2 dX6_forget_14
  · refine lv_if_eq (tgt := 14) hx hb dX6_forget_4 (by decide) (fun _ => ?_) (fun c_5 => absurd c_5 (by decide))
    have hP9 := hP.sub (ws' := [(h0, .inr (6, [.ref w0, .ref w1, .ref w2])), (w0, .inl (k0, 8, .inl f0))]) [0, 1] rfl
    have hD9 := hD.sub (ws' := [(h0, .inr (6, [.ref w0, .ref w1, .ref w2])), (w0, .inl (k0, 8, .inl f0))]) [0, 1] (by decide) rfl
    have hK9 := hK.sub (tys' := []) [] rfl
    exact W.vret hx hb hr (fun t ht hW => ⟨⟨((fun _ => 0), (fun _ => (dC 0)), (fun k => ([f0] : List (Nat → Int32)).getD k (fun _ => 0)), (fun _ => (fun _ => none))), rfl, trivial, by rw [ht]; exact hP9, hD9, va_K.moved hW.alike hK9, (by show f0 = st8 f0 v1 0; (subst_vars; first | rfl | ((try simp only [aN, aF, st8, st17, wrOr, gvAt, bdOr, rbF, bnN, bnM, bnF, frN, ctN, caN, caB, caA, hAt, cAt, nb1, nb0]); first | rfl | (rw [if_pos (by omega)]; done) | (rw [if_neg (by omega)]; done) | (rw [if_pos (by omega)]; rfl) | (rw [if_neg (by omega)]; rfl))))⟩, hS.F ht⟩) hS.2.2 dX6_forget_14

set_option maxHeartbeats 4000000 in
set_option maxRecDepth 100000 in
theorem c_X6_writtenOr (l : Launch) (dC : Nat → ClassId) (dI : Nat → Nat → Nat) (h0 : Nat) (w0 : Nat) (w1 : Nat) (w2 : Nat) (k0 : ClassId) (k1 : ClassId) (f0 : Nat → Int32) (f1 : Nat → Int32) (v1 : Int32) (v2 : Int32) (sz : Nat)  : Met l yX6_writtenOr (.code yX6_writtenOr cX6_writtenOr 3 (some .int) :: gw) ({ frames := 1, cells := 0, slots := 0, locals := 20 }) (va_Pc [.ref h0, .int v1, .int v2] (fun U => U.heap.size = sz ∧ va_P (dC, dI) vwCl [(h0, .inr (6, [.ref w0, .ref w1, .ref w2])), (w0, .inl (k0, 8, .inl f0)), (w1, .inl (k1, 8, .inl f1))] U.heap ∧ va_K (dC, dI) vwCl [(k0, .boolean), (k1, .int)] U ∧ va_D (fun _ => True) [(h0, .inr (6, [.ref w0, .ref w1, .ref w2])), (w0, .inl (k0, 8, .inl f0)), (w1, .inl (k1, 8, .inl f1))] ∧ nx U)) (va_Qi (fun (r : Int32) (u : Unit) => r = wrOr f0 f1 v1 v2) (fun _ t => va_P (dC, dI) vwCl [(h0, .inr (6, [.ref w0, .ref w1, .ref w2])), (w0, .inl (k0, 8, .inl f0)), (w1, .inl (k1, 8, .inl f1))] t.heap ∧ va_D (va_A [(h0, .inr (6, [.ref w0, .ref w1, .ref w2])), (w0, .inl (k0, 8, .inl f0)), (w1, .inl (k1, 8, .inl f1))] sz) [(h0, .inr (6, [.ref w0, .ref w1, .ref w2])), (w0, .inl (k0, 8, .inl f0)), (w1, .inl (k1, 8, .inl f1))]) (va_A [(h0, .inr (6, [.ref w0, .ref w1, .ref w2])), (w0, .inl (k0, 8, .inl f0)), (w1, .inl (k1, 8, .inl f1))] sz)) 0 0 (va_A [(h0, .inr (6, [.ref w0, .ref w1, .ref w2])), (w0, .inl (k0, 8, .inl f0)), (w1, .inl (k1, 8, .inl f1))] sz) := by
  refine Met.ofW (cc := cX6_writtenOr) (maxL := 3) (ret := (some .int)) (by decide) rfl ?_
  intro p e s m args below meth c s₁ B hml hv
  obtain ⟨rfl, hsz, hP, hK, hD0, hN⟩ := hv
  have hx := B.exec
  have hb := B.bytes
  have hr := B.returns
  have hts := atoms_spec (ws := .code yX6_writtenOr cX6_writtenOr 3 (some .int) :: gw) B.pre
  have hg : ∀ w ∈ gw, w.before _ s = true := fun w h => hts w (List.mem_cons_of_mem _ h)
  have hown : s.vm.findClass RX6 = some m.cls := findClass_of_methodNamed B.named
  have hlocks := B.notSynchronized
  subst hsz
  have hD := hD0.self (sz := s.heap.size)
  generalize hAe : va_A [(h0, .inr (6, [.ref w0, .ref w1, .ref w2])), (w0, .inl (k0, 8, .inl f0)), (w1, .inl (k1, 8, .inl f1))] s.heap.size = A at hD ⊢
  have hA : ∀ q : Nat, s.heap.size ≤ q → A q := fun q h => by rw [← hAe]; exact Or.inr h
  have hS : va_S A s.heap s.heap [] := va_S.rf
  have hP : va_P (dC, dI) vwCl [(h0, .inr (6, [.ref w0, .ref w1, .ref w2])), (w0, .inl (k0, 8, .inl f0)), (w1, .inl (k1, 8, .inl f1))] s.heap := hP
  have hl := lv_entry ([.ref h0, .int v1, .int v2]) (n := 3) (Nat.le_of_ble_eq_true rfl)
  rw [lg_entry_eq]
  generalize (lg_sl ([.ref h0, .int v1, .int v2]) ++ List.replicate (3 - (lg_sl ([.ref h0, .int v1, .int v2])).length) Slot.unset).toArray = ls at hl ⊢
  have hl : lv_has ls 3 [(0, .ref h0), (1, .int v1), (2, .int v2)] := hl
  refine lv_iload_n hx hb dX6_writtenOr_0 rfl (lv_at hl 1 rfl) ?_
  have hPc := hP.sub (ws' := []) [] rfl
  have hDc := hD.sub (ws' := []) [] (by decide) rfl
  have hKc := hK.sub (tys' := []) [] rfl
  have hFc := va_free (wc := []) hD hS hA [] rfl
  refine va_calli (va_runSN (As := [.int v1]) (rest := []) ⟨hx, hb, hml, hown, hg⟩ (c_X9_isSlot l dC dI v1 s.heap.size ) (⟨va_cnB 1 hg (gw_c gm_code_yX9_isSlot_cX9_isSlot_1_some_boolean_) rfl rfl rfl (nx_RX6_22 hN) (hg _ gm_initialized_RX9) (by decide +kernel) ⟨Nat.le_of_ble_eq_true rfl, Nat.le_of_ble_eq_true rfl⟩, hg _ gm_static_yX9_isSlot, trivial⟩) ⟨fun a U g mk q => by obtain ⟨q0, q1, qP, qK, qD, qN⟩ := q; exact ⟨q0, q1, qP, va_K.moved (u := U) (U := U.calling g mk a) (Vm.Alike.refl U.vm) qK, qD, nx_same (u := U) (U := U.calling g mk a) rfl qN⟩, fun U hU hW => ⟨rfl, by rw [hU], by rw [hU]; exact hPc, va_K.moved hW.alike hKc, hDc.weaken (fun _ _ _ _ => trivial), nx_warm hW hN⟩⟩ rfl rfl hl.1 rfl (lv_room (Nat.le_of_ble_eq_true rfl)) dX6_writtenOr_1 ⟨Nat.le_of_ble_eq_true rfl, Nat.le_of_ble_eq_true rfl⟩) hS (fun q _ h => hFc q h) hFc (fun r_1 u_2 t H1 locs ht hvm hw hB hz1 hk1 hS => ?_)
  have hP1 : va_P (dC, dI) vwCl [] H1 := nil_P
  have hD1 := nil_D (A := va_A [] s.heap.size)
  obtain ⟨hP, hD⟩ := va_join (wr := [(h0, .inr (6, [.ref w0, .ref w1, .ref w2])), (w0, .inl (k0, 8, .inl f0)), (w1, .inl (k1, 8, .inl f1))]) (w1 := []) hP hD [] [0, 1, 2] rfl rfl (by decide) (by decide +kernel) hk1 hFc hP1 hD1
  generalize H1 = H at hP hS ⊢
  have hP : va_P (dC, dI) vwCl [(h0, .inr (6, [.ref w0, .ref w1, .ref w2])), (w0, .inl (k0, 8, .inl f0)), (w1, .inl (k1, 8, .inl f1))] H := hP
  have hD : va_D A [(h0, .inr (6, [.ref w0, .ref w1, .ref w2])), (w0, .inl (k0, 8, .inl f0)), (w1, .inl (k1, 8, .inl f1))] := hD
  refine W.widen (k := 0) (n := 0) (Nat.le_of_ble_eq_true rfl) (Nat.le_of_ble_eq_true rfl) ?_
  rcases hw with ⟨rfl, w_3⟩ | ⟨rfl, w_3⟩
  · refine lv_if_eq (tgt := 25) hx hb dX6_writtenOr_4 (by decide) (fun c_4 => absurd c_4 (by decide)) (fun _ => ?_)
    refine lv_aload_n hx hb dX6_writtenOr_7 rfl (lv_at hl 0 rfl) ?_
    refine va_get (D := (dC, dI)) (ci := 6) (v := .ref w0) (C := RX6) (T := TX6) (N := 3) hx hb hg gb_6 hown hK hP 0 rfl rfl 0 (by decide) (hg _ gm_fieldLink_RX6_9_ErrandGuild_Memory_wrote_AZ_) (fun _ h9 => h9) rfl dX6_writtenOr_8 ?_
    refine lv_iload_n hx hb dX6_writtenOr_11 rfl (lv_at hl 1 rfl) ?_
    refine va_zald hx hb hK hP 1 0 rfl rfl (vp_in_iff.mpr ⟨by omega, by omega⟩) dX6_writtenOr_12 ?_
    refine lv_topi (fun z_5 ez_5 => ?_)
    refine lv_if_eq (tgt := 25) hx hb dX6_writtenOr_13 (by decide) (fun c_6 => ?_) (fun c_6 => ?_)
    · simp only [i_lt, i_le, i_eq, ti_0] at c_6
      refine lv_iload_n hx hb dX6_writtenOr_25 rfl (lv_at hl 2 rfl) ?_
      have hP9 := hP.sub (ws' := [(h0, .inr (6, [.ref w0, .ref w1, .ref w2])), (w0, .inl (k0, 8, .inl f0)), (w1, .inl (k1, 8, .inl f1))]) [0, 1, 2] rfl
      have hD9 := hD.sub (ws' := [(h0, .inr (6, [.ref w0, .ref w1, .ref w2])), (w0, .inl (k0, 8, .inl f0)), (w1, .inl (k1, 8, .inl f1))]) [0, 1, 2] (by decide) rfl
      exact W.iret (v := v2) hx hb hr (fun t ht hW => ⟨⟨v2, (), rfl, (by show (v2 : Int32) = wrOr f0 f1 v1 v2; (subst_vars; first | rfl | ((try simp only [aN, aF, st8, st17, wrOr, gvAt, bdOr, rbF, bnN, bnM, bnF, frN, ctN, caN, caB, caA, hAt, cAt, nb1, nb0]); first | rfl | (rw [if_pos (by omega)]; done) | (rw [if_neg (by omega)]; done) | (rw [if_pos (by omega)]; rfl) | (rw [if_neg (by omega)]; rfl)))), by rw [ht]; exact hP9, hD9⟩, hS.F ht⟩) hS.2.2 dX6_writtenOr_26
    · simp only [i_lt, i_le, i_eq, ti_0] at c_6
      refine lv_aload_n hx hb dX6_writtenOr_16 rfl (lv_at hl 0 rfl) ?_
      refine va_get (D := (dC, dI)) (ci := 6) (v := .ref w1) (C := RX6) (T := TX6) (N := 3) hx hb hg gb_6 hown hK hP 0 rfl rfl 1 (by decide) (hg _ gm_fieldLink_RX6_15_ErrandGuild_Memory_written_AI_) (fun _ h9 => h9) rfl dX6_writtenOr_17 ?_
      refine lv_iload_n hx hb dX6_writtenOr_20 rfl (lv_at hl 1 rfl) ?_
      refine va_iald hx hb hK hP 2 1 rfl rfl (vp_in_iff.mpr ⟨by omega, by omega⟩) dX6_writtenOr_21 ?_
      refine lv_topi (fun z_7 ez_7 => ?_)
      refine lv_goto (tgt := 26) hx hb dX6_writtenOr_22 (by decide) ?_
      have hP9 := hP.sub (ws' := [(h0, .inr (6, [.ref w0, .ref w1, .ref w2])), (w0, .inl (k0, 8, .inl f0)), (w1, .inl (k1, 8, .inl f1))]) [0, 1, 2] rfl
      have hD9 := hD.sub (ws' := [(h0, .inr (6, [.ref w0, .ref w1, .ref w2])), (w0, .inl (k0, 8, .inl f0)), (w1, .inl (k1, 8, .inl f1))]) [0, 1, 2] (by decide) rfl
      exact W.iret (v := z_7) hx hb hr (fun t ht hW => ⟨⟨z_7, (), rfl, (by show (z_7 : Int32) = wrOr f0 f1 v1 v2; (subst_vars; first | rfl | ((try simp only [aN, aF, st8, st17, wrOr, gvAt, bdOr, rbF, bnN, bnM, bnF, frN, ctN, caN, caB, caA, hAt, cAt, nb1, nb0]); first | rfl | (rw [if_pos (by omega)]; done) | (rw [if_neg (by omega)]; done) | (rw [if_pos (by omega)]; rfl) | (rw [if_neg (by omega)]; rfl)))), by rw [ht]; exact hP9, hD9⟩, hS.F ht⟩) hS.2.2 dX6_writtenOr_26
  · refine lv_if_eq (tgt := 25) hx hb dX6_writtenOr_4 (by decide) (fun _ => ?_) (fun c_8 => absurd c_8 (by decide))
    refine lv_iload_n hx hb dX6_writtenOr_25 rfl (lv_at hl 2 rfl) ?_
    have hP9 := hP.sub (ws' := [(h0, .inr (6, [.ref w0, .ref w1, .ref w2])), (w0, .inl (k0, 8, .inl f0)), (w1, .inl (k1, 8, .inl f1))]) [0, 1, 2] rfl
    have hD9 := hD.sub (ws' := [(h0, .inr (6, [.ref w0, .ref w1, .ref w2])), (w0, .inl (k0, 8, .inl f0)), (w1, .inl (k1, 8, .inl f1))]) [0, 1, 2] (by decide) rfl
    exact W.iret (v := v2) hx hb hr (fun t ht hW => ⟨⟨v2, (), rfl, (by show (v2 : Int32) = wrOr f0 f1 v1 v2; (subst_vars; first | rfl | ((try simp only [aN, aF, st8, st17, wrOr, gvAt, bdOr, rbF, bnN, bnM, bnF, frN, ctN, caN, caB, caA, hAt, cAt, nb1, nb0]); first | rfl | (rw [if_pos (by omega)]; done) | (rw [if_neg (by omega)]; done) | (rw [if_pos (by omega)]; rfl) | (rw [if_neg (by omega)]; rfl)))), by rw [ht]; exact hP9, hD9⟩, hS.F ht⟩) hS.2.2 dX6_writtenOr_26

set_option maxHeartbeats 4000000 in
set_option maxRecDepth 100000 in
theorem c_X6_give (l : Launch) (dC : Nat → ClassId) (dI : Nat → Nat → Nat) (h0 : Nat) (w0 : Nat) (w1 : Nat) (w2 : Nat) (k2 : ClassId) (f2 : Nat → Int32) (v1 : Int32) (v2 : Int32) (sz : Nat)  : Met l yX6_give (.code yX6_give cX6_give 3 none :: gw) ({ frames := 1, cells := 0, slots := 0, locals := 20 }) (va_Pc [.ref h0, .int v1, .int v2] (fun U => U.heap.size = sz ∧ va_P (dC, dI) vwCl [(h0, .inr (6, [.ref w0, .ref w1, .ref w2])), (w2, .inl (k2, 8, .inl f2))] U.heap ∧ va_K (dC, dI) vwCl [(k2, .int)] U ∧ va_D (fun _ => True) [(h0, .inr (6, [.ref w0, .ref w1, .ref w2])), (w2, .inl (k2, 8, .inl f2))] ∧ nx U)) (va_Qv (fun (u : wS) => True) (fun u t => va_P (dC, dI) vwCl [(h0, .inr (6, [.ref w0, .ref w1, .ref w2])), (w2, .inl (k2, 8, .inl (u.2.2.1 2)))] t.heap ∧ va_D (va_A [(h0, .inr (6, [.ref w0, .ref w1, .ref w2])), (w2, .inl (k2, 8, .inl f2))] sz) [(h0, .inr (6, [.ref w0, .ref w1, .ref w2])), (w2, .inl (k2, 8, .inl (u.2.2.1 2)))] ∧ va_K (dC, dI) vwCl [] t ∧ (u.2.2.1 2) = st8 f2 v1 v2) (va_A [(h0, .inr (6, [.ref w0, .ref w1, .ref w2])), (w2, .inl (k2, 8, .inl f2))] sz)) 0 0 (va_A [(h0, .inr (6, [.ref w0, .ref w1, .ref w2])), (w2, .inl (k2, 8, .inl f2))] sz) := by
  refine Met.ofW (cc := cX6_give) (maxL := 3) (ret := none) (by decide) rfl ?_
  intro p e s m args below meth c s₁ B hml hv
  obtain ⟨rfl, hsz, hP, hK, hD0, hN⟩ := hv
  have hx := B.exec
  have hb := B.bytes
  have hr := B.returns
  have hts := atoms_spec (ws := .code yX6_give cX6_give 3 none :: gw) B.pre
  have hg : ∀ w ∈ gw, w.before _ s = true := fun w h => hts w (List.mem_cons_of_mem _ h)
  have hown : s.vm.findClass RX6 = some m.cls := findClass_of_methodNamed B.named
  have hlocks := B.notSynchronized
  subst hsz
  have hD := hD0.self (sz := s.heap.size)
  generalize hAe : va_A [(h0, .inr (6, [.ref w0, .ref w1, .ref w2])), (w2, .inl (k2, 8, .inl f2))] s.heap.size = A at hD ⊢
  have hA : ∀ q : Nat, s.heap.size ≤ q → A q := fun q h => by rw [← hAe]; exact Or.inr h
  have hS : va_S A s.heap s.heap [] := va_S.rf
  have hP : va_P (dC, dI) vwCl [(h0, .inr (6, [.ref w0, .ref w1, .ref w2])), (w2, .inl (k2, 8, .inl f2))] s.heap := hP
  have hl := lv_entry ([.ref h0, .int v1, .int v2]) (n := 3) (Nat.le_of_ble_eq_true rfl)
  rw [lg_entry_eq]
  generalize (lg_sl ([.ref h0, .int v1, .int v2]) ++ List.replicate (3 - (lg_sl ([.ref h0, .int v1, .int v2])).length) Slot.unset).toArray = ls at hl ⊢
  have hl : lv_has ls 3 [(0, .ref h0), (1, .int v1), (2, .int v2)] := hl
  refine lv_iload_n hx hb dX6_give_0 rfl (lv_at hl 1 rfl) ?_
  have hPc := hP.sub (ws' := []) [] rfl
  have hDc := hD.sub (ws' := []) [] (by decide) rfl
  have hKc := hK.sub (tys' := []) [] rfl
  have hFc := va_free (wc := []) hD hS hA [] rfl
  refine va_calli (va_runSN (As := [.int v1]) (rest := []) ⟨hx, hb, hml, hown, hg⟩ (c_X9_isSlot l dC dI v1 s.heap.size ) (⟨va_cnB 1 hg (gw_c gm_code_yX9_isSlot_cX9_isSlot_1_some_boolean_) rfl rfl rfl (nx_RX6_22 hN) (hg _ gm_initialized_RX9) (by decide +kernel) ⟨Nat.le_of_ble_eq_true rfl, Nat.le_of_ble_eq_true rfl⟩, hg _ gm_static_yX9_isSlot, trivial⟩) ⟨fun a U g mk q => by obtain ⟨q0, q1, qP, qK, qD, qN⟩ := q; exact ⟨q0, q1, qP, va_K.moved (u := U) (U := U.calling g mk a) (Vm.Alike.refl U.vm) qK, qD, nx_same (u := U) (U := U.calling g mk a) rfl qN⟩, fun U hU hW => ⟨rfl, by rw [hU], by rw [hU]; exact hPc, va_K.moved hW.alike hKc, hDc.weaken (fun _ _ _ _ => trivial), nx_warm hW hN⟩⟩ rfl rfl hl.1 rfl (lv_room (Nat.le_of_ble_eq_true rfl)) dX6_give_1 ⟨Nat.le_of_ble_eq_true rfl, Nat.le_of_ble_eq_true rfl⟩) hS (fun q _ h => hFc q h) hFc (fun r_1 u_2 t H1 locs ht hvm hw hB hz1 hk1 hS => ?_)
  have hP1 : va_P (dC, dI) vwCl [] H1 := nil_P
  have hD1 := nil_D (A := va_A [] s.heap.size)
  obtain ⟨hP, hD⟩ := va_join (wr := [(h0, .inr (6, [.ref w0, .ref w1, .ref w2])), (w2, .inl (k2, 8, .inl f2))]) (w1 := []) hP hD [] [0, 1] rfl rfl (by decide) (by decide +kernel) hk1 hFc hP1 hD1
  generalize H1 = H at hP hS ⊢
  have hP : va_P (dC, dI) vwCl [(h0, .inr (6, [.ref w0, .ref w1, .ref w2])), (w2, .inl (k2, 8, .inl f2))] H := hP
  have hD : va_D A [(h0, .inr (6, [.ref w0, .ref w1, .ref w2])), (w2, .inl (k2, 8, .inl f2))] := hD
  refine W.widen (k := 0) (n := 0) (Nat.le_of_ble_eq_true rfl) (Nat.le_of_ble_eq_true rfl) ?_
  rcases hw with ⟨rfl, w_3⟩ | ⟨rfl, w_3⟩
  · refine lv_if_eq (tgt := 14) hx hb dX6_give_4 (by decide) (fun c_4 => absurd c_4 (by decide)) (fun _ => ?_)
    refine lv_aload_n hx hb dX6_give_7 rfl (lv_at hl 0 rfl) ?_
    refine va_get (D := (dC, dI)) (ci := 6) (v := .ref w2) (C := RX6) (T := TX6) (N := 3) hx hb hg gb_6 hown hK hP 0 rfl rfl 2 (by decide) (hg _ gm_fieldLink_RX6_19_ErrandGuild_Memory_given_AI_) (fun _ h9 => h9) rfl dX6_give_8 ?_
    refine lv_iload_n hx hb dX6_give_11 rfl (lv_at hl 1 rfl) ?_
    refine lv_iload_n hx hb dX6_give_12 rfl (lv_at hl 2 rfl) ?_
    refine va_iast hx hb hK hP hD hS 1 0 rfl rfl (vp_in_iff.mpr ⟨by omega, by omega⟩) dX6_give_13 (fun H locs hP hD hS => ?_)
    have hP : va_P (dC, dI) vwCl [(h0, .inr (6, [.ref w0, .ref w1, .ref w2])), (w2, .inl (k2, 8, .inl (upd f2 (Int32.toNatClampNeg v1) v2)))] H := hP
    have hD : va_D A [(h0, .inr (6, [.ref w0, .ref w1, .ref w2])), (w2, .inl (k2, 8, .inl (upd f2 (Int32.toNatClampNeg v1) v2)))] := hD
    have hP9 := hP.sub (ws' := [(h0, .inr (6, [.ref w0, .ref w1, .ref w2])), (w2, .inl (k2, 8, .inl (upd f2 (Int32.toNatClampNeg v1) v2)))]) [0, 1] rfl
    have hD9 := hD.sub (ws' := [(h0, .inr (6, [.ref w0, .ref w1, .ref w2])), (w2, .inl (k2, 8, .inl (upd f2 (Int32.toNatClampNeg v1) v2)))]) [0, 1] (by decide) rfl
    have hK9 := hK.sub (tys' := []) [] rfl
    exact W.vret hx hb hr (fun t ht hW => ⟨⟨((fun _ => 0), (fun _ => (dC 0)), (fun k => ([(fun _ => 0), (fun _ => 0), upd f2 (Int32.toNatClampNeg v1) v2] : List (Nat → Int32)).getD k (fun _ => 0)), (fun _ => (fun _ => none))), rfl, trivial, by rw [ht]; exact hP9, hD9, va_K.moved hW.alike hK9, (by show upd f2 (Int32.toNatClampNeg v1) v2 = st8 f2 v1 v2; (subst_vars; first | rfl | ((try simp only [aN, aF, st8, st17, wrOr, gvAt, bdOr, rbF, bnN, bnM, bnF, frN, ctN, caN, caB, caA, hAt, cAt, nb1, nb0]); first | rfl | (rw [if_pos (by omega)]; done) | (rw [if_neg (by omega)]; done) | (rw [if_pos (by omega)]; rfl) | (rw [if_neg (by omega)]; rfl))))⟩, hS.F ht⟩) hS.2.2 dX6_give_14
  · refine lv_if_eq (tgt := 14) hx hb dX6_give_4 (by decide) (fun _ => ?_) (fun c_5 => absurd c_5 (by decide))
    have hP9 := hP.sub (ws' := [(h0, .inr (6, [.ref w0, .ref w1, .ref w2])), (w2, .inl (k2, 8, .inl f2))]) [0, 1] rfl
    have hD9 := hD.sub (ws' := [(h0, .inr (6, [.ref w0, .ref w1, .ref w2])), (w2, .inl (k2, 8, .inl f2))]) [0, 1] (by decide) rfl
    have hK9 := hK.sub (tys' := []) [] rfl
    exact W.vret hx hb hr (fun t ht hW => ⟨⟨((fun _ => 0), (fun _ => (dC 0)), (fun k => ([(fun _ => 0), (fun _ => 0), f2] : List (Nat → Int32)).getD k (fun _ => 0)), (fun _ => (fun _ => none))), rfl, trivial, by rw [ht]; exact hP9, hD9, va_K.moved hW.alike hK9, (by show f2 = st8 f2 v1 v2; (subst_vars; first | rfl | ((try simp only [aN, aF, st8, st17, wrOr, gvAt, bdOr, rbF, bnN, bnM, bnF, frN, ctN, caN, caB, caA, hAt, cAt, nb1, nb0]); first | rfl | (rw [if_pos (by omega)]; done) | (rw [if_neg (by omega)]; done) | (rw [if_pos (by omega)]; rfl) | (rw [if_neg (by omega)]; rfl))))⟩, hS.F ht⟩) hS.2.2 dX6_give_14

set_option maxHeartbeats 4000000 in
set_option maxRecDepth 100000 in
theorem c_X6_givenAt (l : Launch) (dC : Nat → ClassId) (dI : Nat → Nat → Nat) (h0 : Nat) (w0 : Nat) (w1 : Nat) (w2 : Nat) (k2 : ClassId) (f2 : Nat → Int32) (v1 : Int32) (sz : Nat)  : Met l yX6_givenAt (.code yX6_givenAt cX6_givenAt 2 (some .int) :: gw) ({ frames := 1, cells := 0, slots := 0, locals := 20 }) (va_Pc [.ref h0, .int v1] (fun U => U.heap.size = sz ∧ va_P (dC, dI) vwCl [(h0, .inr (6, [.ref w0, .ref w1, .ref w2])), (w2, .inl (k2, 8, .inl f2))] U.heap ∧ va_K (dC, dI) vwCl [(k2, .int)] U ∧ va_D (fun _ => True) [(h0, .inr (6, [.ref w0, .ref w1, .ref w2])), (w2, .inl (k2, 8, .inl f2))] ∧ nx U)) (va_Qi (fun (r : Int32) (u : Unit) => r = gvAt f2 v1) (fun _ t => va_P (dC, dI) vwCl [(h0, .inr (6, [.ref w0, .ref w1, .ref w2])), (w2, .inl (k2, 8, .inl f2))] t.heap ∧ va_D (va_A [(h0, .inr (6, [.ref w0, .ref w1, .ref w2])), (w2, .inl (k2, 8, .inl f2))] sz) [(h0, .inr (6, [.ref w0, .ref w1, .ref w2])), (w2, .inl (k2, 8, .inl f2))]) (va_A [(h0, .inr (6, [.ref w0, .ref w1, .ref w2])), (w2, .inl (k2, 8, .inl f2))] sz)) 0 0 (va_A [(h0, .inr (6, [.ref w0, .ref w1, .ref w2])), (w2, .inl (k2, 8, .inl f2))] sz) := by
  refine Met.ofW (cc := cX6_givenAt) (maxL := 2) (ret := (some .int)) (by decide) rfl ?_
  intro p e s m args below meth c s₁ B hml hv
  obtain ⟨rfl, hsz, hP, hK, hD0, hN⟩ := hv
  have hx := B.exec
  have hb := B.bytes
  have hr := B.returns
  have hts := atoms_spec (ws := .code yX6_givenAt cX6_givenAt 2 (some .int) :: gw) B.pre
  have hg : ∀ w ∈ gw, w.before _ s = true := fun w h => hts w (List.mem_cons_of_mem _ h)
  have hown : s.vm.findClass RX6 = some m.cls := findClass_of_methodNamed B.named
  have hlocks := B.notSynchronized
  subst hsz
  have hD := hD0.self (sz := s.heap.size)
  generalize hAe : va_A [(h0, .inr (6, [.ref w0, .ref w1, .ref w2])), (w2, .inl (k2, 8, .inl f2))] s.heap.size = A at hD ⊢
  have hA : ∀ q : Nat, s.heap.size ≤ q → A q := fun q h => by rw [← hAe]; exact Or.inr h
  have hS : va_S A s.heap s.heap [] := va_S.rf
  have hP : va_P (dC, dI) vwCl [(h0, .inr (6, [.ref w0, .ref w1, .ref w2])), (w2, .inl (k2, 8, .inl f2))] s.heap := hP
  have hl := lv_entry ([.ref h0, .int v1]) (n := 2) (Nat.le_of_ble_eq_true rfl)
  rw [lg_entry_eq]
  generalize (lg_sl ([.ref h0, .int v1]) ++ List.replicate (2 - (lg_sl ([.ref h0, .int v1])).length) Slot.unset).toArray = ls at hl ⊢
  have hl : lv_has ls 2 [(0, .ref h0), (1, .int v1)] := hl
  refine lv_iload_n hx hb dX6_givenAt_0 rfl (lv_at hl 1 rfl) ?_
  have hPc := hP.sub (ws' := []) [] rfl
  have hDc := hD.sub (ws' := []) [] (by decide) rfl
  have hKc := hK.sub (tys' := []) [] rfl
  have hFc := va_free (wc := []) hD hS hA [] rfl
  refine va_calli (va_runSN (As := [.int v1]) (rest := []) ⟨hx, hb, hml, hown, hg⟩ (c_X9_isSlot l dC dI v1 s.heap.size ) (⟨va_cnB 1 hg (gw_c gm_code_yX9_isSlot_cX9_isSlot_1_some_boolean_) rfl rfl rfl (nx_RX6_22 hN) (hg _ gm_initialized_RX9) (by decide +kernel) ⟨Nat.le_of_ble_eq_true rfl, Nat.le_of_ble_eq_true rfl⟩, hg _ gm_static_yX9_isSlot, trivial⟩) ⟨fun a U g mk q => by obtain ⟨q0, q1, qP, qK, qD, qN⟩ := q; exact ⟨q0, q1, qP, va_K.moved (u := U) (U := U.calling g mk a) (Vm.Alike.refl U.vm) qK, qD, nx_same (u := U) (U := U.calling g mk a) rfl qN⟩, fun U hU hW => ⟨rfl, by rw [hU], by rw [hU]; exact hPc, va_K.moved hW.alike hKc, hDc.weaken (fun _ _ _ _ => trivial), nx_warm hW hN⟩⟩ rfl rfl hl.1 rfl (lv_room (Nat.le_of_ble_eq_true rfl)) dX6_givenAt_1 ⟨Nat.le_of_ble_eq_true rfl, Nat.le_of_ble_eq_true rfl⟩) hS (fun q _ h => hFc q h) hFc (fun r_1 u_2 t H1 locs ht hvm hw hB hz1 hk1 hS => ?_)
  have hP1 : va_P (dC, dI) vwCl [] H1 := nil_P
  have hD1 := nil_D (A := va_A [] s.heap.size)
  obtain ⟨hP, hD⟩ := va_join (wr := [(h0, .inr (6, [.ref w0, .ref w1, .ref w2])), (w2, .inl (k2, 8, .inl f2))]) (w1 := []) hP hD [] [0, 1] rfl rfl (by decide) (by decide +kernel) hk1 hFc hP1 hD1
  generalize H1 = H at hP hS ⊢
  have hP : va_P (dC, dI) vwCl [(h0, .inr (6, [.ref w0, .ref w1, .ref w2])), (w2, .inl (k2, 8, .inl f2))] H := hP
  have hD : va_D A [(h0, .inr (6, [.ref w0, .ref w1, .ref w2])), (w2, .inl (k2, 8, .inl f2))] := hD
  refine W.widen (k := 0) (n := 0) (Nat.le_of_ble_eq_true rfl) (Nat.le_of_ble_eq_true rfl) ?_
  rcases hw with ⟨rfl, w_3⟩ | ⟨rfl, w_3⟩
  · refine lv_if_eq (tgt := 16) hx hb dX6_givenAt_4 (by decide) (fun c_4 => absurd c_4 (by decide)) (fun _ => ?_)
    refine lv_aload_n hx hb dX6_givenAt_7 rfl (lv_at hl 0 rfl) ?_
    refine va_get (D := (dC, dI)) (ci := 6) (v := .ref w2) (C := RX6) (T := TX6) (N := 3) hx hb hg gb_6 hown hK hP 0 rfl rfl 2 (by decide) (hg _ gm_fieldLink_RX6_19_ErrandGuild_Memory_given_AI_) (fun _ h9 => h9) rfl dX6_givenAt_8 ?_
    refine lv_iload_n hx hb dX6_givenAt_11 rfl (lv_at hl 1 rfl) ?_
    refine va_iald hx hb hK hP 1 0 rfl rfl (vp_in_iff.mpr ⟨by omega, by omega⟩) dX6_givenAt_12 ?_
    refine lv_topi (fun z_5 ez_5 => ?_)
    refine lv_goto (tgt := 17) hx hb dX6_givenAt_13 (by decide) ?_
    have hP9 := hP.sub (ws' := [(h0, .inr (6, [.ref w0, .ref w1, .ref w2])), (w2, .inl (k2, 8, .inl f2))]) [0, 1] rfl
    have hD9 := hD.sub (ws' := [(h0, .inr (6, [.ref w0, .ref w1, .ref w2])), (w2, .inl (k2, 8, .inl f2))]) [0, 1] (by decide) rfl
    exact W.iret (v := z_5) hx hb hr (fun t ht hW => ⟨⟨z_5, (), rfl, (by show (z_5 : Int32) = gvAt f2 v1; (subst_vars; first | rfl | ((try simp only [aN, aF, st8, st17, wrOr, gvAt, bdOr, rbF, bnN, bnM, bnF, frN, ctN, caN, caB, caA, hAt, cAt, nb1, nb0]); first | rfl | (rw [if_pos (by omega)]; done) | (rw [if_neg (by omega)]; done) | (rw [if_pos (by omega)]; rfl) | (rw [if_neg (by omega)]; rfl)))), by rw [ht]; exact hP9, hD9⟩, hS.F ht⟩) hS.2.2 dX6_givenAt_17
  · refine lv_if_eq (tgt := 16) hx hb dX6_givenAt_4 (by decide) (fun _ => ?_) (fun c_6 => absurd c_6 (by decide))
    refine lv_iconst (v := 0) hx hb dX6_givenAt_16 (by decide) ?_
    have hP9 := hP.sub (ws' := [(h0, .inr (6, [.ref w0, .ref w1, .ref w2])), (w2, .inl (k2, 8, .inl f2))]) [0, 1] rfl
    have hD9 := hD.sub (ws' := [(h0, .inr (6, [.ref w0, .ref w1, .ref w2])), (w2, .inl (k2, 8, .inl f2))]) [0, 1] (by decide) rfl
    exact W.iret (v := 0) hx hb hr (fun t ht hW => ⟨⟨0, (), rfl, (by show (0 : Int32) = gvAt f2 v1; (subst_vars; first | rfl | ((try simp only [aN, aF, st8, st17, wrOr, gvAt, bdOr, rbF, bnN, bnM, bnF, frN, ctN, caN, caB, caA, hAt, cAt, nb1, nb0]); first | rfl | (rw [if_pos (by omega)]; done) | (rw [if_neg (by omega)]; done) | (rw [if_pos (by omega)]; rfl) | (rw [if_neg (by omega)]; rfl)))), by rw [ht]; exact hP9, hD9⟩, hS.F ht⟩) hS.2.2 dX6_givenAt_17

set_option maxHeartbeats 4000000 in
set_option maxRecDepth 100000 in
theorem c_X3_put (l : Launch) (dC : Nat → ClassId) (dI : Nat → Nat → Nat) (h0 : Nat) (w0 : Nat) (w1 : Nat) (w2 : Nat) (k0 : ClassId) (k1 : ClassId) (k2 : ClassId) (f0 : Nat → Int32) (f1 : Nat → Int32) (f2 : Nat → Int32) (v1 : Int32) (v2 : Int32) (v3 : Int32) (sz : Nat) (hz3 : v3.toInt = 0 ∨ v3.toInt = 1) : Met l yX3_put (.code yX3_put cX3_put 4 none :: gw) ({ frames := 0, cells := 0, slots := 0, locals := 0 }) (va_Pc [.ref h0, .int v1, .int v2, .int v3] (fun U => U.heap.size = sz ∧ va_P (dC, dI) vwCl [(h0, .inr (3, [.ref w0, .ref w1, .ref w2])), (w0, .inl (k0, 17, .inl f0)), (w1, .inl (k1, 17, .inl f1)), (w2, .inl (k2, 17, .inl f2))] U.heap ∧ va_K (dC, dI) vwCl [(k0, .boolean), (k1, .int), (k2, .boolean)] U ∧ va_D (fun _ => True) [(h0, .inr (3, [.ref w0, .ref w1, .ref w2])), (w0, .inl (k0, 17, .inl f0)), (w1, .inl (k1, 17, .inl f1)), (w2, .inl (k2, 17, .inl f2))] ∧ nx U)) (va_Qv (fun (u : wS) => True) (fun u t => va_P (dC, dI) vwCl [(h0, .inr (3, [.ref w0, .ref w1, .ref w2])), (w0, .inl (k0, 17, .inl (u.2.2.1 0))), (w1, .inl (k1, 17, .inl (u.2.2.1 1))), (w2, .inl (k2, 17, .inl (u.2.2.1 2)))] t.heap ∧ va_D (va_A [(h0, .inr (3, [.ref w0, .ref w1, .ref w2])), (w0, .inl (k0, 17, .inl f0)), (w1, .inl (k1, 17, .inl f1)), (w2, .inl (k2, 17, .inl f2))] sz) [(h0, .inr (3, [.ref w0, .ref w1, .ref w2])), (w0, .inl (k0, 17, .inl (u.2.2.1 0))), (w1, .inl (k1, 17, .inl (u.2.2.1 1))), (w2, .inl (k2, 17, .inl (u.2.2.1 2)))] ∧ va_K (dC, dI) vwCl [] t ∧ (u.2.2.1 0) = st17 f0 v1 1 ∧ (u.2.2.1 1) = st17 f1 v1 v2 ∧ (u.2.2.1 2) = st17 f2 v1 v3) (va_A [(h0, .inr (3, [.ref w0, .ref w1, .ref w2])), (w0, .inl (k0, 17, .inl f0)), (w1, .inl (k1, 17, .inl f1)), (w2, .inl (k2, 17, .inl f2))] sz)) 0 0 (va_A [(h0, .inr (3, [.ref w0, .ref w1, .ref w2])), (w0, .inl (k0, 17, .inl f0)), (w1, .inl (k1, 17, .inl f1)), (w2, .inl (k2, 17, .inl f2))] sz) := by
  refine Met.ofW (cc := cX3_put) (maxL := 4) (ret := none) (by decide) rfl ?_
  intro p e s m args below meth c s₁ B hml hv
  obtain ⟨rfl, hsz, hP, hK, hD0, hN⟩ := hv
  have hx := B.exec
  have hb := B.bytes
  have hr := B.returns
  have hts := atoms_spec (ws := .code yX3_put cX3_put 4 none :: gw) B.pre
  have hg : ∀ w ∈ gw, w.before _ s = true := fun w h => hts w (List.mem_cons_of_mem _ h)
  have hown : s.vm.findClass RX3 = some m.cls := findClass_of_methodNamed B.named
  have hlocks := B.notSynchronized
  subst hsz
  have hD := hD0.self (sz := s.heap.size)
  generalize hAe : va_A [(h0, .inr (3, [.ref w0, .ref w1, .ref w2])), (w0, .inl (k0, 17, .inl f0)), (w1, .inl (k1, 17, .inl f1)), (w2, .inl (k2, 17, .inl f2))] s.heap.size = A at hD ⊢
  have hA : ∀ q : Nat, s.heap.size ≤ q → A q := fun q h => by rw [← hAe]; exact Or.inr h
  have hS : va_S A s.heap s.heap [] := va_S.rf
  have hP : va_P (dC, dI) vwCl [(h0, .inr (3, [.ref w0, .ref w1, .ref w2])), (w0, .inl (k0, 17, .inl f0)), (w1, .inl (k1, 17, .inl f1)), (w2, .inl (k2, 17, .inl f2))] s.heap := hP
  have hl := lv_entry ([.ref h0, .int v1, .int v2, .int v3]) (n := 4) (Nat.le_of_ble_eq_true rfl)
  rw [lg_entry_eq]
  generalize (lg_sl ([.ref h0, .int v1, .int v2, .int v3]) ++ List.replicate (4 - (lg_sl ([.ref h0, .int v1, .int v2, .int v3])).length) Slot.unset).toArray = ls at hl ⊢
  have hl : lv_has ls 4 [(0, .ref h0), (1, .int v1), (2, .int v2), (3, .int v3)] := hl
  refine lv_iload_n hx hb dX3_put_0 rfl (lv_at hl 1 rfl) ?_
  refine lv_if_lt (tgt := 31) hx hb dX3_put_1 (by decide) (fun c_1 => ?_) (fun c_1 => ?_)
  · simp only [i_lt, i_le, i_eq, ti_0] at c_1
    have hP9 := hP.sub (ws' := [(h0, .inr (3, [.ref w0, .ref w1, .ref w2])), (w0, .inl (k0, 17, .inl f0)), (w1, .inl (k1, 17, .inl f1)), (w2, .inl (k2, 17, .inl f2))]) [0, 1, 2, 3] rfl
    have hD9 := hD.sub (ws' := [(h0, .inr (3, [.ref w0, .ref w1, .ref w2])), (w0, .inl (k0, 17, .inl f0)), (w1, .inl (k1, 17, .inl f1)), (w2, .inl (k2, 17, .inl f2))]) [0, 1, 2, 3] (by decide) rfl
    have hK9 := hK.sub (tys' := []) [] rfl
    exact W.vret hx hb hr (fun t ht hW => ⟨⟨((fun _ => 0), (fun _ => (dC 0)), (fun k => ([f0, f1, f2] : List (Nat → Int32)).getD k (fun _ => 0)), (fun _ => (fun _ => none))), rfl, trivial, by rw [ht]; exact hP9, hD9, va_K.moved hW.alike hK9, (by show f0 = st17 f0 v1 1; (subst_vars; first | rfl | ((try simp only [aN, aF, st8, st17, wrOr, gvAt, bdOr, rbF, bnN, bnM, bnF, frN, ctN, caN, caB, caA, hAt, cAt, nb1, nb0]); first | rfl | (rw [if_pos (by omega)]; done) | (rw [if_neg (by omega)]; done) | (rw [if_pos (by omega)]; rfl) | (rw [if_neg (by omega)]; rfl)))), (by show f1 = st17 f1 v1 v2; (subst_vars; first | rfl | ((try simp only [aN, aF, st8, st17, wrOr, gvAt, bdOr, rbF, bnN, bnM, bnF, frN, ctN, caN, caB, caA, hAt, cAt, nb1, nb0]); first | rfl | (rw [if_pos (by omega)]; done) | (rw [if_neg (by omega)]; done) | (rw [if_pos (by omega)]; rfl) | (rw [if_neg (by omega)]; rfl)))), (by show f2 = st17 f2 v1 v3; rcases zo hz3 with e3 | e3 <;> (simp only [st17, e3, nb1, nb0]; first | rw [if_pos (by omega)] | rw [if_neg (by omega)]))⟩, hS.F ht⟩) hS.2.2 dX3_put_31
  · simp only [i_lt, i_le, i_eq, ti_0] at c_1
    refine lv_iload_n hx hb dX3_put_4 rfl (lv_at hl 1 rfl) ?_
    refine lv_bipush (v := 17) hx hb dX3_put_5 (by decide) ?_
    refine lv_icmp_ge (tgt := 31) hx hb dX3_put_7 (by decide) (fun c_2 => ?_) (fun c_2 => ?_)
    · simp only [i_lt, i_le, i_eq, ti_17] at c_2
      have hP9 := hP.sub (ws' := [(h0, .inr (3, [.ref w0, .ref w1, .ref w2])), (w0, .inl (k0, 17, .inl f0)), (w1, .inl (k1, 17, .inl f1)), (w2, .inl (k2, 17, .inl f2))]) [0, 1, 2, 3] rfl
      have hD9 := hD.sub (ws' := [(h0, .inr (3, [.ref w0, .ref w1, .ref w2])), (w0, .inl (k0, 17, .inl f0)), (w1, .inl (k1, 17, .inl f1)), (w2, .inl (k2, 17, .inl f2))]) [0, 1, 2, 3] (by decide) rfl
      have hK9 := hK.sub (tys' := []) [] rfl
      exact W.vret hx hb hr (fun t ht hW => ⟨⟨((fun _ => 0), (fun _ => (dC 0)), (fun k => ([f0, f1, f2] : List (Nat → Int32)).getD k (fun _ => 0)), (fun _ => (fun _ => none))), rfl, trivial, by rw [ht]; exact hP9, hD9, va_K.moved hW.alike hK9, (by show f0 = st17 f0 v1 1; (subst_vars; first | rfl | ((try simp only [aN, aF, st8, st17, wrOr, gvAt, bdOr, rbF, bnN, bnM, bnF, frN, ctN, caN, caB, caA, hAt, cAt, nb1, nb0]); first | rfl | (rw [if_pos (by omega)]; done) | (rw [if_neg (by omega)]; done) | (rw [if_pos (by omega)]; rfl) | (rw [if_neg (by omega)]; rfl)))), (by show f1 = st17 f1 v1 v2; (subst_vars; first | rfl | ((try simp only [aN, aF, st8, st17, wrOr, gvAt, bdOr, rbF, bnN, bnM, bnF, frN, ctN, caN, caB, caA, hAt, cAt, nb1, nb0]); first | rfl | (rw [if_pos (by omega)]; done) | (rw [if_neg (by omega)]; done) | (rw [if_pos (by omega)]; rfl) | (rw [if_neg (by omega)]; rfl)))), (by show f2 = st17 f2 v1 v3; rcases zo hz3 with e3 | e3 <;> (simp only [st17, e3, nb1, nb0]; first | rw [if_pos (by omega)] | rw [if_neg (by omega)]))⟩, hS.F ht⟩) hS.2.2 dX3_put_31
    · simp only [i_lt, i_le, i_eq, ti_17] at c_2
      refine lv_aload_n hx hb dX3_put_10 rfl (lv_at hl 0 rfl) ?_
      refine va_get (D := (dC, dI)) (ci := 3) (v := .ref w0) (C := RX3) (T := TX3) (N := 3) hx hb hg gb_3 hown hK hP 0 rfl rfl 0 (by decide) (hg _ gm_fieldLink_RX3_11_ErrandGuild_Handlers_there_AZ_) (fun _ h9 => h9) rfl dX3_put_11 ?_
      refine lv_iload_n hx hb dX3_put_14 rfl (lv_at hl 1 rfl) ?_
      refine lv_iconst (v := 1) hx hb dX3_put_15 (by decide) ?_
      refine va_zast hx hb hK hP hD hS 1 0 rfl rfl (vp_in_iff.mpr ⟨by omega, by omega⟩) dX3_put_16 (fun H locs hP hD hS => ?_)
      have hP : va_P (dC, dI) vwCl [(h0, .inr (3, [.ref w0, .ref w1, .ref w2])), (w0, .inl (k0, 17, .inl (upd f0 (Int32.toNatClampNeg v1) (vp_nar .boolean 1)))), (w1, .inl (k1, 17, .inl f1)), (w2, .inl (k2, 17, .inl f2))] H := hP
      have hD : va_D A [(h0, .inr (3, [.ref w0, .ref w1, .ref w2])), (w0, .inl (k0, 17, .inl (upd f0 (Int32.toNatClampNeg v1) (vp_nar .boolean 1)))), (w1, .inl (k1, 17, .inl f1)), (w2, .inl (k2, 17, .inl f2))] := hD
      refine lv_aload_n hx hb dX3_put_17 rfl (lv_at hl 0 rfl) ?_
      refine va_get (D := (dC, dI)) (ci := 3) (v := .ref w1) (C := RX3) (T := TX3) (N := 3) hx hb hg gb_3 hown hK hP 0 rfl rfl 1 (by decide) (hg _ gm_fieldLink_RX3_15_ErrandGuild_Handlers_effects_AI_) (fun _ h9 => h9) rfl dX3_put_18 ?_
      refine lv_iload_n hx hb dX3_put_21 rfl (lv_at hl 1 rfl) ?_
      refine lv_iload_n hx hb dX3_put_22 rfl (lv_at hl 2 rfl) ?_
      refine va_iast hx hb hK hP hD hS 2 1 rfl rfl (vp_in_iff.mpr ⟨by omega, by omega⟩) dX3_put_23 (fun H locs hP hD hS => ?_)
      have hP : va_P (dC, dI) vwCl [(h0, .inr (3, [.ref w0, .ref w1, .ref w2])), (w0, .inl (k0, 17, .inl (upd f0 (Int32.toNatClampNeg v1) (vp_nar .boolean 1)))), (w1, .inl (k1, 17, .inl (upd f1 (Int32.toNatClampNeg v1) v2))), (w2, .inl (k2, 17, .inl f2))] H := hP
      have hD : va_D A [(h0, .inr (3, [.ref w0, .ref w1, .ref w2])), (w0, .inl (k0, 17, .inl (upd f0 (Int32.toNatClampNeg v1) (vp_nar .boolean 1)))), (w1, .inl (k1, 17, .inl (upd f1 (Int32.toNatClampNeg v1) v2))), (w2, .inl (k2, 17, .inl f2))] := hD
      refine lv_aload_n hx hb dX3_put_24 rfl (lv_at hl 0 rfl) ?_
      refine va_get (D := (dC, dI)) (ci := 3) (v := .ref w2) (C := RX3) (T := TX3) (N := 3) hx hb hg gb_3 hown hK hP 0 rfl rfl 2 (by decide) (hg _ gm_fieldLink_RX3_19_ErrandGuild_Handlers_throwing_AZ_) (fun _ h9 => h9) rfl dX3_put_25 ?_
      refine lv_iload_n hx hb dX3_put_28 rfl (lv_at hl 1 rfl) ?_
      refine lv_iload_n hx hb dX3_put_29 rfl (lv_at hl 3 rfl) ?_
      refine va_zast hx hb hK hP hD hS 3 2 rfl rfl (vp_in_iff.mpr ⟨by omega, by omega⟩) dX3_put_30 (fun H locs hP hD hS => ?_)
      have hP : va_P (dC, dI) vwCl [(h0, .inr (3, [.ref w0, .ref w1, .ref w2])), (w0, .inl (k0, 17, .inl (upd f0 (Int32.toNatClampNeg v1) (vp_nar .boolean 1)))), (w1, .inl (k1, 17, .inl (upd f1 (Int32.toNatClampNeg v1) v2))), (w2, .inl (k2, 17, .inl (upd f2 (Int32.toNatClampNeg v1) (vp_nar .boolean v3))))] H := hP
      have hD : va_D A [(h0, .inr (3, [.ref w0, .ref w1, .ref w2])), (w0, .inl (k0, 17, .inl (upd f0 (Int32.toNatClampNeg v1) (vp_nar .boolean 1)))), (w1, .inl (k1, 17, .inl (upd f1 (Int32.toNatClampNeg v1) v2))), (w2, .inl (k2, 17, .inl (upd f2 (Int32.toNatClampNeg v1) (vp_nar .boolean v3))))] := hD
      have hP9 := hP.sub (ws' := [(h0, .inr (3, [.ref w0, .ref w1, .ref w2])), (w0, .inl (k0, 17, .inl (upd f0 (Int32.toNatClampNeg v1) (vp_nar .boolean 1)))), (w1, .inl (k1, 17, .inl (upd f1 (Int32.toNatClampNeg v1) v2))), (w2, .inl (k2, 17, .inl (upd f2 (Int32.toNatClampNeg v1) (vp_nar .boolean v3))))]) [0, 1, 2, 3] rfl
      have hD9 := hD.sub (ws' := [(h0, .inr (3, [.ref w0, .ref w1, .ref w2])), (w0, .inl (k0, 17, .inl (upd f0 (Int32.toNatClampNeg v1) (vp_nar .boolean 1)))), (w1, .inl (k1, 17, .inl (upd f1 (Int32.toNatClampNeg v1) v2))), (w2, .inl (k2, 17, .inl (upd f2 (Int32.toNatClampNeg v1) (vp_nar .boolean v3))))]) [0, 1, 2, 3] (by decide) rfl
      have hK9 := hK.sub (tys' := []) [] rfl
      exact W.vret hx hb hr (fun t ht hW => ⟨⟨((fun _ => 0), (fun _ => (dC 0)), (fun k => ([upd f0 (Int32.toNatClampNeg v1) (vp_nar .boolean 1), upd f1 (Int32.toNatClampNeg v1) v2, upd f2 (Int32.toNatClampNeg v1) (vp_nar .boolean v3)] : List (Nat → Int32)).getD k (fun _ => 0)), (fun _ => (fun _ => none))), rfl, trivial, by rw [ht]; exact hP9, hD9, va_K.moved hW.alike hK9, (by show upd f0 (Int32.toNatClampNeg v1) (vp_nar .boolean 1) = st17 f0 v1 1; (subst_vars; first | rfl | ((try simp only [aN, aF, st8, st17, wrOr, gvAt, bdOr, rbF, bnN, bnM, bnF, frN, ctN, caN, caB, caA, hAt, cAt, nb1, nb0]); first | rfl | (rw [if_pos (by omega)]; done) | (rw [if_neg (by omega)]; done) | (rw [if_pos (by omega)]; rfl) | (rw [if_neg (by omega)]; rfl)))), (by show upd f1 (Int32.toNatClampNeg v1) v2 = st17 f1 v1 v2; (subst_vars; first | rfl | ((try simp only [aN, aF, st8, st17, wrOr, gvAt, bdOr, rbF, bnN, bnM, bnF, frN, ctN, caN, caB, caA, hAt, cAt, nb1, nb0]); first | rfl | (rw [if_pos (by omega)]; done) | (rw [if_neg (by omega)]; done) | (rw [if_pos (by omega)]; rfl) | (rw [if_neg (by omega)]; rfl)))), (by show upd f2 (Int32.toNatClampNeg v1) (vp_nar .boolean v3) = st17 f2 v1 v3; rcases zo hz3 with e3 | e3 <;> (simp only [st17, e3, nb1, nb0]; first | rw [if_pos (by omega)] | rw [if_neg (by omega)]))⟩, hS.F ht⟩) hS.2.2 dX3_put_31

set_option maxHeartbeats 4000000 in
set_option maxRecDepth 100000 in
theorem c_X3_isThere (l : Launch) (dC : Nat → ClassId) (dI : Nat → Nat → Nat) (h0 : Nat) (w0 : Nat) (w1 : Nat) (w2 : Nat) (k0 : ClassId) (f0 : Nat → Int32) (v1 : Int32) (sz : Nat)  : Met l yX3_isThere (.code yX3_isThere cX3_isThere 2 (some .boolean) :: gw) ({ frames := 0, cells := 0, slots := 0, locals := 0 }) (va_Pc [.ref h0, .int v1] (fun U => U.heap.size = sz ∧ va_P (dC, dI) vwCl [(h0, .inr (3, [.ref w0, .ref w1, .ref w2])), (w0, .inl (k0, 17, .inl f0))] U.heap ∧ va_K (dC, dI) vwCl [(k0, .boolean)] U ∧ va_D (fun _ => True) [(h0, .inr (3, [.ref w0, .ref w1, .ref w2])), (w0, .inl (k0, 17, .inl f0))] ∧ nx U)) (va_Qi (fun (r : Int32) (u : Unit) => (r = 1 ∧ ¬ (hAt f0 v1).toInt = 0) ∨ (r = 0 ∧ ¬ ¬ (hAt f0 v1).toInt = 0)) (fun _ t => va_P (dC, dI) vwCl [(h0, .inr (3, [.ref w0, .ref w1, .ref w2])), (w0, .inl (k0, 17, .inl f0))] t.heap ∧ va_D (va_A [(h0, .inr (3, [.ref w0, .ref w1, .ref w2])), (w0, .inl (k0, 17, .inl f0))] sz) [(h0, .inr (3, [.ref w0, .ref w1, .ref w2])), (w0, .inl (k0, 17, .inl f0))]) (va_A [(h0, .inr (3, [.ref w0, .ref w1, .ref w2])), (w0, .inl (k0, 17, .inl f0))] sz)) 0 0 (va_A [(h0, .inr (3, [.ref w0, .ref w1, .ref w2])), (w0, .inl (k0, 17, .inl f0))] sz) := by
  refine Met.ofW (cc := cX3_isThere) (maxL := 2) (ret := (some .boolean)) (by decide) rfl ?_
  intro p e s m args below meth c s₁ B hml hv
  obtain ⟨rfl, hsz, hP, hK, hD0, hN⟩ := hv
  have hx := B.exec
  have hb := B.bytes
  have hr := B.returns
  have hts := atoms_spec (ws := .code yX3_isThere cX3_isThere 2 (some .boolean) :: gw) B.pre
  have hg : ∀ w ∈ gw, w.before _ s = true := fun w h => hts w (List.mem_cons_of_mem _ h)
  have hown : s.vm.findClass RX3 = some m.cls := findClass_of_methodNamed B.named
  have hlocks := B.notSynchronized
  subst hsz
  have hD := hD0.self (sz := s.heap.size)
  generalize hAe : va_A [(h0, .inr (3, [.ref w0, .ref w1, .ref w2])), (w0, .inl (k0, 17, .inl f0))] s.heap.size = A at hD ⊢
  have hA : ∀ q : Nat, s.heap.size ≤ q → A q := fun q h => by rw [← hAe]; exact Or.inr h
  have hS : va_S A s.heap s.heap [] := va_S.rf
  have hP : va_P (dC, dI) vwCl [(h0, .inr (3, [.ref w0, .ref w1, .ref w2])), (w0, .inl (k0, 17, .inl f0))] s.heap := hP
  have hl := lv_entry ([.ref h0, .int v1]) (n := 2) (Nat.le_of_ble_eq_true rfl)
  rw [lg_entry_eq]
  generalize (lg_sl ([.ref h0, .int v1]) ++ List.replicate (2 - (lg_sl ([.ref h0, .int v1])).length) Slot.unset).toArray = ls at hl ⊢
  have hl : lv_has ls 2 [(0, .ref h0), (1, .int v1)] := hl
  refine lv_iload_n hx hb dX3_isThere_0 rfl (lv_at hl 1 rfl) ?_
  refine lv_if_lt (tgt := 23) hx hb dX3_isThere_1 (by decide) (fun c_1 => ?_) (fun c_1 => ?_)
  · simp only [i_lt, i_le, i_eq, ti_0] at c_1
    refine lv_iconst (v := 0) hx hb dX3_isThere_23 (by decide) ?_
    have hP9 := hP.sub (ws' := [(h0, .inr (3, [.ref w0, .ref w1, .ref w2])), (w0, .inl (k0, 17, .inl f0))]) [0, 1] rfl
    have hD9 := hD.sub (ws' := [(h0, .inr (3, [.ref w0, .ref w1, .ref w2])), (w0, .inl (k0, 17, .inl f0))]) [0, 1] (by decide) rfl
    exact W.zret (v := 0) hx hb hr rfl (fun t ht hW => ⟨⟨0, (), rfl, (Or.inr ⟨rfl, (by unfold hAt; have t_ := ti_0; subst_vars; first | (rw [if_pos (by omega)]; omega) | (rw [if_neg (by omega)]; omega) | (rw [if_pos (by omega)]; simp only [cl_eq] at *; omega))⟩), by rw [ht]; exact hP9, hD9⟩, hS.F ht⟩) hS.2.2 dX3_isThere_24
  · simp only [i_lt, i_le, i_eq, ti_0] at c_1
    refine lv_iload_n hx hb dX3_isThere_4 rfl (lv_at hl 1 rfl) ?_
    refine lv_bipush (v := 17) hx hb dX3_isThere_5 (by decide) ?_
    refine lv_icmp_ge (tgt := 23) hx hb dX3_isThere_7 (by decide) (fun c_2 => ?_) (fun c_2 => ?_)
    · simp only [i_lt, i_le, i_eq, ti_17] at c_2
      refine lv_iconst (v := 0) hx hb dX3_isThere_23 (by decide) ?_
      have hP9 := hP.sub (ws' := [(h0, .inr (3, [.ref w0, .ref w1, .ref w2])), (w0, .inl (k0, 17, .inl f0))]) [0, 1] rfl
      have hD9 := hD.sub (ws' := [(h0, .inr (3, [.ref w0, .ref w1, .ref w2])), (w0, .inl (k0, 17, .inl f0))]) [0, 1] (by decide) rfl
      exact W.zret (v := 0) hx hb hr rfl (fun t ht hW => ⟨⟨0, (), rfl, (Or.inr ⟨rfl, (by unfold hAt; have t_ := ti_0; subst_vars; first | (rw [if_pos (by omega)]; omega) | (rw [if_neg (by omega)]; omega) | (rw [if_pos (by omega)]; simp only [cl_eq] at *; omega))⟩), by rw [ht]; exact hP9, hD9⟩, hS.F ht⟩) hS.2.2 dX3_isThere_24
    · simp only [i_lt, i_le, i_eq, ti_17] at c_2
      refine lv_aload_n hx hb dX3_isThere_10 rfl (lv_at hl 0 rfl) ?_
      refine va_get (D := (dC, dI)) (ci := 3) (v := .ref w0) (C := RX3) (T := TX3) (N := 3) hx hb hg gb_3 hown hK hP 0 rfl rfl 0 (by decide) (hg _ gm_fieldLink_RX3_11_ErrandGuild_Handlers_there_AZ_) (fun _ h9 => h9) rfl dX3_isThere_11 ?_
      refine lv_iload_n hx hb dX3_isThere_14 rfl (lv_at hl 1 rfl) ?_
      refine va_zald hx hb hK hP 1 0 rfl rfl (vp_in_iff.mpr ⟨by omega, by omega⟩) dX3_isThere_15 ?_
      refine lv_topi (fun z_3 ez_3 => ?_)
      refine lv_if_eq (tgt := 23) hx hb dX3_isThere_16 (by decide) (fun c_4 => ?_) (fun c_4 => ?_)
      · simp only [i_lt, i_le, i_eq, ti_0] at c_4
        refine lv_iconst (v := 0) hx hb dX3_isThere_23 (by decide) ?_
        have hP9 := hP.sub (ws' := [(h0, .inr (3, [.ref w0, .ref w1, .ref w2])), (w0, .inl (k0, 17, .inl f0))]) [0, 1] rfl
        have hD9 := hD.sub (ws' := [(h0, .inr (3, [.ref w0, .ref w1, .ref w2])), (w0, .inl (k0, 17, .inl f0))]) [0, 1] (by decide) rfl
        exact W.zret (v := 0) hx hb hr rfl (fun t ht hW => ⟨⟨0, (), rfl, (Or.inr ⟨rfl, (by unfold hAt; have t_ := ti_0; subst_vars; first | (rw [if_pos (by omega)]; omega) | (rw [if_neg (by omega)]; omega) | (rw [if_pos (by omega)]; simp only [cl_eq] at *; omega))⟩), by rw [ht]; exact hP9, hD9⟩, hS.F ht⟩) hS.2.2 dX3_isThere_24
      · simp only [i_lt, i_le, i_eq, ti_0] at c_4
        refine lv_iconst (v := 1) hx hb dX3_isThere_19 (by decide) ?_
        refine lv_goto (tgt := 24) hx hb dX3_isThere_20 (by decide) ?_
        have hP9 := hP.sub (ws' := [(h0, .inr (3, [.ref w0, .ref w1, .ref w2])), (w0, .inl (k0, 17, .inl f0))]) [0, 1] rfl
        have hD9 := hD.sub (ws' := [(h0, .inr (3, [.ref w0, .ref w1, .ref w2])), (w0, .inl (k0, 17, .inl f0))]) [0, 1] (by decide) rfl
        exact W.zret (v := 1) hx hb hr rfl (fun t ht hW => ⟨⟨1, (), rfl, (Or.inl ⟨rfl, (by unfold hAt; have t_ := ti_0; subst_vars; first | (rw [if_pos (by omega)]; omega) | (rw [if_neg (by omega)]; omega) | (rw [if_pos (by omega)]; simp only [cl_eq] at *; omega))⟩), by rw [ht]; exact hP9, hD9⟩, hS.F ht⟩) hS.2.2 dX3_isThere_24

set_option maxHeartbeats 4000000 in
set_option maxRecDepth 100000 in
theorem c_X3_isThrowing (l : Launch) (dC : Nat → ClassId) (dI : Nat → Nat → Nat) (h0 : Nat) (w0 : Nat) (w1 : Nat) (w2 : Nat) (k2 : ClassId) (f2 : Nat → Int32) (v1 : Int32) (sz : Nat)  : Met l yX3_isThrowing (.code yX3_isThrowing cX3_isThrowing 2 (some .boolean) :: gw) ({ frames := 0, cells := 0, slots := 0, locals := 0 }) (va_Pc [.ref h0, .int v1] (fun U => U.heap.size = sz ∧ va_P (dC, dI) vwCl [(h0, .inr (3, [.ref w0, .ref w1, .ref w2])), (w2, .inl (k2, 17, .inl f2))] U.heap ∧ va_K (dC, dI) vwCl [(k2, .boolean)] U ∧ va_D (fun _ => True) [(h0, .inr (3, [.ref w0, .ref w1, .ref w2])), (w2, .inl (k2, 17, .inl f2))] ∧ nx U)) (va_Qi (fun (r : Int32) (u : Unit) => (r = 1 ∧ ¬ (hAt f2 v1).toInt = 0) ∨ (r = 0 ∧ ¬ ¬ (hAt f2 v1).toInt = 0)) (fun _ t => va_P (dC, dI) vwCl [(h0, .inr (3, [.ref w0, .ref w1, .ref w2])), (w2, .inl (k2, 17, .inl f2))] t.heap ∧ va_D (va_A [(h0, .inr (3, [.ref w0, .ref w1, .ref w2])), (w2, .inl (k2, 17, .inl f2))] sz) [(h0, .inr (3, [.ref w0, .ref w1, .ref w2])), (w2, .inl (k2, 17, .inl f2))]) (va_A [(h0, .inr (3, [.ref w0, .ref w1, .ref w2])), (w2, .inl (k2, 17, .inl f2))] sz)) 0 0 (va_A [(h0, .inr (3, [.ref w0, .ref w1, .ref w2])), (w2, .inl (k2, 17, .inl f2))] sz) := by
  refine Met.ofW (cc := cX3_isThrowing) (maxL := 2) (ret := (some .boolean)) (by decide) rfl ?_
  intro p e s m args below meth c s₁ B hml hv
  obtain ⟨rfl, hsz, hP, hK, hD0, hN⟩ := hv
  have hx := B.exec
  have hb := B.bytes
  have hr := B.returns
  have hts := atoms_spec (ws := .code yX3_isThrowing cX3_isThrowing 2 (some .boolean) :: gw) B.pre
  have hg : ∀ w ∈ gw, w.before _ s = true := fun w h => hts w (List.mem_cons_of_mem _ h)
  have hown : s.vm.findClass RX3 = some m.cls := findClass_of_methodNamed B.named
  have hlocks := B.notSynchronized
  subst hsz
  have hD := hD0.self (sz := s.heap.size)
  generalize hAe : va_A [(h0, .inr (3, [.ref w0, .ref w1, .ref w2])), (w2, .inl (k2, 17, .inl f2))] s.heap.size = A at hD ⊢
  have hA : ∀ q : Nat, s.heap.size ≤ q → A q := fun q h => by rw [← hAe]; exact Or.inr h
  have hS : va_S A s.heap s.heap [] := va_S.rf
  have hP : va_P (dC, dI) vwCl [(h0, .inr (3, [.ref w0, .ref w1, .ref w2])), (w2, .inl (k2, 17, .inl f2))] s.heap := hP
  have hl := lv_entry ([.ref h0, .int v1]) (n := 2) (Nat.le_of_ble_eq_true rfl)
  rw [lg_entry_eq]
  generalize (lg_sl ([.ref h0, .int v1]) ++ List.replicate (2 - (lg_sl ([.ref h0, .int v1])).length) Slot.unset).toArray = ls at hl ⊢
  have hl : lv_has ls 2 [(0, .ref h0), (1, .int v1)] := hl
  refine lv_iload_n hx hb dX3_isThrowing_0 rfl (lv_at hl 1 rfl) ?_
  refine lv_if_lt (tgt := 23) hx hb dX3_isThrowing_1 (by decide) (fun c_1 => ?_) (fun c_1 => ?_)
  · simp only [i_lt, i_le, i_eq, ti_0] at c_1
    refine lv_iconst (v := 0) hx hb dX3_isThrowing_23 (by decide) ?_
    have hP9 := hP.sub (ws' := [(h0, .inr (3, [.ref w0, .ref w1, .ref w2])), (w2, .inl (k2, 17, .inl f2))]) [0, 1] rfl
    have hD9 := hD.sub (ws' := [(h0, .inr (3, [.ref w0, .ref w1, .ref w2])), (w2, .inl (k2, 17, .inl f2))]) [0, 1] (by decide) rfl
    exact W.zret (v := 0) hx hb hr rfl (fun t ht hW => ⟨⟨0, (), rfl, (Or.inr ⟨rfl, (by unfold hAt; have t_ := ti_0; subst_vars; first | (rw [if_pos (by omega)]; omega) | (rw [if_neg (by omega)]; omega) | (rw [if_pos (by omega)]; simp only [cl_eq] at *; omega))⟩), by rw [ht]; exact hP9, hD9⟩, hS.F ht⟩) hS.2.2 dX3_isThrowing_24
  · simp only [i_lt, i_le, i_eq, ti_0] at c_1
    refine lv_iload_n hx hb dX3_isThrowing_4 rfl (lv_at hl 1 rfl) ?_
    refine lv_bipush (v := 17) hx hb dX3_isThrowing_5 (by decide) ?_
    refine lv_icmp_ge (tgt := 23) hx hb dX3_isThrowing_7 (by decide) (fun c_2 => ?_) (fun c_2 => ?_)
    · simp only [i_lt, i_le, i_eq, ti_17] at c_2
      refine lv_iconst (v := 0) hx hb dX3_isThrowing_23 (by decide) ?_
      have hP9 := hP.sub (ws' := [(h0, .inr (3, [.ref w0, .ref w1, .ref w2])), (w2, .inl (k2, 17, .inl f2))]) [0, 1] rfl
      have hD9 := hD.sub (ws' := [(h0, .inr (3, [.ref w0, .ref w1, .ref w2])), (w2, .inl (k2, 17, .inl f2))]) [0, 1] (by decide) rfl
      exact W.zret (v := 0) hx hb hr rfl (fun t ht hW => ⟨⟨0, (), rfl, (Or.inr ⟨rfl, (by unfold hAt; have t_ := ti_0; subst_vars; first | (rw [if_pos (by omega)]; omega) | (rw [if_neg (by omega)]; omega) | (rw [if_pos (by omega)]; simp only [cl_eq] at *; omega))⟩), by rw [ht]; exact hP9, hD9⟩, hS.F ht⟩) hS.2.2 dX3_isThrowing_24
    · simp only [i_lt, i_le, i_eq, ti_17] at c_2
      refine lv_aload_n hx hb dX3_isThrowing_10 rfl (lv_at hl 0 rfl) ?_
      refine va_get (D := (dC, dI)) (ci := 3) (v := .ref w2) (C := RX3) (T := TX3) (N := 3) hx hb hg gb_3 hown hK hP 0 rfl rfl 2 (by decide) (hg _ gm_fieldLink_RX3_19_ErrandGuild_Handlers_throwing_AZ_) (fun _ h9 => h9) rfl dX3_isThrowing_11 ?_
      refine lv_iload_n hx hb dX3_isThrowing_14 rfl (lv_at hl 1 rfl) ?_
      refine va_zald hx hb hK hP 1 0 rfl rfl (vp_in_iff.mpr ⟨by omega, by omega⟩) dX3_isThrowing_15 ?_
      refine lv_topi (fun z_3 ez_3 => ?_)
      refine lv_if_eq (tgt := 23) hx hb dX3_isThrowing_16 (by decide) (fun c_4 => ?_) (fun c_4 => ?_)
      · simp only [i_lt, i_le, i_eq, ti_0] at c_4
        refine lv_iconst (v := 0) hx hb dX3_isThrowing_23 (by decide) ?_
        have hP9 := hP.sub (ws' := [(h0, .inr (3, [.ref w0, .ref w1, .ref w2])), (w2, .inl (k2, 17, .inl f2))]) [0, 1] rfl
        have hD9 := hD.sub (ws' := [(h0, .inr (3, [.ref w0, .ref w1, .ref w2])), (w2, .inl (k2, 17, .inl f2))]) [0, 1] (by decide) rfl
        exact W.zret (v := 0) hx hb hr rfl (fun t ht hW => ⟨⟨0, (), rfl, (Or.inr ⟨rfl, (by unfold hAt; have t_ := ti_0; subst_vars; first | (rw [if_pos (by omega)]; omega) | (rw [if_neg (by omega)]; omega) | (rw [if_pos (by omega)]; simp only [cl_eq] at *; omega))⟩), by rw [ht]; exact hP9, hD9⟩, hS.F ht⟩) hS.2.2 dX3_isThrowing_24
      · simp only [i_lt, i_le, i_eq, ti_0] at c_4
        refine lv_iconst (v := 1) hx hb dX3_isThrowing_19 (by decide) ?_
        refine lv_goto (tgt := 24) hx hb dX3_isThrowing_20 (by decide) ?_
        have hP9 := hP.sub (ws' := [(h0, .inr (3, [.ref w0, .ref w1, .ref w2])), (w2, .inl (k2, 17, .inl f2))]) [0, 1] rfl
        have hD9 := hD.sub (ws' := [(h0, .inr (3, [.ref w0, .ref w1, .ref w2])), (w2, .inl (k2, 17, .inl f2))]) [0, 1] (by decide) rfl
        exact W.zret (v := 1) hx hb hr rfl (fun t ht hW => ⟨⟨1, (), rfl, (Or.inl ⟨rfl, (by unfold hAt; have t_ := ti_0; subst_vars; first | (rw [if_pos (by omega)]; omega) | (rw [if_neg (by omega)]; omega) | (rw [if_pos (by omega)]; simp only [cl_eq] at *; omega))⟩), by rw [ht]; exact hP9, hD9⟩, hS.F ht⟩) hS.2.2 dX3_isThrowing_24

set_option maxHeartbeats 4000000 in
set_option maxRecDepth 100000 in
theorem c_X3_indexOf (l : Launch) (dC : Nat → ClassId) (dI : Nat → Nat → Nat) (v1 : Int32) (v2 : Int32) (sz : Nat)  : Met l yX3_indexOf (.code yX3_indexOf cX3_indexOf 2 (some .int) :: gw) ({ frames := 1, cells := 0, slots := 0, locals := 20 }) (va_Pc [.int v1, .int v2] (fun U => U.heap.size = sz ∧ va_P (dC, dI) vwCl [] U.heap ∧ va_K (dC, dI) vwCl [] U ∧ va_D (fun _ => True) [] ∧ nx U)) (va_Qi (fun (r : Int32) (u : Unit) => r = hx32 v1 v2) (fun _ _ => True) (va_A [] sz)) 0 0 (va_A [] sz) := by
  refine Met.ofW (cc := cX3_indexOf) (maxL := 2) (ret := (some .int)) (by decide) rfl ?_
  intro p e s m args below meth c s₁ B hml hv
  obtain ⟨rfl, hsz, hP, hK, hD0, hN⟩ := hv
  have hx := B.exec
  have hb := B.bytes
  have hr := B.returns
  have hts := atoms_spec (ws := .code yX3_indexOf cX3_indexOf 2 (some .int) :: gw) B.pre
  have hg : ∀ w ∈ gw, w.before _ s = true := fun w h => hts w (List.mem_cons_of_mem _ h)
  have hown : s.vm.findClass RX3 = some m.cls := findClass_of_methodNamed B.named
  have hlocks := B.notSynchronized
  subst hsz
  have hD := hD0.self (sz := s.heap.size)
  generalize hAe : va_A [] s.heap.size = A at hD ⊢
  have hA : ∀ q : Nat, s.heap.size ≤ q → A q := fun q h => by rw [← hAe]; exact Or.inr h
  have hS : va_S A s.heap s.heap [] := va_S.rf
  have hP : va_P (dC, dI) vwCl [] s.heap := hP
  have hl := lv_entry ([.int v1, .int v2]) (n := 2) (Nat.le_of_ble_eq_true rfl)
  rw [lg_entry_eq]
  generalize (lg_sl ([.int v1, .int v2]) ++ List.replicate (2 - (lg_sl ([.int v1, .int v2])).length) Slot.unset).toArray = ls at hl ⊢
  have hl : lv_has ls 2 [(0, .int v1), (1, .int v2)] := hl
  refine lv_iload_n hx hb dX3_indexOf_0 rfl (lv_at hl 0 rfl) ?_
  refine lv_iconst (v := 2) hx hb dX3_indexOf_1 (by decide) ?_
  refine lv_icmp_ne (tgt := 8) hx hb dX3_indexOf_2 (by decide) (fun c_1 => ?_) (fun c_1 => ?_)
  · simp only [i_lt, i_le, i_eq, ti_2] at c_1
    refine lv_iload_n hx hb dX3_indexOf_8 rfl (lv_at hl 0 rfl) ?_
    refine lv_if_ne (tgt := 21) hx hb dX3_indexOf_9 (by decide) (fun c_2 => ?_) (fun c_2 => ?_)
    · simp only [i_lt, i_le, i_eq, ti_0] at c_2
      refine lv_iload_n hx hb dX3_indexOf_21 rfl (lv_at hl 0 rfl) ?_
      refine lv_iconst (v := 1) hx hb dX3_indexOf_22 (by decide) ?_
      refine lv_icmp_ne (tgt := 41) hx hb dX3_indexOf_23 (by decide) (fun c_3 => ?_) (fun c_3 => ?_)
      · simp only [i_lt, i_le, i_eq, ti_1] at c_3
        refine lv_iconst (v := -1) hx hb dX3_indexOf_41 (by decide) ?_
        exact W.iret (v := -1) hx hb hr (fun t ht hW => ⟨⟨-1, (), rfl, (by show (-1 : Int32) = hx32 v1 v2; unfold hx32; (repeat (first | rw [if_pos (by omega)] | rw [if_neg (by omega)])); (try exact e-1)), trivial⟩, hS.F ht⟩) hS.2.2 dX3_indexOf_42
      · simp only [i_lt, i_le, i_eq, ti_1] at c_3
        refine lv_iload_n hx hb dX3_indexOf_26 rfl (lv_at hl 1 rfl) ?_
        refine lv_if_lt (tgt := 41) hx hb dX3_indexOf_27 (by decide) (fun c_4 => ?_) (fun c_4 => ?_)
        · simp only [i_lt, i_le, i_eq, ti_0] at c_4
          refine lv_iconst (v := -1) hx hb dX3_indexOf_41 (by decide) ?_
          exact W.iret (v := -1) hx hb hr (fun t ht hW => ⟨⟨-1, (), rfl, (by show (-1 : Int32) = hx32 v1 v2; unfold hx32; (repeat (first | rw [if_pos (by omega)] | rw [if_neg (by omega)])); (try exact e-1)), trivial⟩, hS.F ht⟩) hS.2.2 dX3_indexOf_42
        · simp only [i_lt, i_le, i_eq, ti_0] at c_4
          refine lv_iload_n hx hb dX3_indexOf_30 rfl (lv_at hl 1 rfl) ?_
          refine lv_bipush (v := 8) hx hb dX3_indexOf_31 (by decide) ?_
          refine lv_icmp_ge (tgt := 41) hx hb dX3_indexOf_33 (by decide) (fun c_5 => ?_) (fun c_5 => ?_)
          · simp only [i_lt, i_le, i_eq, ti_8] at c_5
            refine lv_iconst (v := -1) hx hb dX3_indexOf_41 (by decide) ?_
            exact W.iret (v := -1) hx hb hr (fun t ht hW => ⟨⟨-1, (), rfl, (by show (-1 : Int32) = hx32 v1 v2; unfold hx32; (repeat (first | rw [if_pos (by omega)] | rw [if_neg (by omega)])); (try exact e-1)), trivial⟩, hS.F ht⟩) hS.2.2 dX3_indexOf_42
          · simp only [i_lt, i_le, i_eq, ti_8] at c_5
            refine lv_bipush (v := 8) hx hb dX3_indexOf_36 (by decide) ?_
            refine lv_iload_n hx hb dX3_indexOf_38 rfl (lv_at hl 1 rfl) ?_
            refine lv_iadd hx hb dX3_indexOf_39 ?_
            refine lv_topi (fun z_6 ez_6 => ?_)
            have tz_6 : z_6.toInt = 8 + v2.toInt := ar_add ti_8 rfl ez_6 (by omega)
            exact W.iret (v := z_6) hx hb hr (fun t ht hW => ⟨⟨z_6, (), rfl, (by show (z_6 : Int32) = hx32 v1 v2; unfold hx32; (repeat (first | rw [if_pos (by omega)] | rw [if_neg (by omega)])); (try exact ez_6)), trivial⟩, hS.F ht⟩) hS.2.2 dX3_indexOf_40
    · simp only [i_lt, i_le, i_eq, ti_0] at c_2
      refine lv_iload_n hx hb dX3_indexOf_12 rfl (lv_at hl 1 rfl) ?_
      have hPc := hP.sub (ws' := []) [] rfl
      have hDc := hD.sub (ws' := []) [] (by decide) rfl
      have hKc := hK.sub (tys' := []) [] rfl
      have hFc := va_free (wc := []) hD hS hA [] rfl
      refine va_calli (va_runSN (As := [.int v2]) (rest := []) ⟨hx, hb, hml, hown, hg⟩ (c_X9_isErrand l dC dI v2 s.heap.size ) (⟨va_cnB 1 hg (gw_c gm_code_yX9_isErrand_cX9_isErrand_1_some_boolean_) rfl rfl rfl (nx_RX3_22 hN) (hg _ gm_initialized_RX9) (by decide +kernel) ⟨Nat.le_of_ble_eq_true rfl, Nat.le_of_ble_eq_true rfl⟩, hg _ gm_static_yX9_isErrand, trivial⟩) ⟨fun a U g mk q => by obtain ⟨q0, q1, qP, qK, qD, qN⟩ := q; exact ⟨q0, q1, qP, va_K.moved (u := U) (U := U.calling g mk a) (Vm.Alike.refl U.vm) qK, qD, nx_same (u := U) (U := U.calling g mk a) rfl qN⟩, fun U hU hW => ⟨rfl, by rw [hU], by rw [hU]; exact hPc, va_K.moved hW.alike hKc, hDc.weaken (fun _ _ _ _ => trivial), nx_warm hW hN⟩⟩ rfl rfl hl.1 rfl (lv_room (Nat.le_of_ble_eq_true rfl)) dX3_indexOf_13 ⟨Nat.le_of_ble_eq_true rfl, Nat.le_of_ble_eq_true rfl⟩) hS (fun q _ h => hFc q h) hFc (fun r_7 u_8 t H1 locs ht hvm hw hB hz1 hk1 hS => ?_)
      have hP1 : va_P (dC, dI) vwCl [] H1 := nil_P
      have hD1 := nil_D (A := va_A [] s.heap.size)
      obtain ⟨hP, hD⟩ := va_join (wr := []) (w1 := []) hP hD [] [] rfl rfl (by decide) (by decide +kernel) hk1 hFc hP1 hD1
      generalize H1 = H at hP hS ⊢
      have hP : va_P (dC, dI) vwCl [] H := hP
      have hD : va_D A [] := hD
      refine W.widen (k := 0) (n := 0) (Nat.le_of_ble_eq_true rfl) (Nat.le_of_ble_eq_true rfl) ?_
      rcases hw with ⟨rfl, w_9⟩ | ⟨rfl, w_9⟩
      · refine lv_if_eq (tgt := 21) hx hb dX3_indexOf_16 (by decide) (fun c_10 => absurd c_10 (by decide)) (fun _ => ?_)
        refine lv_iload_n hx hb dX3_indexOf_19 rfl (lv_at hl 1 rfl) ?_
        exact W.iret (v := v2) hx hb hr (fun t ht hW => ⟨⟨v2, (), rfl, (by show (v2 : Int32) = hx32 v1 v2; unfold hx32; (repeat (first | rw [if_pos (by omega)] | rw [if_neg (by omega)])); (try exact ev2)), trivial⟩, hS.F ht⟩) hS.2.2 dX3_indexOf_20
      · refine lv_if_eq (tgt := 21) hx hb dX3_indexOf_16 (by decide) (fun _ => ?_) (fun c_11 => absurd c_11 (by decide))
        refine lv_iload_n hx hb dX3_indexOf_21 rfl (lv_at hl 0 rfl) ?_
        refine lv_iconst (v := 1) hx hb dX3_indexOf_22 (by decide) ?_
        refine lv_icmp_ne (tgt := 41) hx hb dX3_indexOf_23 (by decide) (fun c_12 => ?_) (fun c_12 => ?_)
        · simp only [i_lt, i_le, i_eq, ti_1] at c_12
          refine lv_iconst (v := -1) hx hb dX3_indexOf_41 (by decide) ?_
          exact W.iret (v := -1) hx hb hr (fun t ht hW => ⟨⟨-1, (), rfl, (by show (-1 : Int32) = hx32 v1 v2; unfold hx32; (repeat (first | rw [if_pos (by omega)] | rw [if_neg (by omega)])); (try exact e-1)), trivial⟩, hS.F ht⟩) hS.2.2 dX3_indexOf_42
        · simp only [i_lt, i_le, i_eq, ti_1] at c_12
          exfalso
          omega
  · simp only [i_lt, i_le, i_eq, ti_2] at c_1
    refine lv_bipush (v := 16) hx hb dX3_indexOf_5 (by decide) ?_
    exact W.iret (v := 16) hx hb hr (fun t ht hW => ⟨⟨16, (), rfl, (by show (16 : Int32) = hx32 v1 v2; unfold hx32; (repeat (first | rw [if_pos (by omega)] | rw [if_neg (by omega)])); (try exact e16)), trivial⟩, hS.F ht⟩) hS.2.2 dX3_indexOf_7

set_option maxHeartbeats 4000000 in
set_option maxRecDepth 100000 in
theorem c_X1_add (l : Launch) (dC : Nat → ClassId) (dI : Nat → Nat → Nat) (h0 : Nat) (w0 : Nat) (w1 : Nat) (w2 : Nat) (k0 : ClassId) (k1 : ClassId) (k2 : ClassId) (f0 : Nat → Int32) (f1 : Nat → Int32) (f2 : Nat → Int32) (cc : Int32) (v1 : Int32) (v2 : Int32) (v3 : Int32) (sz : Nat)  : Met l yX1_add (.code yX1_add cX1_add 4 none :: gw) ({ frames := 0, cells := 0, slots := 0, locals := 0 }) (va_Pc [.ref h0, .int v1, .int v2, .int v3] (fun U => U.heap.size = sz ∧ va_P (dC, dI) vwCl [(h0, .inr (1, [.ref w0, .ref w1, .ref w2, .int cc])), (w0, .inl (k0, 24, .inl f0)), (w1, .inl (k1, 24, .inl f1)), (w2, .inl (k2, 24, .inl f2))] U.heap ∧ va_K (dC, dI) vwCl [(k0, .int), (k1, .int), (k2, .int)] U ∧ va_D (fun _ => True) [(h0, .inr (1, [.ref w0, .ref w1, .ref w2, .int cc])), (w0, .inl (k0, 24, .inl f0)), (w1, .inl (k1, 24, .inl f1)), (w2, .inl (k2, 24, .inl f2))] ∧ nx U)) (va_Qv (fun (u : wS) => True) (fun u t => va_P (dC, dI) vwCl [(h0, .inr (1, [.ref w0, .ref w1, .ref w2, .int (u.2.2.1 3 0)])), (w0, .inl (k0, 24, .inl (u.2.2.1 0))), (w1, .inl (k1, 24, .inl (u.2.2.1 1))), (w2, .inl (k2, 24, .inl (u.2.2.1 2)))] t.heap ∧ va_D (va_A [(h0, .inr (1, [.ref w0, .ref w1, .ref w2, .int cc])), (w0, .inl (k0, 24, .inl f0)), (w1, .inl (k1, 24, .inl f1)), (w2, .inl (k2, 24, .inl f2))] sz) [(h0, .inr (1, [.ref w0, .ref w1, .ref w2, .int (u.2.2.1 3 0)])), (w0, .inl (k0, 24, .inl (u.2.2.1 0))), (w1, .inl (k1, 24, .inl (u.2.2.1 1))), (w2, .inl (k2, 24, .inl (u.2.2.1 2)))] ∧ va_K (dC, dI) vwCl [] t ∧ (u.2.2.1 0) = bnF cc f0 v1 ∧ (u.2.2.1 1) = bnF cc f1 v2 ∧ (u.2.2.1 2) = bnF cc f2 v3 ∧ (u.2.2.1 3 0) = bnN cc) (va_A [(h0, .inr (1, [.ref w0, .ref w1, .ref w2, .int cc])), (w0, .inl (k0, 24, .inl f0)), (w1, .inl (k1, 24, .inl f1)), (w2, .inl (k2, 24, .inl f2))] sz)) 0 0 (va_A [(h0, .inr (1, [.ref w0, .ref w1, .ref w2, .int cc])), (w0, .inl (k0, 24, .inl f0)), (w1, .inl (k1, 24, .inl f1)), (w2, .inl (k2, 24, .inl f2))] sz) := by
  refine Met.ofW (cc := cX1_add) (maxL := 4) (ret := none) (by decide) rfl ?_
  intro p e s m args below meth c s₁ B hml hv
  obtain ⟨rfl, hsz, hP, hK, hD0, hN⟩ := hv
  have hx := B.exec
  have hb := B.bytes
  have hr := B.returns
  have hts := atoms_spec (ws := .code yX1_add cX1_add 4 none :: gw) B.pre
  have hg : ∀ w ∈ gw, w.before _ s = true := fun w h => hts w (List.mem_cons_of_mem _ h)
  have hown : s.vm.findClass RX1 = some m.cls := findClass_of_methodNamed B.named
  have hlocks := B.notSynchronized
  subst hsz
  have hD := hD0.self (sz := s.heap.size)
  generalize hAe : va_A [(h0, .inr (1, [.ref w0, .ref w1, .ref w2, .int cc])), (w0, .inl (k0, 24, .inl f0)), (w1, .inl (k1, 24, .inl f1)), (w2, .inl (k2, 24, .inl f2))] s.heap.size = A at hD ⊢
  have hA : ∀ q : Nat, s.heap.size ≤ q → A q := fun q h => by rw [← hAe]; exact Or.inr h
  have hS : va_S A s.heap s.heap [] := va_S.rf
  have hP : va_P (dC, dI) vwCl [(h0, .inr (1, [.ref w0, .ref w1, .ref w2, .int cc])), (w0, .inl (k0, 24, .inl f0)), (w1, .inl (k1, 24, .inl f1)), (w2, .inl (k2, 24, .inl f2))] s.heap := hP
  have hl := lv_entry ([.ref h0, .int v1, .int v2, .int v3]) (n := 4) (Nat.le_of_ble_eq_true rfl)
  rw [lg_entry_eq]
  generalize (lg_sl ([.ref h0, .int v1, .int v2, .int v3]) ++ List.replicate (4 - (lg_sl ([.ref h0, .int v1, .int v2, .int v3])).length) Slot.unset).toArray = ls at hl ⊢
  have hl : lv_has ls 4 [(0, .ref h0), (1, .int v1), (2, .int v2), (3, .int v3)] := hl
  refine lv_aload_n hx hb dX1_add_0 rfl (lv_at hl 0 rfl) ?_
  refine va_get (D := (dC, dI)) (ci := 1) (v := .int cc) (C := RX1) (T := TX1) (N := 4) hx hb hg gb_1 hown hK hP 0 rfl rfl 3 (by decide) (hg _ gm_fieldLink_RX1_21_ErrandGuild_Errand_count_I_) (fun _ h9 => h9) rfl dX1_add_1 ?_
  refine lv_if_lt (tgt := 16) hx hb dX1_add_4 (by decide) (fun c_1 => ?_) (fun c_1 => ?_)
  · simp only [i_lt, i_le, i_eq, ti_0] at c_1
    have hP9 := hP.sub (ws' := [(h0, .inr (1, [.ref w0, .ref w1, .ref w2, .int cc])), (w0, .inl (k0, 24, .inl f0)), (w1, .inl (k1, 24, .inl f1)), (w2, .inl (k2, 24, .inl f2))]) [0, 1, 2, 3] rfl
    have hD9 := hD.sub (ws' := [(h0, .inr (1, [.ref w0, .ref w1, .ref w2, .int cc])), (w0, .inl (k0, 24, .inl f0)), (w1, .inl (k1, 24, .inl f1)), (w2, .inl (k2, 24, .inl f2))]) [0, 1, 2, 3] (by decide) rfl
    have hK9 := hK.sub (tys' := []) [] rfl
    exact W.vret hx hb hr (fun t ht hW => ⟨⟨((fun _ => 0), (fun _ => (dC 0)), (fun k => ([f0, f1, f2, (fun _ => cc)] : List (Nat → Int32)).getD k (fun _ => 0)), (fun _ => (fun _ => none))), rfl, trivial, by rw [ht]; exact hP9, hD9, va_K.moved hW.alike hK9, (by show f0 = bnF cc f0 v1; (subst_vars; first | rfl | ((try simp only [aN, aF, st8, st17, wrOr, gvAt, bdOr, rbF, bnN, bnM, bnF, frN, ctN, caN, caB, caA, hAt, cAt, nb1, nb0]); first | rfl | (rw [if_pos (by omega)]; done) | (rw [if_neg (by omega)]; done) | (rw [if_pos (by omega)]; rfl) | (rw [if_neg (by omega)]; rfl)))), (by show f1 = bnF cc f1 v2; (subst_vars; first | rfl | ((try simp only [aN, aF, st8, st17, wrOr, gvAt, bdOr, rbF, bnN, bnM, bnF, frN, ctN, caN, caB, caA, hAt, cAt, nb1, nb0]); first | rfl | (rw [if_pos (by omega)]; done) | (rw [if_neg (by omega)]; done) | (rw [if_pos (by omega)]; rfl) | (rw [if_neg (by omega)]; rfl)))), (by show f2 = bnF cc f2 v3; (subst_vars; first | rfl | ((try simp only [aN, aF, st8, st17, wrOr, gvAt, bdOr, rbF, bnN, bnM, bnF, frN, ctN, caN, caB, caA, hAt, cAt, nb1, nb0]); first | rfl | (rw [if_pos (by omega)]; done) | (rw [if_neg (by omega)]; done) | (rw [if_pos (by omega)]; rfl) | (rw [if_neg (by omega)]; rfl)))), (by show cc = bnN cc; (subst_vars; first | rfl | ((try simp only [aN, aF, st8, st17, wrOr, gvAt, bdOr, rbF, bnN, bnM, bnF, frN, ctN, caN, caB, caA, hAt, cAt, nb1, nb0]); first | rfl | (rw [if_pos (by omega)]; done) | (rw [if_neg (by omega)]; done) | (rw [if_pos (by omega)]; rfl) | (rw [if_neg (by omega)]; rfl))))⟩, hS.F ht⟩) hS.2.2 dX1_add_16
  · simp only [i_lt, i_le, i_eq, ti_0] at c_1
    refine lv_aload_n hx hb dX1_add_7 rfl (lv_at hl 0 rfl) ?_
    refine va_get (D := (dC, dI)) (ci := 1) (v := .int cc) (C := RX1) (T := TX1) (N := 4) hx hb hg gb_1 hown hK hP 0 rfl rfl 3 (by decide) (hg _ gm_fieldLink_RX1_21_ErrandGuild_Errand_count_I_) (fun _ h9 => h9) rfl dX1_add_8 ?_
    refine lv_bipush (v := 24) hx hb dX1_add_11 (by decide) ?_
    refine lv_icmp_lt (tgt := 17) hx hb dX1_add_13 (by decide) (fun c_2 => ?_) (fun c_2 => ?_)
    · simp only [i_lt, i_le, i_eq, ti_24] at c_2
      refine lv_aload_n hx hb dX1_add_17 rfl (lv_at hl 0 rfl) ?_
      refine va_get (D := (dC, dI)) (ci := 1) (v := .ref w0) (C := RX1) (T := TX1) (N := 4) hx hb hg gb_1 hown hK hP 0 rfl rfl 0 (by decide) (hg _ gm_fieldLink_RX1_9_ErrandGuild_Errand_ops_AI_) (fun _ h9 => h9) rfl dX1_add_18 ?_
      refine lv_aload_n hx hb dX1_add_21 rfl (lv_at hl 0 rfl) ?_
      refine va_get (D := (dC, dI)) (ci := 1) (v := .int cc) (C := RX1) (T := TX1) (N := 4) hx hb hg gb_1 hown hK hP 0 rfl rfl 3 (by decide) (hg _ gm_fieldLink_RX1_21_ErrandGuild_Errand_count_I_) (fun _ h9 => h9) rfl dX1_add_22 ?_
      refine lv_iload_n hx hb dX1_add_25 rfl (lv_at hl 1 rfl) ?_
      refine va_iast hx hb hK hP hD hS 1 0 rfl rfl (vp_in_iff.mpr ⟨by omega, by omega⟩) dX1_add_26 (fun H locs hP hD hS => ?_)
      have hP : va_P (dC, dI) vwCl [(h0, .inr (1, [.ref w0, .ref w1, .ref w2, .int cc])), (w0, .inl (k0, 24, .inl (upd f0 (Int32.toNatClampNeg cc) v1))), (w1, .inl (k1, 24, .inl f1)), (w2, .inl (k2, 24, .inl f2))] H := hP
      have hD : va_D A [(h0, .inr (1, [.ref w0, .ref w1, .ref w2, .int cc])), (w0, .inl (k0, 24, .inl (upd f0 (Int32.toNatClampNeg cc) v1))), (w1, .inl (k1, 24, .inl f1)), (w2, .inl (k2, 24, .inl f2))] := hD
      refine lv_aload_n hx hb dX1_add_27 rfl (lv_at hl 0 rfl) ?_
      refine va_get (D := (dC, dI)) (ci := 1) (v := .ref w1) (C := RX1) (T := TX1) (N := 4) hx hb hg gb_1 hown hK hP 0 rfl rfl 1 (by decide) (hg _ gm_fieldLink_RX1_15_ErrandGuild_Errand_as_AI_) (fun _ h9 => h9) rfl dX1_add_28 ?_
      refine lv_aload_n hx hb dX1_add_31 rfl (lv_at hl 0 rfl) ?_
      refine va_get (D := (dC, dI)) (ci := 1) (v := .int cc) (C := RX1) (T := TX1) (N := 4) hx hb hg gb_1 hown hK hP 0 rfl rfl 3 (by decide) (hg _ gm_fieldLink_RX1_21_ErrandGuild_Errand_count_I_) (fun _ h9 => h9) rfl dX1_add_32 ?_
      refine lv_iload_n hx hb dX1_add_35 rfl (lv_at hl 2 rfl) ?_
      refine va_iast hx hb hK hP hD hS 2 1 rfl rfl (vp_in_iff.mpr ⟨by omega, by omega⟩) dX1_add_36 (fun H locs hP hD hS => ?_)
      have hP : va_P (dC, dI) vwCl [(h0, .inr (1, [.ref w0, .ref w1, .ref w2, .int cc])), (w0, .inl (k0, 24, .inl (upd f0 (Int32.toNatClampNeg cc) v1))), (w1, .inl (k1, 24, .inl (upd f1 (Int32.toNatClampNeg cc) v2))), (w2, .inl (k2, 24, .inl f2))] H := hP
      have hD : va_D A [(h0, .inr (1, [.ref w0, .ref w1, .ref w2, .int cc])), (w0, .inl (k0, 24, .inl (upd f0 (Int32.toNatClampNeg cc) v1))), (w1, .inl (k1, 24, .inl (upd f1 (Int32.toNatClampNeg cc) v2))), (w2, .inl (k2, 24, .inl f2))] := hD
      refine lv_aload_n hx hb dX1_add_37 rfl (lv_at hl 0 rfl) ?_
      refine va_get (D := (dC, dI)) (ci := 1) (v := .ref w2) (C := RX1) (T := TX1) (N := 4) hx hb hg gb_1 hown hK hP 0 rfl rfl 2 (by decide) (hg _ gm_fieldLink_RX1_18_ErrandGuild_Errand_bs_AI_) (fun _ h9 => h9) rfl dX1_add_38 ?_
      refine lv_aload_n hx hb dX1_add_41 rfl (lv_at hl 0 rfl) ?_
      refine va_get (D := (dC, dI)) (ci := 1) (v := .int cc) (C := RX1) (T := TX1) (N := 4) hx hb hg gb_1 hown hK hP 0 rfl rfl 3 (by decide) (hg _ gm_fieldLink_RX1_21_ErrandGuild_Errand_count_I_) (fun _ h9 => h9) rfl dX1_add_42 ?_
      refine lv_iload_n hx hb dX1_add_45 rfl (lv_at hl 3 rfl) ?_
      refine va_iast hx hb hK hP hD hS 3 2 rfl rfl (vp_in_iff.mpr ⟨by omega, by omega⟩) dX1_add_46 (fun H locs hP hD hS => ?_)
      have hP : va_P (dC, dI) vwCl [(h0, .inr (1, [.ref w0, .ref w1, .ref w2, .int cc])), (w0, .inl (k0, 24, .inl (upd f0 (Int32.toNatClampNeg cc) v1))), (w1, .inl (k1, 24, .inl (upd f1 (Int32.toNatClampNeg cc) v2))), (w2, .inl (k2, 24, .inl (upd f2 (Int32.toNatClampNeg cc) v3)))] H := hP
      have hD : va_D A [(h0, .inr (1, [.ref w0, .ref w1, .ref w2, .int cc])), (w0, .inl (k0, 24, .inl (upd f0 (Int32.toNatClampNeg cc) v1))), (w1, .inl (k1, 24, .inl (upd f1 (Int32.toNatClampNeg cc) v2))), (w2, .inl (k2, 24, .inl (upd f2 (Int32.toNatClampNeg cc) v3)))] := hD
      refine lv_aload_n hx hb dX1_add_47 rfl (lv_at hl 0 rfl) ?_
      refine lv_dup hx hb dX1_add_48 rfl ?_
      refine va_get (D := (dC, dI)) (ci := 1) (v := .int cc) (C := RX1) (T := TX1) (N := 4) hx hb hg gb_1 hown hK hP 0 rfl rfl 3 (by decide) (hg _ gm_fieldLink_RX1_21_ErrandGuild_Errand_count_I_) (fun _ h9 => h9) rfl dX1_add_49 ?_
      refine lv_iconst (v := 1) hx hb dX1_add_52 (by decide) ?_
      refine lv_iadd hx hb dX1_add_53 ?_
      refine lv_topi (fun z_3 ez_3 => ?_)
      have tz_3 : z_3.toInt = cc.toInt + 1 := ar_add rfl ti_1 ez_3 (by omega)
      refine va_put (D := (dC, dI)) (ci := 1) (v := .int z_3) (ty := .int) (C := RX1) (T := TX1) (N := 4) hx hb hg gb_1 tyX1 tyX1_ok nmX1 hown hK hP hD hS 0 rfl rfl 3 (by decide) (hg _ gm_fieldLink_RX1_21_ErrandGuild_Errand_count_I_) (fun _ h9 => h9) rfl (by decide +kernel) rfl rfl (Nat.le_of_ble_eq_true rfl) dX1_add_54 (fun H locs hP hD hS => ?_)
      have hP : va_P (dC, dI) vwCl [(h0, .inr (1, [.ref w0, .ref w1, .ref w2, .int z_3])), (w0, .inl (k0, 24, .inl (upd f0 (Int32.toNatClampNeg cc) v1))), (w1, .inl (k1, 24, .inl (upd f1 (Int32.toNatClampNeg cc) v2))), (w2, .inl (k2, 24, .inl (upd f2 (Int32.toNatClampNeg cc) v3)))] H := hP
      have hD : va_D A [(h0, .inr (1, [.ref w0, .ref w1, .ref w2, .int z_3])), (w0, .inl (k0, 24, .inl (upd f0 (Int32.toNatClampNeg cc) v1))), (w1, .inl (k1, 24, .inl (upd f1 (Int32.toNatClampNeg cc) v2))), (w2, .inl (k2, 24, .inl (upd f2 (Int32.toNatClampNeg cc) v3)))] := hD
      have hP9 := hP.sub (ws' := [(h0, .inr (1, [.ref w0, .ref w1, .ref w2, .int z_3])), (w0, .inl (k0, 24, .inl (upd f0 (Int32.toNatClampNeg cc) v1))), (w1, .inl (k1, 24, .inl (upd f1 (Int32.toNatClampNeg cc) v2))), (w2, .inl (k2, 24, .inl (upd f2 (Int32.toNatClampNeg cc) v3)))]) [0, 1, 2, 3] rfl
      have hD9 := hD.sub (ws' := [(h0, .inr (1, [.ref w0, .ref w1, .ref w2, .int z_3])), (w0, .inl (k0, 24, .inl (upd f0 (Int32.toNatClampNeg cc) v1))), (w1, .inl (k1, 24, .inl (upd f1 (Int32.toNatClampNeg cc) v2))), (w2, .inl (k2, 24, .inl (upd f2 (Int32.toNatClampNeg cc) v3)))]) [0, 1, 2, 3] (by decide) rfl
      have hK9 := hK.sub (tys' := []) [] rfl
      exact W.vret hx hb hr (fun t ht hW => ⟨⟨((fun _ => 0), (fun _ => (dC 0)), (fun k => ([upd f0 (Int32.toNatClampNeg cc) v1, upd f1 (Int32.toNatClampNeg cc) v2, upd f2 (Int32.toNatClampNeg cc) v3, (fun _ => z_3)] : List (Nat → Int32)).getD k (fun _ => 0)), (fun _ => (fun _ => none))), rfl, trivial, by rw [ht]; exact hP9, hD9, va_K.moved hW.alike hK9, (by show upd f0 (Int32.toNatClampNeg cc) v1 = bnF cc f0 v1; (subst_vars; first | rfl | ((try simp only [aN, aF, st8, st17, wrOr, gvAt, bdOr, rbF, bnN, bnM, bnF, frN, ctN, caN, caB, caA, hAt, cAt, nb1, nb0]); first | rfl | (rw [if_pos (by omega)]; done) | (rw [if_neg (by omega)]; done) | (rw [if_pos (by omega)]; rfl) | (rw [if_neg (by omega)]; rfl)))), (by show upd f1 (Int32.toNatClampNeg cc) v2 = bnF cc f1 v2; (subst_vars; first | rfl | ((try simp only [aN, aF, st8, st17, wrOr, gvAt, bdOr, rbF, bnN, bnM, bnF, frN, ctN, caN, caB, caA, hAt, cAt, nb1, nb0]); first | rfl | (rw [if_pos (by omega)]; done) | (rw [if_neg (by omega)]; done) | (rw [if_pos (by omega)]; rfl) | (rw [if_neg (by omega)]; rfl)))), (by show upd f2 (Int32.toNatClampNeg cc) v3 = bnF cc f2 v3; (subst_vars; first | rfl | ((try simp only [aN, aF, st8, st17, wrOr, gvAt, bdOr, rbF, bnN, bnM, bnF, frN, ctN, caN, caB, caA, hAt, cAt, nb1, nb0]); first | rfl | (rw [if_pos (by omega)]; done) | (rw [if_neg (by omega)]; done) | (rw [if_pos (by omega)]; rfl) | (rw [if_neg (by omega)]; rfl)))), (by show z_3 = bnN cc; (subst_vars; first | rfl | ((try simp only [aN, aF, st8, st17, wrOr, gvAt, bdOr, rbF, bnN, bnM, bnF, frN, ctN, caN, caB, caA, hAt, cAt, nb1, nb0]); first | rfl | (rw [if_pos (by omega)]; done) | (rw [if_neg (by omega)]; done) | (rw [if_pos (by omega)]; rfl) | (rw [if_neg (by omega)]; rfl))))⟩, hS.F ht⟩) hS.2.2 dX1_add_57
    · simp only [i_lt, i_le, i_eq, ti_24] at c_2
      have hP9 := hP.sub (ws' := [(h0, .inr (1, [.ref w0, .ref w1, .ref w2, .int cc])), (w0, .inl (k0, 24, .inl f0)), (w1, .inl (k1, 24, .inl f1)), (w2, .inl (k2, 24, .inl f2))]) [0, 1, 2, 3] rfl
      have hD9 := hD.sub (ws' := [(h0, .inr (1, [.ref w0, .ref w1, .ref w2, .int cc])), (w0, .inl (k0, 24, .inl f0)), (w1, .inl (k1, 24, .inl f1)), (w2, .inl (k2, 24, .inl f2))]) [0, 1, 2, 3] (by decide) rfl
      have hK9 := hK.sub (tys' := []) [] rfl
      exact W.vret hx hb hr (fun t ht hW => ⟨⟨((fun _ => 0), (fun _ => (dC 0)), (fun k => ([f0, f1, f2, (fun _ => cc)] : List (Nat → Int32)).getD k (fun _ => 0)), (fun _ => (fun _ => none))), rfl, trivial, by rw [ht]; exact hP9, hD9, va_K.moved hW.alike hK9, (by show f0 = bnF cc f0 v1; (subst_vars; first | rfl | ((try simp only [aN, aF, st8, st17, wrOr, gvAt, bdOr, rbF, bnN, bnM, bnF, frN, ctN, caN, caB, caA, hAt, cAt, nb1, nb0]); first | rfl | (rw [if_pos (by omega)]; done) | (rw [if_neg (by omega)]; done) | (rw [if_pos (by omega)]; rfl) | (rw [if_neg (by omega)]; rfl)))), (by show f1 = bnF cc f1 v2; (subst_vars; first | rfl | ((try simp only [aN, aF, st8, st17, wrOr, gvAt, bdOr, rbF, bnN, bnM, bnF, frN, ctN, caN, caB, caA, hAt, cAt, nb1, nb0]); first | rfl | (rw [if_pos (by omega)]; done) | (rw [if_neg (by omega)]; done) | (rw [if_pos (by omega)]; rfl) | (rw [if_neg (by omega)]; rfl)))), (by show f2 = bnF cc f2 v3; (subst_vars; first | rfl | ((try simp only [aN, aF, st8, st17, wrOr, gvAt, bdOr, rbF, bnN, bnM, bnF, frN, ctN, caN, caB, caA, hAt, cAt, nb1, nb0]); first | rfl | (rw [if_pos (by omega)]; done) | (rw [if_neg (by omega)]; done) | (rw [if_pos (by omega)]; rfl) | (rw [if_neg (by omega)]; rfl)))), (by show cc = bnN cc; (subst_vars; first | rfl | ((try simp only [aN, aF, st8, st17, wrOr, gvAt, bdOr, rbF, bnN, bnM, bnF, frN, ctN, caN, caB, caA, hAt, cAt, nb1, nb0]); first | rfl | (rw [if_pos (by omega)]; done) | (rw [if_neg (by omega)]; done) | (rw [if_pos (by omega)]; rfl) | (rw [if_neg (by omega)]; rfl))))⟩, hS.F ht⟩) hS.2.2 dX1_add_16
