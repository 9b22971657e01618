set_option maxHeartbeats 4000000 in
set_option maxRecDepth 100000 in
theorem c_X9_slot (l : Launch) (dC : Nat → ClassId) (dI : Nat → Nat → Nat) (h0 : Nat) (y0 : Nat) (y1 : Nat) (y2 : Nat) (y3 : Nat) (y4 : Nat) (y5 : Nat) (y6 : Nat) (y7 : Nat) (y8 : Nat) (rc : Int32) (tc : Int32) (bt : Int32) (rdc : Int32) (akc : Int32) (tnc : Int32) (k0 : ClassId) (k1 : ClassId) (f0 : Nat → Int32) (f1 : Nat → Int32) (v1 : Int32) (v2 : Int32) (v3 : Int32) (sz : Nat)  : Met l yX9_slot (.code yX9_slot cX9_slot 4 (some .boolean) :: gw) ({ frames := 1, cells := 0, slots := 0, locals := 20 }) (va_Pc [.ref h0, .int v1, .int v2, .int v3] (fun U => U.heap.size = sz ∧ va_P (dC, dI) vwCl [(h0, .inr (9, [.ref y0, .ref y1, .ref y2, .ref y3, .ref y4, .int rc, .ref y5, .int tc, .int bt, .ref y6, .int rdc, .ref y7, .int akc, .ref y8, .int tnc])), (y0, .inl (k0, 8, .inl f0)), (y1, .inl (k1, 8, .inl f1))] U.heap ∧ va_K (dC, dI) vwCl [(k0, .int), (k1, .int)] U ∧ va_D (fun _ => True) [(h0, .inr (9, [.ref y0, .ref y1, .ref y2, .ref y3, .ref y4, .int rc, .ref y5, .int tc, .int bt, .ref y6, .int rdc, .ref y7, .int akc, .ref y8, .int tnc])), (y0, .inl (k0, 8, .inl f0)), (y1, .inl (k1, 8, .inl f1))] ∧ nx U)) (va_Qi (fun (r : Int32) (u : wS) => (r = 1 ∧ True) ∨ (r = 0 ∧ True)) (fun u t => va_P (dC, dI) vwCl [(h0, .inr (9, [.ref y0, .ref y1, .ref y2, .ref y3, .ref y4, .int rc, .ref y5, .int tc, .int bt, .ref y6, .int rdc, .ref y7, .int akc, .ref y8, .int tnc])), (y0, .inl (k0, 8, .inl (u.2.2.1 0))), (y1, .inl (k1, 8, .inl (u.2.2.1 1)))] t.heap ∧ va_D (va_A [(h0, .inr (9, [.ref y0, .ref y1, .ref y2, .ref y3, .ref y4, .int rc, .ref y5, .int tc, .int bt, .ref y6, .int rdc, .ref y7, .int akc, .ref y8, .int tnc])), (y0, .inl (k0, 8, .inl f0)), (y1, .inl (k1, 8, .inl f1))] sz) [(h0, .inr (9, [.ref y0, .ref y1, .ref y2, .ref y3, .ref y4, .int rc, .ref y5, .int tc, .int bt, .ref y6, .int rdc, .ref y7, .int akc, .ref y8, .int tnc])), (y0, .inl (k0, 8, .inl (u.2.2.1 0))), (y1, .inl (k1, 8, .inl (u.2.2.1 1)))] ∧ va_K (dC, dI) vwCl [] t) (va_A [(h0, .inr (9, [.ref y0, .ref y1, .ref y2, .ref y3, .ref y4, .int rc, .ref y5, .int tc, .int bt, .ref y6, .int rdc, .ref y7, .int akc, .ref y8, .int tnc])), (y0, .inl (k0, 8, .inl f0)), (y1, .inl (k1, 8, .inl f1))] sz)) 0 0 (va_A [(h0, .inr (9, [.ref y0, .ref y1, .ref y2, .ref y3, .ref y4, .int rc, .ref y5, .int tc, .int bt, .ref y6, .int rdc, .ref y7, .int akc, .ref y8, .int tnc])), (y0, .inl (k0, 8, .inl f0)), (y1, .inl (k1, 8, .inl f1))] sz) := by
  refine Met.ofW (cc := cX9_slot) (maxL := 4) (ret := (some .boolean)) (by decide) rfl ?_
  intro p e s m args below meth c s₁ B hml hv
  obtain ⟨rfl, hsz, hP, hK, hD0, hN⟩ := hv
  have hx := B.exec
  have hb := B.bytes
  have hr := B.returns
  have hts := atoms_spec (ws := .code yX9_slot cX9_slot 4 (some .boolean) :: gw) B.pre
  have hg : ∀ w ∈ gw, w.before _ s = true := fun w h => hts w (List.mem_cons_of_mem _ h)
  have hown : s.vm.findClass RX9 = some m.cls := findClass_of_methodNamed B.named
  have hlocks := B.notSynchronized
  subst hsz
  have hD := hD0.self (sz := s.heap.size)
  generalize hAe : va_A [(h0, .inr (9, [.ref y0, .ref y1, .ref y2, .ref y3, .ref y4, .int rc, .ref y5, .int tc, .int bt, .ref y6, .int rdc, .ref y7, .int akc, .ref y8, .int tnc])), (y0, .inl (k0, 8, .inl f0)), (y1, .inl (k1, 8, .inl f1))] s.heap.size = A at hD ⊢
  have hA : ∀ q : Nat, s.heap.size ≤ q → A q := fun q h => by rw [← hAe]; exact Or.inr h
  have hS : va_S A s.heap s.heap [] := va_S.rf
  have hP : va_P (dC, dI) vwCl [(h0, .inr (9, [.ref y0, .ref y1, .ref y2, .ref y3, .ref y4, .int rc, .ref y5, .int tc, .int bt, .ref y6, .int rdc, .ref y7, .int akc, .ref y8, .int tnc])), (y0, .inl (k0, 8, .inl f0)), (y1, .inl (k1, 8, .inl f1))] s.heap := hP
  have hl := lv_entry ([.ref h0, .int v1, .int v2, .int v3]) (n := 4) (Nat.le_of_ble_eq_true rfl)
  rw [lg_entry_eq]
  generalize (lg_sl ([.ref h0, .int v1, .int v2, .int v3]) ++ List.replicate (4 - (lg_sl ([.ref h0, .int v1, .int v2, .int v3])).length) Slot.unset).toArray = ls at hl ⊢
  have hl : lv_has ls 4 [(0, .ref h0), (1, .int v1), (2, .int v2), (3, .int v3)] := hl
  refine lv_iload_n hx hb dX9_slot_0 rfl (lv_at hl 1 rfl) ?_
  have hPc := hP.sub (ws' := []) [] rfl
  have hDc := hD.sub (ws' := []) [] (by decide) rfl
  have hKc := hK.sub (tys' := []) [] rfl
  have hFc := va_free (wc := []) hD hS hA [] rfl
  refine va_calli (va_runS (As := [.int v1]) (rest := []) ⟨hx, hb, hml, hown, hg⟩ (c_X9_isSlot l dC dI v1 s.heap.size ) (va_cwS 1 hg (gw_S gm_methodLink_RX9_62_yX9_isSlot gm_static_yX9_isSlot gm_initialized_RX9 gm_code_yX9_isSlot_cX9_isSlot_1_some_boolean_) rfl rfl rfl (by decide +kernel) ⟨Nat.le_of_ble_eq_true rfl, Nat.le_of_ble_eq_true rfl⟩) ⟨fun a U g mk q => by obtain ⟨q0, q1, qP, qK, qD, qN⟩ := q; exact ⟨q0, q1, qP, va_K.moved (u := U) (U := U.calling g mk a) (Vm.Alike.refl U.vm) qK, qD, nx_same (u := U) (U := U.calling g mk a) rfl qN⟩, fun U hU hW => ⟨rfl, by rw [hU], by rw [hU]; exact hPc, va_K.moved hW.alike hKc, hDc.weaken (fun _ _ _ _ => trivial), nx_warm hW hN⟩⟩ rfl rfl hl.1 rfl (lv_room (Nat.le_of_ble_eq_true rfl)) dX9_slot_1 ⟨Nat.le_of_ble_eq_true rfl, Nat.le_of_ble_eq_true rfl⟩) hS (fun q _ h => hFc q h) hFc (fun r_1 u_2 t H1 locs ht hvm hw hB hz1 hk1 hS => ?_)
  have hP1 : va_P (dC, dI) vwCl [] H1 := nil_P
  have hD1 := nil_D (A := va_A [] s.heap.size)
  obtain ⟨hP, hD⟩ := va_join (wr := [(h0, .inr (9, [.ref y0, .ref y1, .ref y2, .ref y3, .ref y4, .int rc, .ref y5, .int tc, .int bt, .ref y6, .int rdc, .ref y7, .int akc, .ref y8, .int tnc])), (y0, .inl (k0, 8, .inl f0)), (y1, .inl (k1, 8, .inl f1))]) (w1 := []) hP hD [] [0, 1, 2] rfl rfl (by decide) (by decide +kernel) hk1 hFc hP1 hD1
  generalize H1 = H at hP hS ⊢
  have hP : va_P (dC, dI) vwCl [(h0, .inr (9, [.ref y0, .ref y1, .ref y2, .ref y3, .ref y4, .int rc, .ref y5, .int tc, .int bt, .ref y6, .int rdc, .ref y7, .int akc, .ref y8, .int tnc])), (y0, .inl (k0, 8, .inl f0)), (y1, .inl (k1, 8, .inl f1))] H := hP
  have hD : va_D A [(h0, .inr (9, [.ref y0, .ref y1, .ref y2, .ref y3, .ref y4, .int rc, .ref y5, .int tc, .int bt, .ref y6, .int rdc, .ref y7, .int akc, .ref y8, .int tnc])), (y0, .inl (k0, 8, .inl f0)), (y1, .inl (k1, 8, .inl f1))] := hD
  refine W.widen (k := 0) (n := 0) (Nat.le_of_ble_eq_true rfl) (Nat.le_of_ble_eq_true rfl) ?_
  rcases hw with ⟨rfl, w_3⟩ | ⟨rfl, w_3⟩
  · refine lv_if_eq (tgt := 23) hx hb dX9_slot_4 (by decide) (fun c_4 => absurd c_4 (by decide)) (fun _ => ?_)
    refine lv_iload_n hx hb dX9_slot_7 rfl (lv_at hl 2 rfl) ?_
    refine lv_if_lt (tgt := 23) hx hb dX9_slot_8 (by decide) (fun c_5 => ?_) (fun c_5 => ?_)
    · simp only [i_lt, i_le, i_eq, ti_0] at c_5
      refine lv_iconst (v := 0) hx hb dX9_slot_23 (by decide) ?_
      have hP9 := hP.sub (ws' := [(h0, .inr (9, [.ref y0, .ref y1, .ref y2, .ref y3, .ref y4, .int rc, .ref y5, .int tc, .int bt, .ref y6, .int rdc, .ref y7, .int akc, .ref y8, .int tnc])), (y0, .inl (k0, 8, .inl f0)), (y1, .inl (k1, 8, .inl f1))]) [0, 1, 2] rfl
      have hD9 := hD.sub (ws' := [(h0, .inr (9, [.ref y0, .ref y1, .ref y2, .ref y3, .ref y4, .int rc, .ref y5, .int tc, .int bt, .ref y6, .int rdc, .ref y7, .int akc, .ref y8, .int tnc])), (y0, .inl (k0, 8, .inl f0)), (y1, .inl (k1, 8, .inl f1))]) [0, 1, 2] (by decide) rfl
      have hK9 := hK.sub (tys' := []) [] rfl
      exact W.zret (v := 0) hx hb hr rfl (fun t ht hW => ⟨⟨0, ((fun _ => 0), (fun _ => (dC 0)), (fun k => ([f0, f1] : List (Nat → Int32)).getD k (fun _ => 0)), (fun _ => (fun _ => none))), rfl, (Or.inr ⟨rfl, trivial⟩), by rw [ht]; exact hP9, hD9, va_K.moved hW.alike hK9⟩, hS.F ht⟩) hS.2.2 dX9_slot_24
    · simp only [i_lt, i_le, i_eq, ti_0] at c_5
      refine lv_iload_n hx hb dX9_slot_11 rfl (lv_at hl 2 rfl) ?_
      refine lv_iconst (v := 4) hx hb dX9_slot_12 (by decide) ?_
      refine lv_icmp_gt (tgt := 23) hx hb dX9_slot_13 (by decide) (fun c_6 => ?_) (fun c_6 => ?_)
      · simp only [i_lt, i_le, i_eq, ti_4] at c_6
        refine lv_iconst (v := 0) hx hb dX9_slot_23 (by decide) ?_
        have hP9 := hP.sub (ws' := [(h0, .inr (9, [.ref y0, .ref y1, .ref y2, .ref y3, .ref y4, .int rc, .ref y5, .int tc, .int bt, .ref y6, .int rdc, .ref y7, .int akc, .ref y8, .int tnc])), (y0, .inl (k0, 8, .inl f0)), (y1, .inl (k1, 8, .inl f1))]) [0, 1, 2] rfl
        have hD9 := hD.sub (ws' := [(h0, .inr (9, [.ref y0, .ref y1, .ref y2, .ref y3, .ref y4, .int rc, .ref y5, .int tc, .int bt, .ref y6, .int rdc, .ref y7, .int akc, .ref y8, .int tnc])), (y0, .inl (k0, 8, .inl f0)), (y1, .inl (k1, 8, .inl f1))]) [0, 1, 2] (by decide) rfl
        have hK9 := hK.sub (tys' := []) [] rfl
        exact W.zret (v := 0) hx hb hr rfl (fun t ht hW => ⟨⟨0, ((fun _ => 0), (fun _ => (dC 0)), (fun k => ([f0, f1] : List (Nat → Int32)).getD k (fun _ => 0)), (fun _ => (fun _ => none))), rfl, (Or.inr ⟨rfl, trivial⟩), by rw [ht]; exact hP9, hD9, va_K.moved hW.alike hK9⟩, hS.F ht⟩) hS.2.2 dX9_slot_24
      · simp only [i_lt, i_le, i_eq, ti_4] at c_6
        refine lv_aload_n hx hb dX9_slot_16 rfl (lv_at hl 0 rfl) ?_
        refine va_get (D := (dC, dI)) (ci := 9) (v := .int rc) (C := RX9) (T := TX9) (N := 15) hx hb hg gb_9 hown hK hP 0 rfl rfl 5 (by decide) (hg _ gm_fieldLink_RX9_66_ErrandGuild_runCount_I_) (fun _ h9 => h9) rfl dX9_slot_17 ?_
        refine lv_if_le (tgt := 25) hx hb dX9_slot_20 (by decide) (fun c_7 => ?_) (fun c_7 => ?_)
        · simp only [i_lt, i_le, i_eq, ti_0] at c_7
          refine lv_aload_n hx hb dX9_slot_25 rfl (lv_at hl 0 rfl) ?_
          refine va_get (D := (dC, dI)) (ci := 9) (v := .ref y0) (C := RX9) (T := TX9) (N := 15) hx hb hg gb_9 hown hK hP 0 rfl rfl 0 (by decide) (hg _ gm_fieldLink_RX9_9_ErrandGuild_manners_AI_) (fun _ h9 => h9) rfl dX9_slot_26 ?_
          refine lv_iload_n hx hb dX9_slot_29 rfl (lv_at hl 1 rfl) ?_
          refine lv_iload_n hx hb dX9_slot_30 rfl (lv_at hl 2 rfl) ?_
          refine va_iast hx hb hK hP hD hS 1 0 rfl rfl (vp_in_iff.mpr ⟨by omega, by omega⟩) dX9_slot_31 (fun H locs hP hD hS => ?_)
          have hP : va_P (dC, dI) vwCl [(h0, .inr (9, [.ref y0, .ref y1, .ref y2, .ref y3, .ref y4, .int rc, .ref y5, .int tc, .int bt, .ref y6, .int rdc, .ref y7, .int akc, .ref y8, .int tnc])), (y0, .inl (k0, 8, .inl (upd f0 (Int32.toNatClampNeg v1) v2))), (y1, .inl (k1, 8, .inl f1))] H := hP
          have hD : va_D A [(h0, .inr (9, [.ref y0, .ref y1, .ref y2, .ref y3, .ref y4, .int rc, .ref y5, .int tc, .int bt, .ref y6, .int rdc, .ref y7, .int akc, .ref y8, .int tnc])), (y0, .inl (k0, 8, .inl (upd f0 (Int32.toNatClampNeg v1) v2))), (y1, .inl (k1, 8, .inl f1))] := hD
          refine lv_aload_n hx hb dX9_slot_32 rfl (lv_at hl 0 rfl) ?_
          refine va_get (D := (dC, dI)) (ci := 9) (v := .ref y1) (C := RX9) (T := TX9) (N := 15) hx hb hg gb_9 hown hK hP 0 rfl rfl 1 (by decide) (hg _ gm_fieldLink_RX9_13_ErrandGuild_firsts_AI_) (fun _ h9 => h9) rfl dX9_slot_33 ?_
          refine lv_iload_n hx hb dX9_slot_36 rfl (lv_at hl 1 rfl) ?_
          refine lv_iload_n hx hb dX9_slot_37 rfl (lv_at hl 3 rfl) ?_
          refine va_iast hx hb hK hP hD hS 2 1 rfl rfl (vp_in_iff.mpr ⟨by omega, by omega⟩) dX9_slot_38 (fun H locs hP hD hS => ?_)
          have hP : va_P (dC, dI) vwCl [(h0, .inr (9, [.ref y0, .ref y1, .ref y2, .ref y3, .ref y4, .int rc, .ref y5, .int tc, .int bt, .ref y6, .int rdc, .ref y7, .int akc, .ref y8, .int tnc])), (y0, .inl (k0, 8, .inl (upd f0 (Int32.toNatClampNeg v1) v2))), (y1, .inl (k1, 8, .inl (upd f1 (Int32.toNatClampNeg v1) v3)))] H := hP
          have hD : va_D A [(h0, .inr (9, [.ref y0, .ref y1, .ref y2, .ref y3, .ref y4, .int rc, .ref y5, .int tc, .int bt, .ref y6, .int rdc, .ref y7, .int akc, .ref y8, .int tnc])), (y0, .inl (k0, 8, .inl (upd f0 (Int32.toNatClampNeg v1) v2))), (y1, .inl (k1, 8, .inl (upd f1 (Int32.toNatClampNeg v1) v3)))] := hD
          refine lv_iconst (v := 1) hx hb dX9_slot_39 (by decide) ?_
          have hP9 := hP.sub (ws' := [(h0, .inr (9, [.ref y0, .ref y1, .ref y2, .ref y3, .ref y4, .int rc, .ref y5, .int tc, .int bt, .ref y6, .int rdc, .ref y7, .int akc, .ref y8, .int tnc])), (y0, .inl (k0, 8, .inl (upd f0 (Int32.toNatClampNeg v1) v2))), (y1, .inl (k1, 8, .inl (upd f1 (Int32.toNatClampNeg v1) v3)))]) [0, 1, 2] rfl
          have hD9 := hD.sub (ws' := [(h0, .inr (9, [.ref y0, .ref y1, .ref y2, .ref y3, .ref y4, .int rc, .ref y5, .int tc, .int bt, .ref y6, .int rdc, .ref y7, .int akc, .ref y8, .int tnc])), (y0, .inl (k0, 8, .inl (upd f0 (Int32.toNatClampNeg v1) v2))), (y1, .inl (k1, 8, .inl (upd f1 (Int32.toNatClampNeg v1) v3)))]) [0, 1, 2] (by decide) rfl
          have hK9 := hK.sub (tys' := []) [] rfl
          exact W.zret (v := 1) hx hb hr rfl (fun t ht hW => ⟨⟨1, ((fun _ => 0), (fun _ => (dC 0)), (fun k => ([upd f0 (Int32.toNatClampNeg v1) v2, upd f1 (Int32.toNatClampNeg v1) v3] : List (Nat → Int32)).getD k (fun _ => 0)), (fun _ => (fun _ => none))), rfl, (Or.inl ⟨rfl, trivial⟩), by rw [ht]; exact hP9, hD9, va_K.moved hW.alike hK9⟩, hS.F ht⟩) hS.2.2 dX9_slot_40
        · simp only [i_lt, i_le, i_eq, ti_0] at c_7
          refine lv_iconst (v := 0) hx hb dX9_slot_23 (by decide) ?_
          have hP9 := hP.sub (ws' := [(h0, .inr (9, [.ref y0, .ref y1, .ref y2, .ref y3, .ref y4, .int rc, .ref y5, .int tc, .int bt, .ref y6, .int rdc, .ref y7, .int akc, .ref y8, .int tnc])), (y0, .inl (k0, 8, .inl f0)), (y1, .inl (k1, 8, .inl f1))]) [0, 1, 2] rfl
          have hD9 := hD.sub (ws' := [(h0, .inr (9, [.ref y0, .ref y1, .ref y2, .ref y3, .ref y4, .int rc, .ref y5, .int tc, .int bt, .ref y6, .int rdc, .ref y7, .int akc, .ref y8, .int tnc])), (y0, .inl (k0, 8, .inl f0)), (y1, .inl (k1, 8, .inl f1))]) [0, 1, 2] (by decide) rfl
          have hK9 := hK.sub (tys' := []) [] rfl
          exact W.zret (v := 0) hx hb hr rfl (fun t ht hW => ⟨⟨0, ((fun _ => 0), (fun _ => (dC 0)), (fun k => ([f0, f1] : List (Nat → Int32)).getD k (fun _ => 0)), (fun _ => (fun _ => none))), rfl, (Or.inr ⟨rfl, trivial⟩), by rw [ht]; exact hP9, hD9, va_K.moved hW.alike hK9⟩, hS.F ht⟩) hS.2.2 dX9_slot_24
  · refine lv_if_eq (tgt := 23) hx hb dX9_slot_4 (by decide) (fun _ => ?_) (fun c_8 => absurd c_8 (by decide))
    refine lv_iconst (v := 0) hx hb dX9_slot_23 (by decide) ?_
    have hP9 := hP.sub (ws' := [(h0, .inr (9, [.ref y0, .ref y1, .ref y2, .ref y3, .ref y4, .int rc, .ref y5, .int tc, .int bt, .ref y6, .int rdc, .ref y7, .int akc, .ref y8, .int tnc])), (y0, .inl (k0, 8, .inl f0)), (y1, .inl (k1, 8, .inl f1))]) [0, 1, 2] rfl
    have hD9 := hD.sub (ws' := [(h0, .inr (9, [.ref y0, .ref y1, .ref y2, .ref y3, .ref y4, .int rc, .ref y5, .int tc, .int bt, .ref y6, .int rdc, .ref y7, .int akc, .ref y8, .int tnc])), (y0, .inl (k0, 8, .inl f0)), (y1, .inl (k1, 8, .inl f1))]) [0, 1, 2] (by decide) rfl
    have hK9 := hK.sub (tys' := []) [] rfl
    exact W.zret (v := 0) hx hb hr rfl (fun t ht hW => ⟨⟨0, ((fun _ => 0), (fun _ => (dC 0)), (fun k => ([f0, f1] : List (Nat → Int32)).getD k (fun _ => 0)), (fun _ => (fun _ => none))), rfl, (Or.inr ⟨rfl, trivial⟩), by rw [ht]; exact hP9, hD9, va_K.moved hW.alike hK9⟩, hS.F ht⟩) hS.2.2 dX9_slot_24

set_option maxHeartbeats 4000000 in
set_option maxRecDepth 100000 in
theorem c_X9_first (l : Launch) (dC : Nat → ClassId) (dI : Nat → Nat → Nat) (h0 : Nat) (y0 : Nat) (y1 : Nat) (y2 : Nat) (y3 : Nat) (y4 : Nat) (y5 : Nat) (y6 : Nat) (y7 : Nat) (y8 : Nat) (rc : Int32) (tc : Int32) (bt : Int32) (rdc : Int32) (akc : Int32) (tnc : Int32) (k1 : ClassId) (f1 : Nat → Int32) (v1 : Int32) (v2 : Int32) (sz : Nat)  : Met l yX9_first (.code yX9_first cX9_first 3 (some .boolean) :: gw) ({ frames := 1, cells := 0, slots := 0, locals := 20 }) (va_Pc [.ref h0, .int v1, .int v2] (fun U => U.heap.size = sz ∧ va_P (dC, dI) vwCl [(h0, .inr (9, [.ref y0, .ref y1, .ref y2, .ref y3, .ref y4, .int rc, .ref y5, .int tc, .int bt, .ref y6, .int rdc, .ref y7, .int akc, .ref y8, .int tnc])), (y1, .inl (k1, 8, .inl f1))] U.heap ∧ va_K (dC, dI) vwCl [(k1, .int)] U ∧ va_D (fun _ => True) [(h0, .inr (9, [.ref y0, .ref y1, .ref y2, .ref y3, .ref y4, .int rc, .ref y5, .int tc, .int bt, .ref y6, .int rdc, .ref y7, .int akc, .ref y8, .int tnc])), (y1, .inl (k1, 8, .inl f1))] ∧ nx U)) (va_Qi (fun (r : Int32) (u : wS) => (r = 1 ∧ (0 ≤ v1.toInt ∧ v1.toInt < 8)) ∨ (r = 0 ∧ ¬ (0 ≤ v1.toInt ∧ v1.toInt < 8))) (fun u t => va_P (dC, dI) vwCl [(h0, .inr (9, [.ref y0, .ref y1, .ref y2, .ref y3, .ref y4, .int rc, .ref y5, .int tc, .int bt, .ref y6, .int rdc, .ref y7, .int akc, .ref y8, .int tnc])), (y1, .inl (k1, 8, .inl (u.2.2.1 1)))] t.heap ∧ va_D (va_A [(h0, .inr (9, [.ref y0, .ref y1, .ref y2, .ref y3, .ref y4, .int rc, .ref y5, .int tc, .int bt, .ref y6, .int rdc, .ref y7, .int akc, .ref y8, .int tnc])), (y1, .inl (k1, 8, .inl f1))] sz) [(h0, .inr (9, [.ref y0, .ref y1, .ref y2, .ref y3, .ref y4, .int rc, .ref y5, .int tc, .int bt, .ref y6, .int rdc, .ref y7, .int akc, .ref y8, .int tnc])), (y1, .inl (k1, 8, .inl (u.2.2.1 1)))] ∧ va_K (dC, dI) vwCl [] t) (va_A [(h0, .inr (9, [.ref y0, .ref y1, .ref y2, .ref y3, .ref y4, .int rc, .ref y5, .int tc, .int bt, .ref y6, .int rdc, .ref y7, .int akc, .ref y8, .int tnc])), (y1, .inl (k1, 8, .inl f1))] sz)) 0 0 (va_A [(h0, .inr (9, [.ref y0, .ref y1, .ref y2, .ref y3, .ref y4, .int rc, .ref y5, .int tc, .int bt, .ref y6, .int rdc, .ref y7, .int akc, .ref y8, .int tnc])), (y1, .inl (k1, 8, .inl f1))] sz) := by
  refine Met.ofW (cc := cX9_first) (maxL := 3) (ret := (some .boolean)) (by decide) rfl ?_
  intro p e s m args below meth c s₁ B hml hv
  obtain ⟨rfl, hsz, hP, hK, hD0, hN⟩ := hv
  have hx := B.exec
  have hb := B.bytes
  have hr := B.returns
  have hts := atoms_spec (ws := .code yX9_first cX9_first 3 (some .boolean) :: gw) B.pre
  have hg : ∀ w ∈ gw, w.before _ s = true := fun w h => hts w (List.mem_cons_of_mem _ h)
  have hown : s.vm.findClass RX9 = some m.cls := findClass_of_methodNamed B.named
  have hlocks := B.notSynchronized
  subst hsz
  have hD := hD0.self (sz := s.heap.size)
  generalize hAe : va_A [(h0, .inr (9, [.ref y0, .ref y1, .ref y2, .ref y3, .ref y4, .int rc, .ref y5, .int tc, .int bt, .ref y6, .int rdc, .ref y7, .int akc, .ref y8, .int tnc])), (y1, .inl (k1, 8, .inl f1))] s.heap.size = A at hD ⊢
  have hA : ∀ q : Nat, s.heap.size ≤ q → A q := fun q h => by rw [← hAe]; exact Or.inr h
  have hS : va_S A s.heap s.heap [] := va_S.rf
  have hP : va_P (dC, dI) vwCl [(h0, .inr (9, [.ref y0, .ref y1, .ref y2, .ref y3, .ref y4, .int rc, .ref y5, .int tc, .int bt, .ref y6, .int rdc, .ref y7, .int akc, .ref y8, .int tnc])), (y1, .inl (k1, 8, .inl f1))] s.heap := hP
  have hl := lv_entry ([.ref h0, .int v1, .int v2]) (n := 3) (Nat.le_of_ble_eq_true rfl)
  rw [lg_entry_eq]
  generalize (lg_sl ([.ref h0, .int v1, .int v2]) ++ List.replicate (3 - (lg_sl ([.ref h0, .int v1, .int v2])).length) Slot.unset).toArray = ls at hl ⊢
  have hl : lv_has ls 3 [(0, .ref h0), (1, .int v1), (2, .int v2)] := hl
  refine lv_iload_n hx hb dX9_first_0 rfl (lv_at hl 1 rfl) ?_
  have hPc := hP.sub (ws' := []) [] rfl
  have hDc := hD.sub (ws' := []) [] (by decide) rfl
  have hKc := hK.sub (tys' := []) [] rfl
  have hFc := va_free (wc := []) hD hS hA [] rfl
  refine va_calli (va_runS (As := [.int v1]) (rest := []) ⟨hx, hb, hml, hown, hg⟩ (c_X9_isSlot l dC dI v1 s.heap.size ) (va_cwS 1 hg (gw_S gm_methodLink_RX9_62_yX9_isSlot gm_static_yX9_isSlot gm_initialized_RX9 gm_code_yX9_isSlot_cX9_isSlot_1_some_boolean_) rfl rfl rfl (by decide +kernel) ⟨Nat.le_of_ble_eq_true rfl, Nat.le_of_ble_eq_true rfl⟩) ⟨fun a U g mk q => by obtain ⟨q0, q1, qP, qK, qD, qN⟩ := q; exact ⟨q0, q1, qP, va_K.moved (u := U) (U := U.calling g mk a) (Vm.Alike.refl U.vm) qK, qD, nx_same (u := U) (U := U.calling g mk a) rfl qN⟩, fun U hU hW => ⟨rfl, by rw [hU], by rw [hU]; exact hPc, va_K.moved hW.alike hKc, hDc.weaken (fun _ _ _ _ => trivial), nx_warm hW hN⟩⟩ rfl rfl hl.1 rfl (lv_room (Nat.le_of_ble_eq_true rfl)) dX9_first_1 ⟨Nat.le_of_ble_eq_true rfl, Nat.le_of_ble_eq_true rfl⟩) hS (fun q _ h => hFc q h) hFc (fun r_1 u_2 t H1 locs ht hvm hw hB hz1 hk1 hS => ?_)
  have hP1 : va_P (dC, dI) vwCl [] H1 := nil_P
  have hD1 := nil_D (A := va_A [] s.heap.size)
  obtain ⟨hP, hD⟩ := va_join (wr := [(h0, .inr (9, [.ref y0, .ref y1, .ref y2, .ref y3, .ref y4, .int rc, .ref y5, .int tc, .int bt, .ref y6, .int rdc, .ref y7, .int akc, .ref y8, .int tnc])), (y1, .inl (k1, 8, .inl f1))]) (w1 := []) hP hD [] [0, 1] rfl rfl (by decide) (by decide +kernel) hk1 hFc hP1 hD1
  generalize H1 = H at hP hS ⊢
  have hP : va_P (dC, dI) vwCl [(h0, .inr (9, [.ref y0, .ref y1, .ref y2, .ref y3, .ref y4, .int rc, .ref y5, .int tc, .int bt, .ref y6, .int rdc, .ref y7, .int akc, .ref y8, .int tnc])), (y1, .inl (k1, 8, .inl f1))] H := hP
  have hD : va_D A [(h0, .inr (9, [.ref y0, .ref y1, .ref y2, .ref y3, .ref y4, .int rc, .ref y5, .int tc, .int bt, .ref y6, .int rdc, .ref y7, .int akc, .ref y8, .int tnc])), (y1, .inl (k1, 8, .inl f1))] := hD
  refine W.widen (k := 0) (n := 0) (Nat.le_of_ble_eq_true rfl) (Nat.le_of_ble_eq_true rfl) ?_
  rcases hw with ⟨rfl, w_3⟩ | ⟨rfl, w_3⟩
  · refine lv_if_ne (tgt := 9) hx hb dX9_first_4 (by decide) (fun _ => ?_) (fun c_4 => absurd c_4 (by decide))
    refine lv_aload_n hx hb dX9_first_9 rfl (lv_at hl 0 rfl) ?_
    refine va_get (D := (dC, dI)) (ci := 9) (v := .ref y1) (C := RX9) (T := TX9) (N := 15) hx hb hg gb_9 hown hK hP 0 rfl rfl 1 (by decide) (hg _ gm_fieldLink_RX9_13_ErrandGuild_firsts_AI_) (fun _ h9 => h9) rfl dX9_first_10 ?_
    refine lv_iload_n hx hb dX9_first_13 rfl (lv_at hl 1 rfl) ?_
    refine lv_iload_n hx hb dX9_first_14 rfl (lv_at hl 2 rfl) ?_
    refine va_iast hx hb hK hP hD hS 1 0 rfl rfl (vp_in_iff.mpr ⟨by omega, by omega⟩) dX9_first_15 (fun H locs hP hD hS => ?_)
    have hP : va_P (dC, dI) vwCl [(h0, .inr (9, [.ref y0, .ref y1, .ref y2, .ref y3, .ref y4, .int rc, .ref y5, .int tc, .int bt, .ref y6, .int rdc, .ref y7, .int akc, .ref y8, .int tnc])), (y1, .inl (k1, 8, .inl (upd f1 (Int32.toNatClampNeg v1) v2)))] H := hP
    have hD : va_D A [(h0, .inr (9, [.ref y0, .ref y1, .ref y2, .ref y3, .ref y4, .int rc, .ref y5, .int tc, .int bt, .ref y6, .int rdc, .ref y7, .int akc, .ref y8, .int tnc])), (y1, .inl (k1, 8, .inl (upd f1 (Int32.toNatClampNeg v1) v2)))] := hD
    refine lv_iconst (v := 1) hx hb dX9_first_16 (by decide) ?_
    have hP9 := hP.sub (ws' := [(h0, .inr (9, [.ref y0, .ref y1, .ref y2, .ref y3, .ref y4, .int rc, .ref y5, .int tc, .int bt, .ref y6, .int rdc, .ref y7, .int akc, .ref y8, .int tnc])), (y1, .inl (k1, 8, .inl (upd f1 (Int32.toNatClampNeg v1) v2)))]) [0, 1] rfl
    have hD9 := hD.sub (ws' := [(h0, .inr (9, [.ref y0, .ref y1, .ref y2, .ref y3, .ref y4, .int rc, .ref y5, .int tc, .int bt, .ref y6, .int rdc, .ref y7, .int akc, .ref y8, .int tnc])), (y1, .inl (k1, 8, .inl (upd f1 (Int32.toNatClampNeg v1) v2)))]) [0, 1] (by decide) rfl
    have hK9 := hK.sub (tys' := []) [] rfl
    exact W.zret (v := 1) hx hb hr rfl (fun t ht hW => ⟨⟨1, ((fun _ => 0), (fun _ => (dC 0)), (fun k => ([(fun _ => 0), upd f1 (Int32.toNatClampNeg v1) v2] : List (Nat → Int32)).getD k (fun _ => 0)), (fun _ => (fun _ => none))), rfl, (Or.inl ⟨rfl, by omega⟩), by rw [ht]; exact hP9, hD9, va_K.moved hW.alike hK9⟩, hS.F ht⟩) hS.2.2 dX9_first_17
  · refine lv_if_ne (tgt := 9) hx hb dX9_first_4 (by decide) (fun c_5 => absurd c_5 (by decide)) (fun _ => ?_)
    refine lv_iconst (v := 0) hx hb dX9_first_7 (by decide) ?_
    have hP9 := hP.sub (ws' := [(h0, .inr (9, [.ref y0, .ref y1, .ref y2, .ref y3, .ref y4, .int rc, .ref y5, .int tc, .int bt, .ref y6, .int rdc, .ref y7, .int akc, .ref y8, .int tnc])), (y1, .inl (k1, 8, .inl f1))]) [0, 1] rfl
    have hD9 := hD.sub (ws' := [(h0, .inr (9, [.ref y0, .ref y1, .ref y2, .ref y3, .ref y4, .int rc, .ref y5, .int tc, .int bt, .ref y6, .int rdc, .ref y7, .int akc, .ref y8, .int tnc])), (y1, .inl (k1, 8, .inl f1))]) [0, 1] (by decide) rfl
    have hK9 := hK.sub (tys' := []) [] rfl
    exact W.zret (v := 0) hx hb hr rfl (fun t ht hW => ⟨⟨0, ((fun _ => 0), (fun _ => (dC 0)), (fun k => ([(fun _ => 0), f1] : List (Nat → Int32)).getD k (fun _ => 0)), (fun _ => (fun _ => none))), rfl, (Or.inr ⟨rfl, by omega⟩), by rw [ht]; exact hP9, hD9, va_K.moved hW.alike hK9⟩, hS.F ht⟩) hS.2.2 dX9_first_8

set_option maxHeartbeats 4000000 in
set_option maxRecDepth 100000 in
theorem c_X9_threads (l : Launch) (dC : Nat → ClassId) (dI : Nat → Nat → Nat) (h0 : Nat) (y0 : Nat) (y1 : Nat) (y2 : Nat) (y3 : Nat) (y4 : Nat) (y5 : Nat) (y6 : Nat) (y7 : Nat) (y8 : Nat) (rc : Int32) (tc : Int32) (bt : Int32) (rdc : Int32) (akc : Int32) (tnc : Int32) (v1 : Int32) (sz : Nat) (htc : 1 ≤ tc.toInt ∧ tc.toInt ≤ 6) : Met l yX9_threads (.code yX9_threads cX9_threads 2 (some .boolean) :: gw) ({ frames := 0, cells := 0, slots := 0, locals := 0 }) (va_Pc [.ref h0, .int v1] (fun U => U.heap.size = sz ∧ va_P (dC, dI) vwCl [(h0, .inr (9, [.ref y0, .ref y1, .ref y2, .ref y3, .ref y4, .int rc, .ref y5, .int tc, .int bt, .ref y6, .int rdc, .ref y7, .int akc, .ref y8, .int tnc]))] U.heap ∧ va_K (dC, dI) vwCl [] U ∧ va_D (fun _ => True) [(h0, .inr (9, [.ref y0, .ref y1, .ref y2, .ref y3, .ref y4, .int rc, .ref y5, .int tc, .int bt, .ref y6, .int rdc, .ref y7, .int akc, .ref y8, .int tnc]))] ∧ nx U)) (va_Qi (fun (r : Int32) (u : wS) => (r = 1 ∧ (1 ≤ (u.2.2.1 0 0).toInt ∧ (u.2.2.1 0 0).toInt ≤ 6)) ∨ (r = 0 ∧ (1 ≤ (u.2.2.1 0 0).toInt ∧ (u.2.2.1 0 0).toInt ≤ 6))) (fun u t => va_P (dC, dI) vwCl [(h0, .inr (9, [.ref y0, .ref y1, .ref y2, .ref y3, .ref y4, .int rc, .ref y5, .int (u.2.2.1 0 0), .int bt, .ref y6, .int rdc, .ref y7, .int akc, .ref y8, .int tnc]))] t.heap ∧ va_D (va_A [(h0, .inr (9, [.ref y0, .ref y1, .ref y2, .ref y3, .ref y4, .int rc, .ref y5, .int tc, .int bt, .ref y6, .int rdc, .ref y7, .int akc, .ref y8, .int tnc]))] sz) [(h0, .inr (9, [.ref y0, .ref y1, .ref y2, .ref y3, .ref y4, .int rc, .ref y5, .int (u.2.2.1 0 0), .int bt, .ref y6, .int rdc, .ref y7, .int akc, .ref y8, .int tnc]))] ∧ va_K (dC, dI) vwCl [] t) (va_A [(h0, .inr (9, [.ref y0, .ref y1, .ref y2, .ref y3, .ref y4, .int rc, .ref y5, .int tc, .int bt, .ref y6, .int rdc, .ref y7, .int akc, .ref y8, .int tnc]))] sz)) 0 0 (va_A [(h0, .inr (9, [.ref y0, .ref y1, .ref y2, .ref y3, .ref y4, .int rc, .ref y5, .int tc, .int bt, .ref y6, .int rdc, .ref y7, .int akc, .ref y8, .int tnc]))] sz) := by
  refine Met.ofW (cc := cX9_threads) (maxL := 2) (ret := (some .boolean)) (by decide) rfl ?_
  intro p e s m args below meth c s₁ B hml hv
  obtain ⟨rfl, hsz, hP, hK, hD0, hN⟩ := hv
  have hx := B.exec
  have hb := B.bytes
  have hr := B.returns
  have hts := atoms_spec (ws := .code yX9_threads cX9_threads 2 (some .boolean) :: gw) B.pre
  have hg : ∀ w ∈ gw, w.before _ s = true := fun w h => hts w (List.mem_cons_of_mem _ h)
  have hown : s.vm.findClass RX9 = some m.cls := findClass_of_methodNamed B.named
  have hlocks := B.notSynchronized
  subst hsz
  have hD := hD0.self (sz := s.heap.size)
  generalize hAe : va_A [(h0, .inr (9, [.ref y0, .ref y1, .ref y2, .ref y3, .ref y4, .int rc, .ref y5, .int tc, .int bt, .ref y6, .int rdc, .ref y7, .int akc, .ref y8, .int tnc]))] s.heap.size = A at hD ⊢
  have hA : ∀ q : Nat, s.heap.size ≤ q → A q := fun q h => by rw [← hAe]; exact Or.inr h
  have hS : va_S A s.heap s.heap [] := va_S.rf
  have hP : va_P (dC, dI) vwCl [(h0, .inr (9, [.ref y0, .ref y1, .ref y2, .ref y3, .ref y4, .int rc, .ref y5, .int tc, .int bt, .ref y6, .int rdc, .ref y7, .int akc, .ref y8, .int tnc]))] s.heap := hP
  have hl := lv_entry ([.ref h0, .int v1]) (n := 2) (Nat.le_of_ble_eq_true rfl)
  rw [lg_entry_eq]
  generalize (lg_sl ([.ref h0, .int v1]) ++ List.replicate (2 - (lg_sl ([.ref h0, .int v1])).length) Slot.unset).toArray = ls at hl ⊢
  have hl : lv_has ls 2 [(0, .ref h0), (1, .int v1)] := hl
  refine lv_iload_n hx hb dX9_threads_0 rfl (lv_at hl 1 rfl) ?_
  refine lv_iconst (v := 1) hx hb dX9_threads_1 (by decide) ?_
  refine lv_icmp_lt (tgt := 18) hx hb dX9_threads_2 (by decide) (fun c_1 => ?_) (fun c_1 => ?_)
  · simp only [i_lt, i_le, i_eq, ti_1] at c_1
    refine lv_iconst (v := 0) hx hb dX9_threads_18 (by decide) ?_
    have hP9 := hP.sub (ws' := [(h0, .inr (9, [.ref y0, .ref y1, .ref y2, .ref y3, .ref y4, .int rc, .ref y5, .int tc, .int bt, .ref y6, .int rdc, .ref y7, .int akc, .ref y8, .int tnc]))]) [0] rfl
    have hD9 := hD.sub (ws' := [(h0, .inr (9, [.ref y0, .ref y1, .ref y2, .ref y3, .ref y4, .int rc, .ref y5, .int tc, .int bt, .ref y6, .int rdc, .ref y7, .int akc, .ref y8, .int tnc]))]) [0] (by decide) rfl
    have hK9 := hK.sub (tys' := []) [] rfl
    exact W.zret (v := 0) hx hb hr rfl (fun t ht hW => ⟨⟨0, ((fun _ => 0), (fun _ => (dC 0)), (fun k => ([(fun _ => tc)] : List (Nat → Int32)).getD k (fun _ => 0)), (fun _ => (fun _ => none))), rfl, (Or.inr ⟨rfl, by show 1 ≤ tc.toInt ∧ tc.toInt ≤ 6; omega⟩), by rw [ht]; exact hP9, hD9, va_K.moved hW.alike hK9⟩, hS.F ht⟩) hS.2.2 dX9_threads_19
  · simp only [i_lt, i_le, i_eq, ti_1] at c_1
    refine lv_iload_n hx hb dX9_threads_5 rfl (lv_at hl 1 rfl) ?_
    refine lv_bipush (v := 6) hx hb dX9_threads_6 (by decide) ?_
    refine lv_icmp_gt (tgt := 18) hx hb dX9_threads_8 (by decide) (fun c_2 => ?_) (fun c_2 => ?_)
    · simp only [i_lt, i_le, i_eq, ti_6] at c_2
      refine lv_iconst (v := 0) hx hb dX9_threads_18 (by decide) ?_
      have hP9 := hP.sub (ws' := [(h0, .inr (9, [.ref y0, .ref y1, .ref y2, .ref y3, .ref y4, .int rc, .ref y5, .int tc, .int bt, .ref y6, .int rdc, .ref y7, .int akc, .ref y8, .int tnc]))]) [0] rfl
      have hD9 := hD.sub (ws' := [(h0, .inr (9, [.ref y0, .ref y1, .ref y2, .ref y3, .ref y4, .int rc, .ref y5, .int tc, .int bt, .ref y6, .int rdc, .ref y7, .int akc, .ref y8, .int tnc]))]) [0] (by decide) rfl
      have hK9 := hK.sub (tys' := []) [] rfl
      exact W.zret (v := 0) hx hb hr rfl (fun t ht hW => ⟨⟨0, ((fun _ => 0), (fun _ => (dC 0)), (fun k => ([(fun _ => tc)] : List (Nat → Int32)).getD k (fun _ => 0)), (fun _ => (fun _ => none))), rfl, (Or.inr ⟨rfl, by show 1 ≤ tc.toInt ∧ tc.toInt ≤ 6; omega⟩), by rw [ht]; exact hP9, hD9, va_K.moved hW.alike hK9⟩, hS.F ht⟩) hS.2.2 dX9_threads_19
    · simp only [i_lt, i_le, i_eq, ti_6] at c_2
      refine lv_aload_n hx hb dX9_threads_11 rfl (lv_at hl 0 rfl) ?_
      refine va_get (D := (dC, dI)) (ci := 9) (v := .int rc) (C := RX9) (T := TX9) (N := 15) hx hb hg gb_9 hown hK hP 0 rfl rfl 5 (by decide) (hg _ gm_fieldLink_RX9_66_ErrandGuild_runCount_I_) (fun _ h9 => h9) rfl dX9_threads_12 ?_
      refine lv_if_le (tgt := 20) hx hb dX9_threads_15 (by decide) (fun c_3 => ?_) (fun c_3 => ?_)
      · simp only [i_lt, i_le, i_eq, ti_0] at c_3
        refine lv_aload_n hx hb dX9_threads_20 rfl (lv_at hl 0 rfl) ?_
        refine lv_iload_n hx hb dX9_threads_21 rfl (lv_at hl 1 rfl) ?_
        refine va_put (D := (dC, dI)) (ci := 9) (v := .int v1) (ty := .int) (C := RX9) (T := TX9) (N := 15) hx hb hg gb_9 tyX9 tyX9_ok nmX9 hown hK hP hD hS 0 rfl rfl 7 (by decide) (hg _ gm_fieldLink_RX9_38_ErrandGuild_threadCount_I_) (fun _ h9 => h9) rfl (by decide +kernel) rfl rfl (Nat.le_of_ble_eq_true rfl) dX9_threads_22 (fun H locs hP hD hS => ?_)
        have hP : va_P (dC, dI) vwCl [(h0, .inr (9, [.ref y0, .ref y1, .ref y2, .ref y3, .ref y4, .int rc, .ref y5, .int v1, .int bt, .ref y6, .int rdc, .ref y7, .int akc, .ref y8, .int tnc]))] H := hP
        have hD : va_D A [(h0, .inr (9, [.ref y0, .ref y1, .ref y2, .ref y3, .ref y4, .int rc, .ref y5, .int v1, .int bt, .ref y6, .int rdc, .ref y7, .int akc, .ref y8, .int tnc]))] := hD
        refine lv_iconst (v := 1) hx hb dX9_threads_25 (by decide) ?_
        have hP9 := hP.sub (ws' := [(h0, .inr (9, [.ref y0, .ref y1, .ref y2, .ref y3, .ref y4, .int rc, .ref y5, .int v1, .int bt, .ref y6, .int rdc, .ref y7, .int akc, .ref y8, .int tnc]))]) [0] rfl
        have hD9 := hD.sub (ws' := [(h0, .inr (9, [.ref y0, .ref y1, .ref y2, .ref y3, .ref y4, .int rc, .ref y5, .int v1, .int bt, .ref y6, .int rdc, .ref y7, .int akc, .ref y8, .int tnc]))]) [0] (by decide) rfl
        have hK9 := hK.sub (tys' := []) [] rfl
        exact W.zret (v := 1) hx hb hr rfl (fun t ht hW => ⟨⟨1, ((fun _ => 0), (fun _ => (dC 0)), (fun k => ([(fun _ => v1)] : List (Nat → Int32)).getD k (fun _ => 0)), (fun _ => (fun _ => none))), rfl, (Or.inl ⟨rfl, by show 1 ≤ v1.toInt ∧ v1.toInt ≤ 6; omega⟩), by rw [ht]; exact hP9, hD9, va_K.moved hW.alike hK9⟩, hS.F ht⟩) hS.2.2 dX9_threads_26
      · simp only [i_lt, i_le, i_eq, ti_0] at c_3
        refine lv_iconst (v := 0) hx hb dX9_threads_18 (by decide) ?_
        have hP9 := hP.sub (ws' := [(h0, .inr (9, [.ref y0, .ref y1, .ref y2, .ref y3, .ref y4, .int rc, .ref y5, .int tc, .int bt, .ref y6, .int rdc, .ref y7, .int akc, .ref y8, .int tnc]))]) [0] rfl
        have hD9 := hD.sub (ws' := [(h0, .inr (9, [.ref y0, .ref y1, .ref y2, .ref y3, .ref y4, .int rc, .ref y5, .int tc, .int bt, .ref y6, .int rdc, .ref y7, .int akc, .ref y8, .int tnc]))]) [0] (by decide) rfl
        have hK9 := hK.sub (tys' := []) [] rfl
        exact W.zret (v := 0) hx hb hr rfl (fun t ht hW => ⟨⟨0, ((fun _ => 0), (fun _ => (dC 0)), (fun k => ([(fun _ => tc)] : List (Nat → Int32)).getD k (fun _ => 0)), (fun _ => (fun _ => none))), rfl, (Or.inr ⟨rfl, by show 1 ≤ tc.toInt ∧ tc.toInt ≤ 6; omega⟩), by rw [ht]; exact hP9, hD9, va_K.moved hW.alike hK9⟩, hS.F ht⟩) hS.2.2 dX9_threads_19

set_option maxHeartbeats 4000000 in
set_option maxRecDepth 100000 in
theorem c_X9_handler (l : Launch) (dC : Nat → ClassId) (dI : Nat → Nat → Nat) (h0 : Nat) (y0 : Nat) (y1 : Nat) (y2 : Nat) (y3 : Nat) (y4 : Nat) (y5 : Nat) (y6 : Nat) (y7 : Nat) (y8 : Nat) (rc : Int32) (tc : Int32) (bt : Int32) (rdc : Int32) (akc : Int32) (tnc : Int32) (w0 : Nat) (w1 : Nat) (w2 : Nat) (k0 : ClassId) (k1 : ClassId) (k2 : ClassId) (f0 : Nat → Int32) (f1 : Nat → Int32) (f2 : Nat → Int32) (v1 : Int32) (v2 : Int32) (v3 : Int32) (v4 : Int32) (sz : Nat)  : Met l yX9_handler (.code yX9_handler cX9_handler 6 (some .boolean) :: gw) ({ frames := 2, cells := 0, slots := 0, locals := 41 }) (va_Pc [.ref h0, .int v1, .int v2, .int v3, .int v4] (fun U => U.heap.size = sz ∧ va_P (dC, dI) vwCl [(h0, .inr (9, [.ref y0, .ref y1, .ref y2, .ref y3, .ref y4, .int rc, .ref y5, .int tc, .int bt, .ref y6, .int rdc, .ref y7, .int akc, .ref y8, .int tnc])), (y3, .inr (3, [.ref w0, .ref w1, .ref w2])), (w0, .inl (k0, 17, .inl f0)), (w1, .inl (k1, 17, .inl f1)), (w2, .inl (k2, 17, .inl f2))] U.heap ∧ va_K (dC, dI) vwCl [(k0, .boolean), (k1, .int), (k2, .boolean)] U ∧ va_D (fun _ => True) [(h0, .inr (9, [.ref y0, .ref y1, .ref y2, .ref y3, .ref y4, .int rc, .ref y5, .int tc, .int bt, .ref y6, .int rdc, .ref y7, .int akc, .ref y8, .int tnc])), (y3, .inr (3, [.ref w0, .ref w1, .ref w2])), (w0, .inl (k0, 17, .inl f0)), (w1, .inl (k1, 17, .inl f1)), (w2, .inl (k2, 17, .inl f2))] ∧ nx U)) (va_Qi (fun (r : Int32) (u : wS) => (r = 1 ∧ (v1.toInt = 2 ∨ ((v1.toInt = 0 ∨ v1.toInt = 1) ∧ 0 ≤ v2.toInt ∧ v2.toInt < 8))) ∨ (r = 0 ∧ ¬ (v1.toInt = 2 ∨ ((v1.toInt = 0 ∨ v1.toInt = 1) ∧ 0 ≤ v2.toInt ∧ v2.toInt < 8)))) (fun u t => va_P (dC, dI) vwCl [(h0, .inr (9, [.ref y0, .ref y1, .ref y2, .ref y3, .ref y4, .int rc, .ref y5, .int tc, .int bt, .ref y6, .int rdc, .ref y7, .int akc, .ref y8, .int tnc])), (y3, .inr (3, [.ref w0, .ref w1, .ref w2])), (w0, .inl (k0, 17, .inl (u.2.2.1 0))), (w1, .inl (k1, 17, .inl (u.2.2.1 1))), (w2, .inl (k2, 17, .inl (u.2.2.1 2)))] t.heap ∧ va_D (va_A [(h0, .inr (9, [.ref y0, .ref y1, .ref y2, .ref y3, .ref y4, .int rc, .ref y5, .int tc, .int bt, .ref y6, .int rdc, .ref y7, .int akc, .ref y8, .int tnc])), (y3, .inr (3, [.ref w0, .ref w1, .ref w2])), (w0, .inl (k0, 17, .inl f0)), (w1, .inl (k1, 17, .inl f1)), (w2, .inl (k2, 17, .inl f2))] sz) [(h0, .inr (9, [.ref y0, .ref y1, .ref y2, .ref y3, .ref y4, .int rc, .ref y5, .int tc, .int bt, .ref y6, .int rdc, .ref y7, .int akc, .ref y8, .int tnc])), (y3, .inr (3, [.ref w0, .ref w1, .ref w2])), (w0, .inl (k0, 17, .inl (u.2.2.1 0))), (w1, .inl (k1, 17, .inl (u.2.2.1 1))), (w2, .inl (k2, 17, .inl (u.2.2.1 2)))] ∧ va_K (dC, dI) vwCl [] t) (va_A [(h0, .inr (9, [.ref y0, .ref y1, .ref y2, .ref y3, .ref y4, .int rc, .ref y5, .int tc, .int bt, .ref y6, .int rdc, .ref y7, .int akc, .ref y8, .int tnc])), (y3, .inr (3, [.ref w0, .ref w1, .ref w2])), (w0, .inl (k0, 17, .inl f0)), (w1, .inl (k1, 17, .inl f1)), (w2, .inl (k2, 17, .inl f2))] sz)) 0 0 (va_A [(h0, .inr (9, [.ref y0, .ref y1, .ref y2, .ref y3, .ref y4, .int rc, .ref y5, .int tc, .int bt, .ref y6, .int rdc, .ref y7, .int akc, .ref y8, .int tnc])), (y3, .inr (3, [.ref w0, .ref w1, .ref w2])), (w0, .inl (k0, 17, .inl f0)), (w1, .inl (k1, 17, .inl f1)), (w2, .inl (k2, 17, .inl f2))] sz) := by
  refine Met.ofW (cc := cX9_handler) (maxL := 6) (ret := (some .boolean)) (by decide) rfl ?_
  intro p e s m args below meth c s₁ B hml hv
  obtain ⟨rfl, hsz, hP, hK, hD0, hN⟩ := hv
  have hx := B.exec
  have hb := B.bytes
  have hr := B.returns
  have hts := atoms_spec (ws := .code yX9_handler cX9_handler 6 (some .boolean) :: gw) B.pre
  have hg : ∀ w ∈ gw, w.before _ s = true := fun w h => hts w (List.mem_cons_of_mem _ h)
  have hown : s.vm.findClass RX9 = some m.cls := findClass_of_methodNamed B.named
  have hlocks := B.notSynchronized
  subst hsz
  have hD := hD0.self (sz := s.heap.size)
  generalize hAe : va_A [(h0, .inr (9, [.ref y0, .ref y1, .ref y2, .ref y3, .ref y4, .int rc, .ref y5, .int tc, .int bt, .ref y6, .int rdc, .ref y7, .int akc, .ref y8, .int tnc])), (y3, .inr (3, [.ref w0, .ref w1, .ref w2])), (w0, .inl (k0, 17, .inl f0)), (w1, .inl (k1, 17, .inl f1)), (w2, .inl (k2, 17, .inl f2))] s.heap.size = A at hD ⊢
  have hA : ∀ q : Nat, s.heap.size ≤ q → A q := fun q h => by rw [← hAe]; exact Or.inr h
  have hS : va_S A s.heap s.heap [] := va_S.rf
  have hP : va_P (dC, dI) vwCl [(h0, .inr (9, [.ref y0, .ref y1, .ref y2, .ref y3, .ref y4, .int rc, .ref y5, .int tc, .int bt, .ref y6, .int rdc, .ref y7, .int akc, .ref y8, .int tnc])), (y3, .inr (3, [.ref w0, .ref w1, .ref w2])), (w0, .inl (k0, 17, .inl f0)), (w1, .inl (k1, 17, .inl f1)), (w2, .inl (k2, 17, .inl f2))] s.heap := hP
  have hl := lv_entry ([.ref h0, .int v1, .int v2, .int v3, .int v4]) (n := 6) (Nat.le_of_ble_eq_true rfl)
  rw [lg_entry_eq]
  generalize (lg_sl ([.ref h0, .int v1, .int v2, .int v3, .int v4]) ++ List.replicate (6 - (lg_sl ([.ref h0, .int v1, .int v2, .int v3, .int v4])).length) Slot.unset).toArray = ls at hl ⊢
  have hl : lv_has ls 6 [(0, .ref h0), (1, .int v1), (2, .int v2), (3, .int v3), (4, .int v4)] := hl
  refine lv_iload_n hx hb dX9_handler_0 rfl (lv_at hl 1 rfl) ?_
  refine lv_iload_n hx hb dX9_handler_1 rfl (lv_at hl 2 rfl) ?_
  have hPc := hP.sub (ws' := []) [] rfl
  have hDc := hD.sub (ws' := []) [] (by decide) rfl
  have hKc := hK.sub (tys' := []) [] rfl
  have hFc := va_free (wc := []) hD hS hA [] rfl
  refine va_calli (va_runS (As := [.int v1, .int v2]) (rest := []) ⟨hx, hb, hml, hown, hg⟩ (c_X3_indexOf l dC dI v1 v2 s.heap.size ) (va_cwS 2 hg (gw_S gm_methodLink_RX9_103_yX3_indexOf gm_static_yX3_indexOf gm_initialized_RX3 gm_code_yX3_indexOf_cX3_indexOf_2_some_int_) rfl rfl rfl (by decide +kernel) ⟨Nat.le_of_ble_eq_true rfl, Nat.le_of_ble_eq_true rfl⟩) ⟨fun a U g mk q => by obtain ⟨q0, q1, qP, qK, qD, qN⟩ := q; exact ⟨q0, q1, qP, va_K.moved (u := U) (U := U.calling g mk a) (Vm.Alike.refl U.vm) qK, qD, nx_same (u := U) (U := U.calling g mk a) rfl qN⟩, fun U hU hW => ⟨rfl, by rw [hU], by rw [hU]; exact hPc, va_K.moved hW.alike hKc, hDc.weaken (fun _ _ _ _ => trivial), nx_warm hW hN⟩⟩ rfl rfl hl.1 rfl (lv_room (Nat.le_of_ble_eq_true rfl)) dX9_handler_2 ⟨Nat.le_of_ble_eq_true rfl, Nat.le_of_ble_eq_true rfl⟩) hS (fun q _ h => hFc q h) hFc (fun r_1 u_2 t H1 locs ht hvm hw hB hz1 hk1 hS => ?_)
  have hP1 : va_P (dC, dI) vwCl [] H1 := nil_P
  have hD1 := nil_D (A := va_A [] s.heap.size)
  obtain ⟨hP, hD⟩ := va_join (wr := [(h0, .inr (9, [.ref y0, .ref y1, .ref y2, .ref y3, .ref y4, .int rc, .ref y5, .int tc, .int bt, .ref y6, .int rdc, .ref y7, .int akc, .ref y8, .int tnc])), (y3, .inr (3, [.ref w0, .ref w1, .ref w2])), (w0, .inl (k0, 17, .inl f0)), (w1, .inl (k1, 17, .inl f1)), (w2, .inl (k2, 17, .inl f2))]) (w1 := []) hP hD [] [0, 1, 2, 3, 4] rfl rfl (by decide) (by decide +kernel) hk1 hFc hP1 hD1
  generalize H1 = H at hP hS ⊢
  have hP : va_P (dC, dI) vwCl [(h0, .inr (9, [.ref y0, .ref y1, .ref y2, .ref y3, .ref y4, .int rc, .ref y5, .int tc, .int bt, .ref y6, .int rdc, .ref y7, .int akc, .ref y8, .int tnc])), (y3, .inr (3, [.ref w0, .ref w1, .ref w2])), (w0, .inl (k0, 17, .inl f0)), (w1, .inl (k1, 17, .inl f1)), (w2, .inl (k2, 17, .inl f2))] H := hP
  have hD : va_D A [(h0, .inr (9, [.ref y0, .ref y1, .ref y2, .ref y3, .ref y4, .int rc, .ref y5, .int tc, .int bt, .ref y6, .int rdc, .ref y7, .int akc, .ref y8, .int tnc])), (y3, .inr (3, [.ref w0, .ref w1, .ref w2])), (w0, .inl (k0, 17, .inl f0)), (w1, .inl (k1, 17, .inl f1)), (w2, .inl (k2, 17, .inl f2))] := hD
  refine W.widen (k := 0) (n := 0) (Nat.le_of_ble_eq_true rfl) (Nat.le_of_ble_eq_true rfl) ?_
  have w_3 := hw
  try dsimp only at w_3
  refine lv_istore (lv' := [(5, .int r_1), (0, .ref h0), (1, .int v1), (2, .int v2), (3, .int v3), (4, .int v4)]) hx hb dX9_handler_5 hl (by decide) rfl (fun ls hl => ?_)
  refine lv_iload hx hb dX9_handler_7 (lv_at hl 0 rfl) ?_
  refine lv_iconst (v := -1) hx hb dX9_handler_9 (by decide) ?_
  refine lv_icmp_ne (tgt := 15) hx hb dX9_handler_10 (by decide) (fun c_4 => ?_) (fun c_4 => ?_)
  · simp only [i_lt, i_le, i_eq, ti_m1] at c_4
    refine lv_aload_n hx hb dX9_handler_15 rfl (lv_at hl 1 rfl) ?_
    refine va_get (D := (dC, dI)) (ci := 9) (v := .ref y3) (C := RX9) (T := TX9) (N := 15) hx hb hg gb_9 hown hK hP 0 rfl rfl 3 (by decide) (hg _ gm_fieldLink_RX9_25_ErrandGuild_handlers_LErrandGuild_Handlers_) (fun _ h9 => h9) rfl dX9_handler_16 ?_
    refine lv_iload hx hb dX9_handler_19 (lv_at hl 0 rfl) ?_
    refine lv_iload_n hx hb dX9_handler_21 rfl (lv_at hl 4 rfl) ?_
    refine lv_iload hx hb dX9_handler_22 (lv_at hl 5 rfl) ?_
    have hPc := hP.sub (ws' := [(y3, .inr (3, [.ref w0, .ref w1, .ref w2])), (w0, .inl (k0, 17, .inl f0)), (w1, .inl (k1, 17, .inl f1)), (w2, .inl (k2, 17, .inl f2))]) [1, 2, 3, 4] rfl
    have hDc := hD.sub (ws' := [(y3, .inr (3, [.ref w0, .ref w1, .ref w2])), (w0, .inl (k0, 17, .inl f0)), (w1, .inl (k1, 17, .inl f1)), (w2, .inl (k2, 17, .inl f2))]) [1, 2, 3, 4] (by decide) rfl
    have hKc := hK.sub (tys' := [(k0, .boolean), (k1, .int), (k2, .boolean)]) [0, 1, 2] rfl
    have hFc := va_free (wc := [(y3, .inr (3, [.ref w0, .ref w1, .ref w2])), (w0, .inl (k0, 17, .inl f0)), (w1, .inl (k1, 17, .inl f1)), (w2, .inl (k2, 17, .inl f2))]) hD hS hA [1, 2, 3, 4] rfl
    refine va_callv (va_runV (As := [.int r_1, .int v3, .int v4]) (rest := []) ⟨hx, hb, hml, hown, hg⟩ (c_X3_put l dC dI y3 w0 w1 w2 k0 k1 k2 f0 f1 f2 r_1 v3 v4 H.size ) (cwV 3 hg (gw_V gm_methodLink_RX9_107_yX3_put gm_instanceMethod_yX3_put gm_selects_RX3_yX3_put_yX3_put gm_initialized_RX3 gm_code_yX3_put_cX3_put_4_none) rfl rfl rfl (by decide +kernel) ⟨Nat.le_of_ble_eq_true rfl, Nat.le_of_ble_eq_true rfl⟩) ⟨fun a U g mk q => by obtain ⟨q0, q1, qP, qK, qD, qN⟩ := q; exact ⟨q0, q1, qP, va_K.moved (u := U) (U := U.calling g mk a) (Vm.Alike.refl U.vm) qK, qD, nx_same (u := U) (U := U.calling g mk a) rfl qN⟩, va_recv hKc hPc (ci := 3) (q0 := 0) rfl rfl, fun U hU hW => ⟨rfl, by rw [hU], by rw [hU]; exact hPc, va_K.moved hW.alike hKc, hDc.weaken (fun _ _ _ _ => trivial), nx_warm hW hN⟩⟩ rfl rfl hl.1 rfl (lv_room (Nat.le_of_ble_eq_true rfl)) dX9_handler_24 ⟨Nat.le_of_ble_eq_true rfl, Nat.le_of_ble_eq_true rfl⟩) hS (fun q _ h => hFc q h) hFc (fun u_6 t H1 locs ht hvm hw hB hz1 hk1 hS => ?_)
    obtain ⟨ad_7, ac_8, af_9, ag_10⟩ := u_6
    obtain ⟨hP1, hD1, hK1⟩ := hB
    rw [ht] at hP1
    have hK1 := va_K.moved hvm.symm hK1
    obtain ⟨hP, hD⟩ := va_join (wr := [(h0, .inr (9, [.ref y0, .ref y1, .ref y2, .ref y3, .ref y4, .int rc, .ref y5, .int tc, .int bt, .ref y6, .int rdc, .ref y7, .int akc, .ref y8, .int tnc]))]) (w1 := [(y3, .inr (3, [.ref w0, .ref w1, .ref w2])), (w0, .inl (k0, 17, .inl (af_9 0))), (w1, .inl (k1, 17, .inl (af_9 1))), (w2, .inl (k2, 17, .inl (af_9 2)))]) hP hD [1, 2, 3, 4] [0] rfl rfl (by decide) (by decide +kernel) hk1 hFc hP1 hD1
    generalize H1 = H at hP hS ⊢
    have hP : va_P (dC, dI) vwCl [(h0, .inr (9, [.ref y0, .ref y1, .ref y2, .ref y3, .ref y4, .int rc, .ref y5, .int tc, .int bt, .ref y6, .int rdc, .ref y7, .int akc, .ref y8, .int tnc])), (y3, .inr (3, [.ref w0, .ref w1, .ref w2])), (w0, .inl (k0, 17, .inl (af_9 0))), (w1, .inl (k1, 17, .inl (af_9 1))), (w2, .inl (k2, 17, .inl (af_9 2)))] H := hP
    have hD : va_D A [(h0, .inr (9, [.ref y0, .ref y1, .ref y2, .ref y3, .ref y4, .int rc, .ref y5, .int tc, .int bt, .ref y6, .int rdc, .ref y7, .int akc, .ref y8, .int tnc])), (y3, .inr (3, [.ref w0, .ref w1, .ref w2])), (w0, .inl (k0, 17, .inl (af_9 0))), (w1, .inl (k1, 17, .inl (af_9 1))), (w2, .inl (k2, 17, .inl (af_9 2)))] := hD
    refine W.widen (k := 0) (n := 0) (Nat.le_of_ble_eq_true rfl) (Nat.le_of_ble_eq_true rfl) ?_
    refine lv_iconst (v := 1) hx hb dX9_handler_27 (by decide) ?_
    have hP9 := hP.sub (ws' := [(h0, .inr (9, [.ref y0, .ref y1, .ref y2, .ref y3, .ref y4, .int rc, .ref y5, .int tc, .int bt, .ref y6, .int rdc, .ref y7, .int akc, .ref y8, .int tnc])), (y3, .inr (3, [.ref w0, .ref w1, .ref w2])), (w0, .inl (k0, 17, .inl (af_9 0))), (w1, .inl (k1, 17, .inl (af_9 1))), (w2, .inl (k2, 17, .inl (af_9 2)))]) [0, 1, 2, 3, 4] rfl
    have hD9 := hD.sub (ws' := [(h0, .inr (9, [.ref y0, .ref y1, .ref y2, .ref y3, .ref y4, .int rc, .ref y5, .int tc, .int bt, .ref y6, .int rdc, .ref y7, .int akc, .ref y8, .int tnc])), (y3, .inr (3, [.ref w0, .ref w1, .ref w2])), (w0, .inl (k0, 17, .inl (af_9 0))), (w1, .inl (k1, 17, .inl (af_9 1))), (w2, .inl (k2, 17, .inl (af_9 2)))]) [0, 1, 2, 3, 4] (by decide) rfl
    have hK9 := hK.sub (tys' := []) [] rfl
    exact W.zret (v := 1) hx hb hr rfl (fun t ht hW => ⟨⟨1, ((fun _ => 0), (fun _ => (dC 0)), (fun k => ([(af_9 0), (af_9 1), (af_9 2)] : List (Nat → Int32)).getD k (fun _ => 0)), (fun _ => (fun _ => none))), rfl, (Or.inl ⟨rfl, by omega⟩), by rw [ht]; exact hP9, hD9, va_K.moved hW.alike hK9⟩, hS.F ht⟩) hS.2.2 dX9_handler_28
  · simp only [i_lt, i_le, i_eq, ti_m1] at c_4
    refine lv_iconst (v := 0) hx hb dX9_handler_13 (by decide) ?_
    have hP9 := hP.sub (ws' := [(h0, .inr (9, [.ref y0, .ref y1, .ref y2, .ref y3, .ref y4, .int rc, .ref y5, .int tc, .int bt, .ref y6, .int rdc, .ref y7, .int akc, .ref y8, .int tnc])), (y3, .inr (3, [.ref w0, .ref w1, .ref w2])), (w0, .inl (k0, 17, .inl f0)), (w1, .inl (k1, 17, .inl f1)), (w2, .inl (k2, 17, .inl f2))]) [0, 1, 2, 3, 4] rfl
    have hD9 := hD.sub (ws' := [(h0, .inr (9, [.ref y0, .ref y1, .ref y2, .ref y3, .ref y4, .int rc, .ref y5, .int tc, .int bt, .ref y6, .int rdc, .ref y7, .int akc, .ref y8, .int tnc])), (y3, .inr (3, [.ref w0, .ref w1, .ref w2])), (w0, .inl (k0, 17, .inl f0)), (w1, .inl (k1, 17, .inl f1)), (w2, .inl (k2, 17, .inl f2))]) [0, 1, 2, 3, 4] (by decide) rfl
    have hK9 := hK.sub (tys' := []) [] rfl
    exact W.zret (v := 0) hx hb hr rfl (fun t ht hW => ⟨⟨0, ((fun _ => 0), (fun _ => (dC 0)), (fun k => ([f0, f1, f2] : List (Nat → Int32)).getD k (fun _ => 0)), (fun _ => (fun _ => none))), rfl, (Or.inr ⟨rfl, by omega⟩), by rw [ht]; exact hP9, hD9, va_K.moved hW.alike hK9⟩, hS.F ht⟩) hS.2.2 dX9_handler_14

set_option maxHeartbeats 4000000 in
set_option maxRecDepth 100000 in
theorem c_X9_errandAt (l : Launch) (dC : Nat → ClassId) (dI : Nat → Nat → Nat) (h0 : Nat) (y0 : Nat) (y1 : Nat) (y2 : Nat) (y3 : Nat) (y4 : Nat) (y5 : Nat) (y6 : Nat) (y7 : Nat) (y8 : Nat) (rc : Int32) (tc : Int32) (bt : Int32) (rdc : Int32) (akc : Int32) (tnc : Int32) (k2 : ClassId) (g : Nat → Option Nat) (v1 : Int32) (sz : Nat)  : Met l yX9_errandAt (.code yX9_errandAt cX9_errandAt 2 (some (.object "ErrandGuild$Errand")) :: gw) ({ frames := 1, cells := 0, slots := 0, locals := 20 }) (va_Pc [.ref h0, .int v1] (fun U => U.heap.size = sz ∧ va_P (dC, dI) vwCl [(h0, .inr (9, [.ref y0, .ref y1, .ref y2, .ref y3, .ref y4, .int rc, .ref y5, .int tc, .int bt, .ref y6, .int rdc, .ref y7, .int akc, .ref y8, .int tnc])), (y2, .inl (k2, 8, .inr (.inr (.inr (.inr g)))))] U.heap ∧ va_K (dC, dI) vwCl [(k2, .object RX1)] U ∧ va_D (fun _ => True) [(h0, .inr (9, [.ref y0, .ref y1, .ref y2, .ref y3, .ref y4, .int rc, .ref y5, .int tc, .int bt, .ref y6, .int rdc, .ref y7, .int akc, .ref y8, .int tnc])), (y2, .inl (k2, 8, .inr (.inr (.inr (.inr g)))))] ∧ nx U)) (va_Qq (fun (r : Option Nat) (u : Unit) => (r = g (Int32.toNatClampNeg v1) ∧ (0 ≤ v1.toInt ∧ v1.toInt < 8)) ∨ (r = none ∧ ¬ (0 ≤ v1.toInt ∧ v1.toInt < 8))) (fun _ t => va_P (dC, dI) vwCl [(h0, .inr (9, [.ref y0, .ref y1, .ref y2, .ref y3, .ref y4, .int rc, .ref y5, .int tc, .int bt, .ref y6, .int rdc, .ref y7, .int akc, .ref y8, .int tnc])), (y2, .inl (k2, 8, .inr (.inr (.inr (.inr g)))))] t.heap ∧ va_D (va_A [(h0, .inr (9, [.ref y0, .ref y1, .ref y2, .ref y3, .ref y4, .int rc, .ref y5, .int tc, .int bt, .ref y6, .int rdc, .ref y7, .int akc, .ref y8, .int tnc])), (y2, .inl (k2, 8, .inr (.inr (.inr (.inr g)))))] sz) [(h0, .inr (9, [.ref y0, .ref y1, .ref y2, .ref y3, .ref y4, .int rc, .ref y5, .int tc, .int bt, .ref y6, .int rdc, .ref y7, .int akc, .ref y8, .int tnc])), (y2, .inl (k2, 8, .inr (.inr (.inr (.inr g)))))]) (va_A [(h0, .inr (9, [.ref y0, .ref y1, .ref y2, .ref y3, .ref y4, .int rc, .ref y5, .int tc, .int bt, .ref y6, .int rdc, .ref y7, .int akc, .ref y8, .int tnc])), (y2, .inl (k2, 8, .inr (.inr (.inr (.inr g)))))] sz)) 0 0 (va_A [(h0, .inr (9, [.ref y0, .ref y1, .ref y2, .ref y3, .ref y4, .int rc, .ref y5, .int tc, .int bt, .ref y6, .int rdc, .ref y7, .int akc, .ref y8, .int tnc])), (y2, .inl (k2, 8, .inr (.inr (.inr (.inr g)))))] sz) := by
  refine Met.ofW (cc := cX9_errandAt) (maxL := 2) (ret := (some (.object "ErrandGuild$Errand"))) (by decide) rfl ?_
  intro p e s m args below meth c s₁ B hml hv
  obtain ⟨rfl, hsz, hP, hK, hD0, hN⟩ := hv
  have hx := B.exec
  have hb := B.bytes
  have hr := B.returns
  have hts := atoms_spec (ws := .code yX9_errandAt cX9_errandAt 2 (some (.object "ErrandGuild$Errand")) :: gw) B.pre
  have hg : ∀ w ∈ gw, w.before _ s = true := fun w h => hts w (List.mem_cons_of_mem _ h)
  have hown : s.vm.findClass RX9 = some m.cls := findClass_of_methodNamed B.named
  have hlocks := B.notSynchronized
  subst hsz
  have hD := hD0.self (sz := s.heap.size)
  generalize hAe : va_A [(h0, .inr (9, [.ref y0, .ref y1, .ref y2, .ref y3, .ref y4, .int rc, .ref y5, .int tc, .int bt, .ref y6, .int rdc, .ref y7, .int akc, .ref y8, .int tnc])), (y2, .inl (k2, 8, .inr (.inr (.inr (.inr g)))))] s.heap.size = A at hD ⊢
  have hA : ∀ q : Nat, s.heap.size ≤ q → A q := fun q h => by rw [← hAe]; exact Or.inr h
  have hS : va_S A s.heap s.heap [] := va_S.rf
  have hP : va_P (dC, dI) vwCl [(h0, .inr (9, [.ref y0, .ref y1, .ref y2, .ref y3, .ref y4, .int rc, .ref y5, .int tc, .int bt, .ref y6, .int rdc, .ref y7, .int akc, .ref y8, .int tnc])), (y2, .inl (k2, 8, .inr (.inr (.inr (.inr g)))))] s.heap := hP
  have hl := lv_entry ([.ref h0, .int v1]) (n := 2) (Nat.le_of_ble_eq_true rfl)
  rw [lg_entry_eq]
  generalize (lg_sl ([.ref h0, .int v1]) ++ List.replicate (2 - (lg_sl ([.ref h0, .int v1])).length) Slot.unset).toArray = ls at hl ⊢
  have hl : lv_has ls 2 [(0, .ref h0), (1, .int v1)] := hl
  refine lv_iload_n hx hb dX9_errandAt_0 rfl (lv_at hl 1 rfl) ?_
  have hPc := hP.sub (ws' := []) [] rfl
  have hDc := hD.sub (ws' := []) [] (by decide) rfl
  have hKc := hK.sub (tys' := []) [] rfl
  have hFc := va_free (wc := []) hD hS hA [] rfl
  refine va_calli (va_runS (As := [.int v1]) (rest := []) ⟨hx, hb, hml, hown, hg⟩ (c_X9_isErrand l dC dI v1 s.heap.size ) (va_cwS 1 hg (gw_S gm_methodLink_RX9_111_yX9_isErrand gm_static_yX9_isErrand gm_initialized_RX9 gm_code_yX9_isErrand_cX9_isErrand_1_some_boolean_) rfl rfl rfl (by decide +kernel) ⟨Nat.le_of_ble_eq_true rfl, Nat.le_of_ble_eq_true rfl⟩) ⟨fun a U g mk q => by obtain ⟨q0, q1, qP, qK, qD, qN⟩ := q; exact ⟨q0, q1, qP, va_K.moved (u := U) (U := U.calling g mk a) (Vm.Alike.refl U.vm) qK, qD, nx_same (u := U) (U := U.calling g mk a) rfl qN⟩, fun U hU hW => ⟨rfl, by rw [hU], by rw [hU]; exact hPc, va_K.moved hW.alike hKc, hDc.weaken (fun _ _ _ _ => trivial), nx_warm hW hN⟩⟩ rfl rfl hl.1 rfl (lv_room (Nat.le_of_ble_eq_true rfl)) dX9_errandAt_1 ⟨Nat.le_of_ble_eq_true rfl, Nat.le_of_ble_eq_true rfl⟩) hS (fun q _ h => hFc q h) hFc (fun r_1 u_2 t H1 locs ht hvm hw hB hz1 hk1 hS => ?_)
  have hP1 : va_P (dC, dI) vwCl [] H1 := nil_P
  have hD1 := nil_D (A := va_A [] s.heap.size)
  obtain ⟨hP, hD⟩ := va_join (wr := [(h0, .inr (9, [.ref y0, .ref y1, .ref y2, .ref y3, .ref y4, .int rc, .ref y5, .int tc, .int bt, .ref y6, .int rdc, .ref y7, .int akc, .ref y8, .int tnc])), (y2, .inl (k2, 8, .inr (.inr (.inr (.inr g)))))]) (w1 := []) hP hD [] [0, 1] rfl rfl (by decide) (by decide +kernel) hk1 hFc hP1 hD1
  generalize H1 = H at hP hS ⊢
  have hP : va_P (dC, dI) vwCl [(h0, .inr (9, [.ref y0, .ref y1, .ref y2, .ref y3, .ref y4, .int rc, .ref y5, .int tc, .int bt, .ref y6, .int rdc, .ref y7, .int akc, .ref y8, .int tnc])), (y2, .inl (k2, 8, .inr (.inr (.inr (.inr g)))))] H := hP
  have hD : va_D A [(h0, .inr (9, [.ref y0, .ref y1, .ref y2, .ref y3, .ref y4, .int rc, .ref y5, .int tc, .int bt, .ref y6, .int rdc, .ref y7, .int akc, .ref y8, .int tnc])), (y2, .inl (k2, 8, .inr (.inr (.inr (.inr g)))))] := hD
  refine W.widen (k := 0) (n := 0) (Nat.le_of_ble_eq_true rfl) (Nat.le_of_ble_eq_true rfl) ?_
  rcases hw with ⟨rfl, w_3⟩ | ⟨rfl, w_3⟩
  · refine lv_if_eq (tgt := 16) hx hb dX9_errandAt_4 (by decide) (fun c_4 => absurd c_4 (by decide)) (fun _ => ?_)
    refine lv_aload_n hx hb dX9_errandAt_7 rfl (lv_at hl 0 rfl) ?_
    refine va_get (D := (dC, dI)) (ci := 9) (v := .ref y2) (C := RX9) (T := TX9) (N := 15) hx hb hg gb_9 hown hK hP 0 rfl rfl 2 (by decide) (hg _ gm_fieldLink_RX9_18_ErrandGuild_errands_ALErrandGuild_Errand_) (fun _ h9 => h9) rfl dX9_errandAt_8 ?_
    refine lv_iload_n hx hb dX9_errandAt_11 rfl (lv_at hl 1 rfl) ?_
    refine va_aldq hx hb hK hP 1 0 rfl rfl (vp_in_iff.mpr ⟨by omega, by omega⟩) dX9_errandAt_12 ?_
    refine lv_goto (tgt := 17) hx hb dX9_errandAt_13 (by decide) ?_
    have hP9 := hP.sub (ws' := [(h0, .inr (9, [.ref y0, .ref y1, .ref y2, .ref y3, .ref y4, .int rc, .ref y5, .int tc, .int bt, .ref y6, .int rdc, .ref y7, .int akc, .ref y8, .int tnc])), (y2, .inl (k2, 8, .inr (.inr (.inr (.inr g)))))]) [0, 1] rfl
    have hD9 := hD.sub (ws' := [(h0, .inr (9, [.ref y0, .ref y1, .ref y2, .ref y3, .ref y4, .int rc, .ref y5, .int tc, .int bt, .ref y6, .int rdc, .ref y7, .int akc, .ref y8, .int tnc])), (y2, .inl (k2, 8, .inr (.inr (.inr (.inr g)))))]) [0, 1] (by decide) rfl
    exact W.aret (v := va_rf (g (Int32.toNatClampNeg v1))) hx hb hr (Or.inl ⟨_, rfl⟩) (va_rf_or _) (fun t ht hW => ⟨⟨g (Int32.toNatClampNeg v1), (), rfl, (Or.inl ⟨rfl, by omega⟩), by rw [ht]; exact hP9, hD9⟩, hS.F ht⟩) hS.2.2 dX9_errandAt_17
  · refine lv_if_eq (tgt := 16) hx hb dX9_errandAt_4 (by decide) (fun _ => ?_) (fun c_5 => absurd c_5 (by decide))
    refine lv_null hx hb dX9_errandAt_16 ?_
    have hP9 := hP.sub (ws' := [(h0, .inr (9, [.ref y0, .ref y1, .ref y2, .ref y3, .ref y4, .int rc, .ref y5, .int tc, .int bt, .ref y6, .int rdc, .ref y7, .int akc, .ref y8, .int tnc])), (y2, .inl (k2, 8, .inr (.inr (.inr (.inr g)))))]) [0, 1] rfl
    have hD9 := hD.sub (ws' := [(h0, .inr (9, [.ref y0, .ref y1, .ref y2, .ref y3, .ref y4, .int rc, .ref y5, .int tc, .int bt, .ref y6, .int rdc, .ref y7, .int akc, .ref y8, .int tnc])), (y2, .inl (k2, 8, .inr (.inr (.inr (.inr g)))))]) [0, 1] (by decide) rfl
    exact W.aret (v := .null) hx hb hr (Or.inl ⟨_, rfl⟩) (Or.inl rfl) (fun t ht hW => ⟨⟨none, (), rfl, (Or.inr ⟨rfl, by omega⟩), by rw [ht]; exact hP9, hD9⟩, hS.F ht⟩) hS.2.2 dX9_errandAt_17

set_option maxHeartbeats 4000000 in
set_option maxRecDepth 100000 in
theorem c_X9_step (l : Launch) (dC : Nat → ClassId) (dI : Nat → Nat → Nat) (h0 : Nat) (y0 : Nat) (y1 : Nat) (y2 : Nat) (y3 : Nat) (y4 : Nat) (y5 : Nat) (y6 : Nat) (y7 : Nat) (y8 : Nat) (rc : Int32) (tc : Int32) (bt : Int32) (rdc : Int32) (akc : Int32) (tnc : Int32) (qe : Nat) (w0 : Nat) (w1 : Nat) (w2 : Nat) (k2 : ClassId) (j0 : ClassId) (j1 : ClassId) (j2 : ClassId) (g : Nat → Option Nat) (f0 : Nat → Int32) (f1 : Nat → Int32) (f2 : Nat → Int32) (cc : Int32) (v1 : Int32) (v2 : Int32) (v3 : Int32) (v4 : Int32) (sz : Nat) (hge : 0 ≤ v1.toInt → v1.toInt < 8 → g (Int32.toNatClampNeg v1) = some qe) : Met l yX9_step (.code yX9_step cX9_step 6 (some .int) :: gw) ({ frames := 2, cells := 0, slots := 0, locals := 43 }) (va_Pc [.ref h0, .int v1, .int v2, .int v3, .int v4] (fun U => U.heap.size = sz ∧ va_P (dC, dI) vwCl [(h0, .inr (9, [.ref y0, .ref y1, .ref y2, .ref y3, .ref y4, .int rc, .ref y5, .int tc, .int bt, .ref y6, .int rdc, .ref y7, .int akc, .ref y8, .int tnc])), (y2, .inl (k2, 8, .inr (.inr (.inr (.inr g))))), (qe, .inr (1, [.ref w0, .ref w1, .ref w2, .int cc])), (w0, .inl (j0, 24, .inl f0)), (w1, .inl (j1, 24, .inl f1)), (w2, .inl (j2, 24, .inl f2))] U.heap ∧ va_K (dC, dI) vwCl [(k2, .object RX1), (j0, .int), (j1, .int), (j2, .int)] U ∧ va_D (fun _ => True) [(h0, .inr (9, [.ref y0, .ref y1, .ref y2, .ref y3, .ref y4, .int rc, .ref y5, .int tc, .int bt, .ref y6, .int rdc, .ref y7, .int akc, .ref y8, .int tnc])), (y2, .inl (k2, 8, .inr (.inr (.inr (.inr g))))), (qe, .inr (1, [.ref w0, .ref w1, .ref w2, .int cc])), (w0, .inl (j0, 24, .inl f0)), (w1, .inl (j1, 24, .inl f1)), (w2, .inl (j2, 24, .inl f2))] ∧ nx U)) (va_Qi (fun (r : Int32) (u : wS) => True) (fun u t => va_P (dC, dI) vwCl [(h0, .inr (9, [.ref y0, .ref y1, .ref y2, .ref y3, .ref y4, .int rc, .ref y5, .int tc, .int bt, .ref y6, .int rdc, .ref y7, .int akc, .ref y8, .int tnc])), (y2, .inl (k2, 8, .inr (.inr (.inr (.inr g))))), (qe, .inr (1, [.ref w0, .ref w1, .ref w2, .int (u.2.2.1 3 0)])), (w0, .inl (j0, 24, .inl (u.2.2.1 0))), (w1, .inl (j1, 24, .inl (u.2.2.1 1))), (w2, .inl (j2, 24, .inl (u.2.2.1 2)))] t.heap ∧ va_D (va_A [(h0, .inr (9, [.ref y0, .ref y1, .ref y2, .ref y3, .ref y4, .int rc, .ref y5, .int tc, .int bt, .ref y6, .int rdc, .ref y7, .int akc, .ref y8, .int tnc])), (y2, .inl (k2, 8, .inr (.inr (.inr (.inr g))))), (qe, .inr (1, [.ref w0, .ref w1, .ref w2, .int cc])), (w0, .inl (j0, 24, .inl f0)), (w1, .inl (j1, 24, .inl f1)), (w2, .inl (j2, 24, .inl f2))] sz) [(h0, .inr (9, [.ref y0, .ref y1, .ref y2, .ref y3, .ref y4, .int rc, .ref y5, .int tc, .int bt, .ref y6, .int rdc, .ref y7, .int akc, .ref y8, .int tnc])), (y2, .inl (k2, 8, .inr (.inr (.inr (.inr g))))), (qe, .inr (1, [.ref w0, .ref w1, .ref w2, .int (u.2.2.1 3 0)])), (w0, .inl (j0, 24, .inl (u.2.2.1 0))), (w1, .inl (j1, 24, .inl (u.2.2.1 1))), (w2, .inl (j2, 24, .inl (u.2.2.1 2)))] ∧ va_K (dC, dI) vwCl [] t) (va_A [(h0, .inr (9, [.ref y0, .ref y1, .ref y2, .ref y3, .ref y4, .int rc, .ref y5, .int tc, .int bt, .ref y6, .int rdc, .ref y7, .int akc, .ref y8, .int tnc])), (y2, .inl (k2, 8, .inr (.inr (.inr (.inr g))))), (qe, .inr (1, [.ref w0, .ref w1, .ref w2, .int cc])), (w0, .inl (j0, 24, .inl f0)), (w1, .inl (j1, 24, .inl f1)), (w2, .inl (j2, 24, .inl f2))] sz)) 0 0 (va_A [(h0, .inr (9, [.ref y0, .ref y1, .ref y2, .ref y3, .ref y4, .int rc, .ref y5, .int tc, .int bt, .ref y6, .int rdc, .ref y7, .int akc, .ref y8, .int tnc])), (y2, .inl (k2, 8, .inr (.inr (.inr (.inr g))))), (qe, .inr (1, [.ref w0, .ref w1, .ref w2, .int cc])), (w0, .inl (j0, 24, .inl f0)), (w1, .inl (j1, 24, .inl f1)), (w2, .inl (j2, 24, .inl f2))] sz) := by
  refine Met.ofW (cc := cX9_step) (maxL := 6) (ret := (some .int)) (by decide) rfl ?_
  intro p e s m args below meth c s₁ B hml hv
  obtain ⟨rfl, hsz, hP, hK, hD0, hN⟩ := hv
  have hx := B.exec
  have hb := B.bytes
  have hr := B.returns
  have hts := atoms_spec (ws := .code yX9_step cX9_step 6 (some .int) :: gw) B.pre
  have hg : ∀ w ∈ gw, w.before _ s = true := fun w h => hts w (List.mem_cons_of_mem _ h)
  have hown : s.vm.findClass RX9 = some m.cls := findClass_of_methodNamed B.named
  have hlocks := B.notSynchronized
  subst hsz
  have hD := hD0.self (sz := s.heap.size)
  generalize hAe : va_A [(h0, .inr (9, [.ref y0, .ref y1, .ref y2, .ref y3, .ref y4, .int rc, .ref y5, .int tc, .int bt, .ref y6, .int rdc, .ref y7, .int akc, .ref y8, .int tnc])), (y2, .inl (k2, 8, .inr (.inr (.inr (.inr g))))), (qe, .inr (1, [.ref w0, .ref w1, .ref w2, .int cc])), (w0, .inl (j0, 24, .inl f0)), (w1, .inl (j1, 24, .inl f1)), (w2, .inl (j2, 24, .inl f2))] s.heap.size = A at hD ⊢
  have hA : ∀ q : Nat, s.heap.size ≤ q → A q := fun q h => by rw [← hAe]; exact Or.inr h
  have hS : va_S A s.heap s.heap [] := va_S.rf
  have hP : va_P (dC, dI) vwCl [(h0, .inr (9, [.ref y0, .ref y1, .ref y2, .ref y3, .ref y4, .int rc, .ref y5, .int tc, .int bt, .ref y6, .int rdc, .ref y7, .int akc, .ref y8, .int tnc])), (y2, .inl (k2, 8, .inr (.inr (.inr (.inr g))))), (qe, .inr (1, [.ref w0, .ref w1, .ref w2, .int cc])), (w0, .inl (j0, 24, .inl f0)), (w1, .inl (j1, 24, .inl f1)), (w2, .inl (j2, 24, .inl f2))] s.heap := hP
  have hl := lv_entry ([.ref h0, .int v1, .int v2, .int v3, .int v4]) (n := 6) (Nat.le_of_ble_eq_true rfl)
  rw [lg_entry_eq]
  generalize (lg_sl ([.ref h0, .int v1, .int v2, .int v3, .int v4]) ++ List.replicate (6 - (lg_sl ([.ref h0, .int v1, .int v2, .int v3, .int v4])).length) Slot.unset).toArray = ls at hl ⊢
  have hl : lv_has ls 6 [(0, .ref h0), (1, .int v1), (2, .int v2), (3, .int v3), (4, .int v4)] := hl
  refine lv_aload_n hx hb dX9_step_0 rfl (lv_at hl 0 rfl) ?_
  refine lv_iload_n hx hb dX9_step_1 rfl (lv_at hl 1 rfl) ?_
  have hPc := hP.sub (ws' := [(h0, .inr (9, [.ref y0, .ref y1, .ref y2, .ref y3, .ref y4, .int rc, .ref y5, .int tc, .int bt, .ref y6, .int rdc, .ref y7, .int akc, .ref y8, .int tnc])), (y2, .inl (k2, 8, .inr (.inr (.inr (.inr g)))))]) [0, 1] rfl
  have hDc := hD.sub (ws' := [(h0, .inr (9, [.ref y0, .ref y1, .ref y2, .ref y3, .ref y4, .int rc, .ref y5, .int tc, .int bt, .ref y6, .int rdc, .ref y7, .int akc, .ref y8, .int tnc])), (y2, .inl (k2, 8, .inr (.inr (.inr (.inr g)))))]) [0, 1] (by decide) rfl
  have hKc := hK.sub (tys' := [(k2, .object RX1)]) [0] rfl
  have hFc := va_free (wc := [(h0, .inr (9, [.ref y0, .ref y1, .ref y2, .ref y3, .ref y4, .int rc, .ref y5, .int tc, .int bt, .ref y6, .int rdc, .ref y7, .int akc, .ref y8, .int tnc])), (y2, .inl (k2, 8, .inr (.inr (.inr (.inr g)))))]) hD hS hA [0, 1] rfl
  refine va_callq (va_runV (As := [.int v1]) (rest := []) ⟨hx, hb, hml, hown, hg⟩ (c_X9_errandAt l dC dI h0 y0 y1 y2 y3 y4 y5 y6 y7 y8 rc tc bt rdc akc tnc k2 g v1 s.heap.size ) (cwV 1 hg (gw_V gm_methodLink_RX9_69_yX9_errandAt gm_instanceMethod_yX9_errandAt gm_selects_RX9_yX9_errandAt_yX9_errandAt gm_initialized_RX9 gm_code_yX9_errandAt_cX9_errandAt_2_some_object_ErrandGuild_Errand_) rfl rfl rfl (by decide +kernel) ⟨Nat.le_of_ble_eq_true rfl, Nat.le_of_ble_eq_true rfl⟩) ⟨fun a U g mk q => by obtain ⟨q0, q1, qP, qK, qD, qN⟩ := q; exact ⟨q0, q1, qP, va_K.moved (u := U) (U := U.calling g mk a) (Vm.Alike.refl U.vm) qK, qD, nx_same (u := U) (U := U.calling g mk a) rfl qN⟩, va_recv hKc hPc (ci := 9) (q0 := 0) rfl rfl, fun U hU hW => ⟨rfl, by rw [hU], by rw [hU]; exact hPc, va_K.moved hW.alike hKc, hDc.weaken (fun _ _ _ _ => trivial), nx_warm hW hN⟩⟩ rfl rfl hl.1 rfl (lv_room (Nat.le_of_ble_eq_true rfl)) dX9_step_2 ⟨Nat.le_of_ble_eq_true rfl, Nat.le_of_ble_eq_true rfl⟩) hS (fun q _ h => hFc q h) hFc (fun r_1 u_2 t H1 locs ht hvm hw hB hz1 hk1 hS => ?_)
  obtain ⟨hP1, hD1⟩ := hB
  rw [ht] at hP1
  obtain ⟨hP, hD⟩ := va_join (wr := [(qe, .inr (1, [.ref w0, .ref w1, .ref w2, .int cc])), (w0, .inl (j0, 24, .inl f0)), (w1, .inl (j1, 24, .inl f1)), (w2, .inl (j2, 24, .inl f2))]) (w1 := [(h0, .inr (9, [.ref y0, .ref y1, .ref y2, .ref y3, .ref y4, .int rc, .ref y5, .int tc, .int bt, .ref y6, .int rdc, .ref y7, .int akc, .ref y8, .int tnc])), (y2, .inl (k2, 8, .inr (.inr (.inr (.inr g)))))]) hP hD [0, 1] [2, 3, 4, 5] rfl rfl (by decide) (by decide +kernel) hk1 hFc hP1 hD1
  generalize H1 = H at hP hS ⊢
  have hP : va_P (dC, dI) vwCl [(qe, .inr (1, [.ref w0, .ref w1, .ref w2, .int cc])), (w0, .inl (j0, 24, .inl f0)), (w1, .inl (j1, 24, .inl f1)), (w2, .inl (j2, 24, .inl f2)), (h0, .inr (9, [.ref y0, .ref y1, .ref y2, .ref y3, .ref y4, .int rc, .ref y5, .int tc, .int bt, .ref y6, .int rdc, .ref y7, .int akc, .ref y8, .int tnc])), (y2, .inl (k2, 8, .inr (.inr (.inr (.inr g)))))] H := hP
  have hD : va_D A [(qe, .inr (1, [.ref w0, .ref w1, .ref w2, .int cc])), (w0, .inl (j0, 24, .inl f0)), (w1, .inl (j1, 24, .inl f1)), (w2, .inl (j2, 24, .inl f2)), (h0, .inr (9, [.ref y0, .ref y1, .ref y2, .ref y3, .ref y4, .int rc, .ref y5, .int tc, .int bt, .ref y6, .int rdc, .ref y7, .int akc, .ref y8, .int tnc])), (y2, .inl (k2, 8, .inr (.inr (.inr (.inr g)))))] := hD
  refine W.widen (k := 0) (n := 0) (Nat.le_of_ble_eq_true rfl) (Nat.le_of_ble_eq_true rfl) ?_
  rcases hw with ⟨rfl, w_3⟩ | ⟨rfl, w_3⟩
  · rw [show g (Int32.toNatClampNeg v1) = some qe from hge (by omega) (by omega)]
    refine W.eq (g2 := F0 m 5 ls [.ref qe]) rfl ?_
    refine lv_astore (lv' := [(5, .ref qe), (0, .ref h0), (1, .int v1), (2, .int v2), (3, .int v3), (4, .int v4)]) hx hb dX9_step_5 hl (by decide) rfl (fun ls hl => ?_)
    refine lv_aload hx hb dX9_step_7 (lv_at hl 0 rfl) ?_
    refine lv_ifnull hx hb dX9_step_9 ?_
    refine lv_aload_n hx hb dX9_step_12 rfl (lv_at hl 1 rfl) ?_
    refine va_get (D := (dC, dI)) (ci := 9) (v := .int rc) (C := RX9) (T := TX9) (N := 15) hx hb hg gb_9 hown hK hP 4 rfl rfl 5 (by decide) (hg _ gm_fieldLink_RX9_66_ErrandGuild_runCount_I_) (fun _ h9 => h9) rfl dX9_step_13 ?_
    refine lv_if_le (tgt := 21) hx hb dX9_step_16 (by decide) (fun c_4 => ?_) (fun c_4 => ?_)
    · simp only [i_lt, i_le, i_eq, ti_0] at c_4
      refine lv_aload hx hb dX9_step_21 (lv_at hl 0 rfl) ?_
      refine va_get (D := (dC, dI)) (ci := 1) (v := .int cc) (C := RX1) (T := TX1) (N := 4) hx hb hg gb_1 hown hK hP 0 rfl rfl 3 (by decide) (hg _ gm_fieldLink_RX9_73_ErrandGuild_Errand_count_I_) (fun _ h9 => h9) rfl dX9_step_23 ?_
      refine lv_bipush (v := 24) hx hb dX9_step_26 (by decide) ?_
      refine lv_icmp_ge (tgt := 46) hx hb dX9_step_28 (by decide) (fun c_5 => ?_) (fun c_5 => ?_)
      · simp only [i_lt, i_le, i_eq, ti_24] at c_5
        refine lv_iconst (v := -1) hx hb dX9_step_46 (by decide) ?_
        have hP9 := hP.sub (ws' := [(h0, .inr (9, [.ref y0, .ref y1, .ref y2, .ref y3, .ref y4, .int rc, .ref y5, .int tc, .int bt, .ref y6, .int rdc, .ref y7, .int akc, .ref y8, .int tnc])), (y2, .inl (k2, 8, .inr (.inr (.inr (.inr g))))), (qe, .inr (1, [.ref w0, .ref w1, .ref w2, .int cc])), (w0, .inl (j0, 24, .inl f0)), (w1, .inl (j1, 24, .inl f1)), (w2, .inl (j2, 24, .inl f2))]) [4, 5, 0, 1, 2, 3] rfl
        have hD9 := hD.sub (ws' := [(h0, .inr (9, [.ref y0, .ref y1, .ref y2, .ref y3, .ref y4, .int rc, .ref y5, .int tc, .int bt, .ref y6, .int rdc, .ref y7, .int akc, .ref y8, .int tnc])), (y2, .inl (k2, 8, .inr (.inr (.inr (.inr g))))), (qe, .inr (1, [.ref w0, .ref w1, .ref w2, .int cc])), (w0, .inl (j0, 24, .inl f0)), (w1, .inl (j1, 24, .inl f1)), (w2, .inl (j2, 24, .inl f2))]) [4, 5, 0, 1, 2, 3] (by decide) rfl
        have hK9 := hK.sub (tys' := []) [] rfl
        exact W.iret (v := -1) hx hb hr (fun t ht hW => ⟨⟨-1, ((fun _ => 0), (fun _ => (dC 0)), (fun k => ([f0, f1, f2, (fun _ => cc)] : List (Nat → Int32)).getD k (fun _ => 0)), (fun _ => (fun _ => none))), rfl, trivial, by rw [ht]; exact hP9, hD9, va_K.moved hW.alike hK9⟩, hS.F ht⟩) hS.2.2 dX9_step_47
      · simp only [i_lt, i_le, i_eq, ti_24] at c_5
        refine lv_iload_n hx hb dX9_step_31 rfl (lv_at hl 3 rfl) ?_
        refine lv_iload_n hx hb dX9_step_32 rfl (lv_at hl 4 rfl) ?_
        refine lv_iload hx hb dX9_step_33 (lv_at hl 5 rfl) ?_
        refine lv_aload hx hb dX9_step_35 (lv_at hl 0 rfl) ?_
        refine va_get (D := (dC, dI)) (ci := 1) (v := .int cc) (C := RX1) (T := TX1) (N := 4) hx hb hg gb_1 hown hK hP 0 rfl rfl 3 (by decide) (hg _ gm_fieldLink_RX9_73_ErrandGuild_Errand_count_I_) (fun _ h9 => h9) rfl dX9_step_37 ?_
        have hPc := hP.sub (ws' := []) [] rfl
        have hDc := hD.sub (ws' := []) [] (by decide) rfl
        have hKc := hK.sub (tys' := []) [] rfl
        have hFc := va_free (wc := []) hD hS hA [] rfl
        refine va_calli (va_runS (As := [.int v2, .int v3, .int v4, .int cc]) (rest := []) ⟨hx, hb, hml, hown, hg⟩ (c_X9_fits l dC dI v2 v3 v4 cc H.size ) (va_cwS 4 hg (gw_S gm_methodLink_RX9_76_yX9_fits gm_static_yX9_fits gm_initialized_RX9 gm_code_yX9_fits_cX9_fits_4_some_boolean_) rfl rfl rfl (by decide +kernel) ⟨Nat.le_of_ble_eq_true rfl, Nat.le_of_ble_eq_true rfl⟩) ⟨fun a U g mk q => by obtain ⟨q0, q1, qP, qK, qD, qN⟩ := q; exact ⟨q0, q1, qP, va_K.moved (u := U) (U := U.calling g mk a) (Vm.Alike.refl U.vm) qK, qD, nx_same (u := U) (U := U.calling g mk a) rfl qN⟩, fun U hU hW => ⟨rfl, by rw [hU], by rw [hU]; exact hPc, va_K.moved hW.alike hKc, hDc.weaken (fun _ _ _ _ => trivial), nx_warm hW hN⟩⟩ rfl rfl hl.1 rfl (lv_room (Nat.le_of_ble_eq_true rfl)) dX9_step_40 ⟨Nat.le_of_ble_eq_true rfl, Nat.le_of_ble_eq_true rfl⟩) hS (fun q _ h => hFc q h) hFc (fun r_6 u_7 t H1 locs ht hvm hw hB hz1 hk1 hS => ?_)
        have hP1 : va_P (dC, dI) vwCl [] H1 := nil_P
        have hD1 := nil_D (A := va_A [] H.size)
        obtain ⟨hP, hD⟩ := va_join (wr := [(qe, .inr (1, [.ref w0, .ref w1, .ref w2, .int cc])), (w0, .inl (j0, 24, .inl f0)), (w1, .inl (j1, 24, .inl f1)), (w2, .inl (j2, 24, .inl f2)), (h0, .inr (9, [.ref y0, .ref y1, .ref y2, .ref y3, .ref y4, .int rc, .ref y5, .int tc, .int bt, .ref y6, .int rdc, .ref y7, .int akc, .ref y8, .int tnc])), (y2, .inl (k2, 8, .inr (.inr (.inr (.inr g)))))]) (w1 := []) hP hD [] [0, 1, 2, 3, 4, 5] rfl rfl (by decide) (by decide +kernel) hk1 hFc hP1 hD1
        generalize H1 = H at hP hS ⊢
        have hP : va_P (dC, dI) vwCl [(qe, .inr (1, [.ref w0, .ref w1, .ref w2, .int cc])), (w0, .inl (j0, 24, .inl f0)), (w1, .inl (j1, 24, .inl f1)), (w2, .inl (j2, 24, .inl f2)), (h0, .inr (9, [.ref y0, .ref y1, .ref y2, .ref y3, .ref y4, .int rc, .ref y5, .int tc, .int bt, .ref y6, .int rdc, .ref y7, .int akc, .ref y8, .int tnc])), (y2, .inl (k2, 8, .inr (.inr (.inr (.inr g)))))] H := hP
        have hD : va_D A [(qe, .inr (1, [.ref w0, .ref w1, .ref w2, .int cc])), (w0, .inl (j0, 24, .inl f0)), (w1, .inl (j1, 24, .inl f1)), (w2, .inl (j2, 24, .inl f2)), (h0, .inr (9, [.ref y0, .ref y1, .ref y2, .ref y3, .ref y4, .int rc, .ref y5, .int tc, .int bt, .ref y6, .int rdc, .ref y7, .int akc, .ref y8, .int tnc])), (y2, .inl (k2, 8, .inr (.inr (.inr (.inr g)))))] := hD
        refine W.widen (k := 0) (n := 0) (Nat.le_of_ble_eq_true rfl) (Nat.le_of_ble_eq_true rfl) ?_
        rcases hw with ⟨rfl, w_8⟩ | ⟨rfl, w_8⟩
        · refine lv_if_ne (tgt := 48) hx hb dX9_step_43 (by decide) (fun _ => ?_) (fun c_9 => absurd c_9 (by decide))
          refine lv_aload hx hb dX9_step_48 (lv_at hl 0 rfl) ?_
          refine lv_iload_n hx hb dX9_step_50 rfl (lv_at hl 3 rfl) ?_
          refine lv_iload_n hx hb dX9_step_51 rfl (lv_at hl 4 rfl) ?_
          refine lv_iload hx hb dX9_step_52 (lv_at hl 5 rfl) ?_
          have hPc := hP.sub (ws' := [(qe, .inr (1, [.ref w0, .ref w1, .ref w2, .int cc])), (w0, .inl (j0, 24, .inl f0)), (w1, .inl (j1, 24, .inl f1)), (w2, .inl (j2, 24, .inl f2))]) [0, 1, 2, 3] rfl
          have hDc := hD.sub (ws' := [(qe, .inr (1, [.ref w0, .ref w1, .ref w2, .int cc])), (w0, .inl (j0, 24, .inl f0)), (w1, .inl (j1, 24, .inl f1)), (w2, .inl (j2, 24, .inl f2))]) [0, 1, 2, 3] (by decide) rfl
          have hKc := hK.sub (tys' := [(j0, .int), (j1, .int), (j2, .int)]) [1, 2, 3] rfl
          have hFc := va_free (wc := [(qe, .inr (1, [.ref w0, .ref w1, .ref w2, .int cc])), (w0, .inl (j0, 24, .inl f0)), (w1, .inl (j1, 24, .inl f1)), (w2, .inl (j2, 24, .inl f2))]) hD hS hA [0, 1, 2, 3] rfl
          refine va_callv (va_runV (As := [.int v2, .int v3, .int v4]) (rest := []) ⟨hx, hb, hml, hown, hg⟩ (c_X1_add l dC dI qe w0 w1 w2 j0 j1 j2 f0 f1 f2 cc v2 v3 v4 H.size ) (cwV 3 hg (gw_V gm_methodLink_RX9_80_yX1_add gm_instanceMethod_yX1_add gm_selects_RX1_yX1_add_yX1_add gm_initialized_RX1 gm_code_yX1_add_cX1_add_4_none) rfl rfl rfl (by decide +kernel) ⟨Nat.le_of_ble_eq_true rfl, Nat.le_of_ble_eq_true rfl⟩) ⟨fun a U g mk q => by obtain ⟨q0, q1, qP, qK, qD, qN⟩ := q; exact ⟨q0, q1, qP, va_K.moved (u := U) (U := U.calling g mk a) (Vm.Alike.refl U.vm) qK, qD, nx_same (u := U) (U := U.calling g mk a) rfl qN⟩, va_recv hKc hPc (ci := 1) (q0 := 0) rfl rfl, fun U hU hW => ⟨rfl, by rw [hU], by rw [hU]; exact hPc, va_K.moved hW.alike hKc, hDc.weaken (fun _ _ _ _ => trivial), nx_warm hW hN⟩⟩ rfl rfl hl.1 rfl (lv_room (Nat.le_of_ble_eq_true rfl)) dX9_step_54 ⟨Nat.le_of_ble_eq_true rfl, Nat.le_of_ble_eq_true rfl⟩) hS (fun q _ h => hFc q h) hFc (fun u_11 t H1 locs ht hvm hw hB hz1 hk1 hS => ?_)
          obtain ⟨ad_12, ac_13, af_14, ag_15⟩ := u_11
          obtain ⟨hP1, hD1, hK1⟩ := hB
          rw [ht] at hP1
          have hK1 := va_K.moved hvm.symm hK1
          obtain ⟨hP, hD⟩ := va_join (wr := [(h0, .inr (9, [.ref y0, .ref y1, .ref y2, .ref y3, .ref y4, .int rc, .ref y5, .int tc, .int bt, .ref y6, .int rdc, .ref y7, .int akc, .ref y8, .int tnc])), (y2, .inl (k2, 8, .inr (.inr (.inr (.inr g)))))]) (w1 := [(qe, .inr (1, [.ref w0, .ref w1, .ref w2, .int (af_14 3 0)])), (w0, .inl (j0, 24, .inl (af_14 0))), (w1, .inl (j1, 24, .inl (af_14 1))), (w2, .inl (j2, 24, .inl (af_14 2)))]) hP hD [0, 1, 2, 3] [4, 5] rfl rfl (by decide) (by decide +kernel) hk1 hFc hP1 hD1
          generalize H1 = H at hP hS ⊢
          have hP : va_P (dC, dI) vwCl [(h0, .inr (9, [.ref y0, .ref y1, .ref y2, .ref y3, .ref y4, .int rc, .ref y5, .int tc, .int bt, .ref y6, .int rdc, .ref y7, .int akc, .ref y8, .int tnc])), (y2, .inl (k2, 8, .inr (.inr (.inr (.inr g))))), (qe, .inr (1, [.ref w0, .ref w1, .ref w2, .int (af_14 3 0)])), (w0, .inl (j0, 24, .inl (af_14 0))), (w1, .inl (j1, 24, .inl (af_14 1))), (w2, .inl (j2, 24, .inl (af_14 2)))] H := hP
          have hD : va_D A [(h0, .inr (9, [.ref y0, .ref y1, .ref y2, .ref y3, .ref y4, .int rc, .ref y5, .int tc, .int bt, .ref y6, .int rdc, .ref y7, .int akc, .ref y8, .int tnc])), (y2, .inl (k2, 8, .inr (.inr (.inr (.inr g))))), (qe, .inr (1, [.ref w0, .ref w1, .ref w2, .int (af_14 3 0)])), (w0, .inl (j0, 24, .inl (af_14 0))), (w1, .inl (j1, 24, .inl (af_14 1))), (w2, .inl (j2, 24, .inl (af_14 2)))] := hD
          refine W.widen (k := 0) (n := 0) (Nat.le_of_ble_eq_true rfl) (Nat.le_of_ble_eq_true rfl) ?_
          refine lv_aload hx hb dX9_step_57 (lv_at hl 0 rfl) ?_
          refine va_get (D := (dC, dI)) (ci := 1) (v := .int (af_14 3 0)) (C := RX1) (T := TX1) (N := 4) hx hb hg gb_1 hown hK hP 2 rfl rfl 3 (by decide) (hg _ gm_fieldLink_RX9_73_ErrandGuild_Errand_count_I_) (fun _ h9 => h9) rfl dX9_step_59 ?_
          have hP9 := hP.sub (ws' := [(h0, .inr (9, [.ref y0, .ref y1, .ref y2, .ref y3, .ref y4, .int rc, .ref y5, .int tc, .int bt, .ref y6, .int rdc, .ref y7, .int akc, .ref y8, .int tnc])), (y2, .inl (k2, 8, .inr (.inr (.inr (.inr g))))), (qe, .inr (1, [.ref w0, .ref w1, .ref w2, .int (af_14 3 0)])), (w0, .inl (j0, 24, .inl (af_14 0))), (w1, .inl (j1, 24, .inl (af_14 1))), (w2, .inl (j2, 24, .inl (af_14 2)))]) [0, 1, 2, 3, 4, 5] rfl
          have hD9 := hD.sub (ws' := [(h0, .inr (9, [.ref y0, .ref y1, .ref y2, .ref y3, .ref y4, .int rc, .ref y5, .int tc, .int bt, .ref y6, .int rdc, .ref y7, .int akc, .ref y8, .int tnc])), (y2, .inl (k2, 8, .inr (.inr (.inr (.inr g))))), (qe, .inr (1, [.ref w0, .ref w1, .ref w2, .int (af_14 3 0)])), (w0, .inl (j0, 24, .inl (af_14 0))), (w1, .inl (j1, 24, .inl (af_14 1))), (w2, .inl (j2, 24, .inl (af_14 2)))]) [0, 1, 2, 3, 4, 5] (by decide) rfl
          have hK9 := hK.sub (tys' := []) [] rfl
          exact W.iret (v := (af_14 3 0)) hx hb hr (fun t ht hW => ⟨⟨(af_14 3 0), ((fun _ => 0), (fun _ => (dC 0)), (fun k => ([(af_14 0), (af_14 1), (af_14 2), (fun _ => (af_14 3 0))] : List (Nat → Int32)).getD k (fun _ => 0)), (fun _ => (fun _ => none))), rfl, trivial, by rw [ht]; exact hP9, hD9, va_K.moved hW.alike hK9⟩, hS.F ht⟩) hS.2.2 dX9_step_62
        · refine lv_if_ne (tgt := 48) hx hb dX9_step_43 (by decide) (fun c_16 => absurd c_16 (by decide)) (fun _ => ?_)
          refine lv_iconst (v := -1) hx hb dX9_step_46 (by decide) ?_
          have hP9 := hP.sub (ws' := [(h0, .inr (9, [.ref y0, .ref y1, .ref y2, .ref y3, .ref y4, .int rc, .ref y5, .int tc, .int bt, .ref y6, .int rdc, .ref y7, .int akc, .ref y8, .int tnc])), (y2, .inl (k2, 8, .inr (.inr (.inr (.inr g))))), (qe, .inr (1, [.ref w0, .ref w1, .ref w2, .int cc])), (w0, .inl (j0, 24, .inl f0)), (w1, .inl (j1, 24, .inl f1)), (w2, .inl (j2, 24, .inl f2))]) [4, 5, 0, 1, 2, 3] rfl
          have hD9 := hD.sub (ws' := [(h0, .inr (9, [.ref y0, .ref y1, .ref y2, .ref y3, .ref y4, .int rc, .ref y5, .int tc, .int bt, .ref y6, .int rdc, .ref y7, .int akc, .ref y8, .int tnc])), (y2, .inl (k2, 8, .inr (.inr (.inr (.inr g))))), (qe, .inr (1, [.ref w0, .ref w1, .ref w2, .int cc])), (w0, .inl (j0, 24, .inl f0)), (w1, .inl (j1, 24, .inl f1)), (w2, .inl (j2, 24, .inl f2))]) [4, 5, 0, 1, 2, 3] (by decide) rfl
          have hK9 := hK.sub (tys' := []) [] rfl
          exact W.iret (v := -1) hx hb hr (fun t ht hW => ⟨⟨-1, ((fun _ => 0), (fun _ => (dC 0)), (fun k => ([f0, f1, f2, (fun _ => cc)] : List (Nat → Int32)).getD k (fun _ => 0)), (fun _ => (fun _ => none))), rfl, trivial, by rw [ht]; exact hP9, hD9, va_K.moved hW.alike hK9⟩, hS.F ht⟩) hS.2.2 dX9_step_47
    · simp only [i_lt, i_le, i_eq, ti_0] at c_4
      refine lv_iconst (v := -1) hx hb dX9_step_19 (by decide) ?_
      have hP9 := hP.sub (ws' := [(h0, .inr (9, [.ref y0, .ref y1, .ref y2, .ref y3, .ref y4, .int rc, .ref y5, .int tc, .int bt, .ref y6, .int rdc, .ref y7, .int akc, .ref y8, .int tnc])), (y2, .inl (k2, 8, .inr (.inr (.inr (.inr g))))), (qe, .inr (1, [.ref w0, .ref w1, .ref w2, .int cc])), (w0, .inl (j0, 24, .inl f0)), (w1, .inl (j1, 24, .inl f1)), (w2, .inl (j2, 24, .inl f2))]) [4, 5, 0, 1, 2, 3] rfl
      have hD9 := hD.sub (ws' := [(h0, .inr (9, [.ref y0, .ref y1, .ref y2, .ref y3, .ref y4, .int rc, .ref y5, .int tc, .int bt, .ref y6, .int rdc, .ref y7, .int akc, .ref y8, .int tnc])), (y2, .inl (k2, 8, .inr (.inr (.inr (.inr g))))), (qe, .inr (1, [.ref w0, .ref w1, .ref w2, .int cc])), (w0, .inl (j0, 24, .inl f0)), (w1, .inl (j1, 24, .inl f1)), (w2, .inl (j2, 24, .inl f2))]) [4, 5, 0, 1, 2, 3] (by decide) rfl
      have hK9 := hK.sub (tys' := []) [] rfl
      exact W.iret (v := -1) hx hb hr (fun t ht hW => ⟨⟨-1, ((fun _ => 0), (fun _ => (dC 0)), (fun k => ([f0, f1, f2, (fun _ => cc)] : List (Nat → Int32)).getD k (fun _ => 0)), (fun _ => (fun _ => none))), rfl, trivial, by rw [ht]; exact hP9, hD9, va_K.moved hW.alike hK9⟩, hS.F ht⟩) hS.2.2 dX9_step_20
  · refine W.eq (g2 := F0 m 5 ls [.null]) rfl ?_
    refine lv_astoreN (lv' := [(5, .null), (0, .ref h0), (1, .int v1), (2, .int v2), (3, .int v3), (4, .int v4)]) hx hb dX9_step_5 hl (by decide) rfl (fun ls hl => ?_)
    refine lv_aloadN hx hb dX9_step_7 (lv_at hl 0 rfl) ?_
    refine lv_ifnullN (tgt := 19) hx hb dX9_step_9 (by decide) ?_
    refine lv_iconst (v := -1) hx hb dX9_step_19 (by decide) ?_
    have hP9 := hP.sub (ws' := [(h0, .inr (9, [.ref y0, .ref y1, .ref y2, .ref y3, .ref y4, .int rc, .ref y5, .int tc, .int bt, .ref y6, .int rdc, .ref y7, .int akc, .ref y8, .int tnc])), (y2, .inl (k2, 8, .inr (.inr (.inr (.inr g))))), (qe, .inr (1, [.ref w0, .ref w1, .ref w2, .int cc])), (w0, .inl (j0, 24, .inl f0)), (w1, .inl (j1, 24, .inl f1)), (w2, .inl (j2, 24, .inl f2))]) [4, 5, 0, 1, 2, 3] rfl
    have hD9 := hD.sub (ws' := [(h0, .inr (9, [.ref y0, .ref y1, .ref y2, .ref y3, .ref y4, .int rc, .ref y5, .int tc, .int bt, .ref y6, .int rdc, .ref y7, .int akc, .ref y8, .int tnc])), (y2, .inl (k2, 8, .inr (.inr (.inr (.inr g))))), (qe, .inr (1, [.ref w0, .ref w1, .ref w2, .int cc])), (w0, .inl (j0, 24, .inl f0)), (w1, .inl (j1, 24, .inl f1)), (w2, .inl (j2, 24, .inl f2))]) [4, 5, 0, 1, 2, 3] (by decide) rfl
    have hK9 := hK.sub (tys' := []) [] rfl
    exact W.iret (v := -1) hx hb hr (fun t ht hW => ⟨⟨-1, ((fun _ => 0), (fun _ => (dC 0)), (fun k => ([f0, f1, f2, (fun _ => cc)] : List (Nat → Int32)).getD k (fun _ => 0)), (fun _ => (fun _ => none))), rfl, trivial, by rw [ht]; exact hP9, hD9, va_K.moved hW.alike hK9⟩, hS.F ht⟩) hS.2.2 dX9_step_20
