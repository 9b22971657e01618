/-- the same measure under a name that no hypothesis of ours bears -/
def hpS (H : Heap) : Nat := hS H
theorem W_msrP {p : Program} {l : Launch} {e : Env} {R : Room} {s : State} {m : MethodId} {args : Array Value} {below : List Frame} {meth : Method} {c : Code} {H : Heap} {locs : List Loc} {cells slots : Nat} {Q : State → Prop} {g : JFrame} (kk : H.size ≤ s.heap.size + cells → hpS H ≤ hpS s.heap + slots → W p l e R s m args below meth c H locs cells slots Q g) : W p l e R s m args below meth c H locs cells slots Q g := W_msr kk
theorem W_tightP {p : Program} {l : Launch} {e : Env} {R : Room} {s : State} {m : MethodId} {args : Array Value} {below : List Frame} {meth : Method} {c : Code} {H : Heap} {locs : List Loc} {cells slots : Nat} {Q : State → Prop} {g : JFrame} {k n : Nat} (h1 : H.size ≤ s.heap.size + k) (h2 : hpS H ≤ hpS s.heap + n) (kk : W p l e R s m args below meth c H locs k n Q g) : W p l e R s m args below meth c H locs cells slots Q g := W_tight h1 h2 kk

theorem gm_acl : (.methodLink RX0 22 arraycopyName : Cond) ∈ gw := gw_m (List.mem_append_right _ (List.mem_append_right _ (List.mem_append_right _ (List.mem_append_left _ (List.mem_of_getElem? (i := 11) (by decide +kernel)))))) (by decide +kernel)
theorem gm_acn : (.native arraycopyName : Cond) ∈ gw := gw_m (List.mem_append_right _ (List.mem_append_right _ (List.mem_append_right _ (List.mem_append_left _ (List.mem_of_getElem? (i := 13) (by decide +kernel)))))) (by decide +kernel)
theorem gm_acs : (.static arraycopyName : Cond) ∈ gw := gw_m (List.mem_append_right _ (List.mem_append_right _ (List.mem_append_right _ (List.mem_append_left _ (List.mem_of_getElem? (i := 12) (by decide +kernel)))))) (by decide +kernel)
theorem gm_aci : (.initialized "java/lang/System" : Cond) ∈ gw := gw_m (List.mem_append_right _ (List.mem_append_left _ (List.mem_of_getElem? (i := 12) (by decide +kernel)))) (by decide +kernel)

theorem cpy_id {f : Nat → Int32} {c n : Nat} (h : ∀ j : Nat, c ≤ j → f j = 0) (hn : n = c) : va_cpy f (fun _ => 0) (Int32.toNatClampNeg 0) (Int32.toNatClampNeg 0) n = f := by
  funext j
  rw [ix_0]
  unfold va_cpy
  by_cases q : j < c
  · rw [if_pos (by omega)]; congr 1; omega
  · rw [if_neg (by omega)]; exact (h j (by omega)).symm

set_option maxHeartbeats 4000000 in
set_option maxRecDepth 100000 in
theorem c_X0_add (l : Launch) (dC : Nat → ClassId) (dI : Nat → Nat → Nat) (h0 : Nat) (w0 : Nat) (cn : Nat) (k0 : ClassId) (f0 : Nat → Int32) (lm : Int32) (us : Int32) (v1 : Int32) (hz : Nat) (sz : Nat) (hcn : 16 ≤ cn ∧ cn ≤ 1000000) (hlm : lm.toInt ≤ 1048576) (hus : 0 ≤ us.toInt ∧ us.toInt ≤ (cn : Int)) (hzr : ∀ j : Nat, cn ≤ j → f0 j = 0) : Met l yX0_add (.code yX0_add cX0_add 3 none :: gw) ({ frames := 1, cells := 1, slots := (2 * cn), locals := 80 }) (va_Pc [.ref h0, .int v1] (fun U => U.heap.size = sz ∧ hpS U.heap = hz ∧ va_P (dC, dI) vwCl [(h0, .inr (0, [.int lm, .ref w0, .int us])), (w0, .inl (k0, cn, .inl f0))] U.heap ∧ va_K (dC, dI) vwCl [(k0, .int)] U ∧ va_D (fun _ => True) [(h0, .inr (0, [.int lm, .ref w0, .int us])), (w0, .inl (k0, cn, .inl f0))] ∧ nx U)) (va_Qv (fun (u : wS) => (u.1 1 = cn ∨ (u.1 1 = 2 * cn ∧ (cn : Int) ≤ us.toInt ∧ us.toInt < lm.toInt)) ∧ ((u.2.2.1 1 0) = us ∨ (u.2.2.1 1 0).toInt = us.toInt + 1) ∧ (u.2.2.1 1 0).toInt ≤ ((u.1 1 : Nat) : Int)) (fun u t => va_P (dC, dI) vwCl [(h0, .inr (0, [.int lm, .ref (u.1 0), .int (u.2.2.1 1 0)])), ((u.1 0), .inl ((u.2.1 0), (u.1 1), .inl (u.2.2.1 0)))] t.heap ∧ va_D (va_A [(h0, .inr (0, [.int lm, .ref w0, .int us])), (w0, .inl (k0, cn, .inl f0))] sz) [(h0, .inr (0, [.int lm, .ref (u.1 0), .int (u.2.2.1 1 0)])), ((u.1 0), .inl ((u.2.1 0), (u.1 1), .inl (u.2.2.1 0)))] ∧ va_K (dC, dI) vwCl [((u.2.1 0), .int)] t ∧ (hpS t.heap ≤ hz + (2 * u.1 1 - 2 * cn) ∧ 16 * t.heap.size ≤ 16 * sz + (u.1 1 - cn)) ∧ (u.2.2.1 0) = aF us lm f0 v1 ∧ (u.2.2.1 1 0) = aN us lm) (va_A [(h0, .inr (0, [.int lm, .ref w0, .int us])), (w0, .inl (k0, cn, .inl f0))] sz)) 1 (2 * cn) (va_A [(h0, .inr (0, [.int lm, .ref w0, .int us])), (w0, .inl (k0, cn, .inl f0))] sz) := by
  refine Met.ofW (cc := cX0_add) (maxL := 3) (ret := none) (by decide) rfl ?_
  intro p e s m args below meth c s₁ B hml hv
  obtain ⟨rfl, hsz, rfl, hP, hK, hD0, hN⟩ := hv
  have hx := B.exec
  have hb := B.bytes
  have hr := B.returns
  have hts := atoms_spec (ws := .code yX0_add cX0_add 3 none :: gw) B.pre
  have hg : ∀ w ∈ gw, w.before _ s = true := fun w h => hts w (List.mem_cons_of_mem _ h)
  have hown : s.vm.findClass RX0 = some m.cls := findClass_of_methodNamed B.named
  have hlocks := B.notSynchronized
  subst hsz
  have hD := hD0.self (sz := s.heap.size)
  generalize hAe : va_A [(h0, .inr (0, [.int lm, .ref w0, .int us])), (w0, .inl (k0, cn, .inl f0))] s.heap.size = A at hD ⊢
  have hA : ∀ q : Nat, s.heap.size ≤ q → A q := fun q h => by rw [← hAe]; exact Or.inr h
  have hS : va_S A s.heap s.heap [] := va_S.rf
  have hP : va_P (dC, dI) vwCl [(h0, .inr (0, [.int lm, .ref w0, .int us])), (w0, .inl (k0, cn, .inl f0))] s.heap := hP
  have hl := lv_entry ([.ref h0, .int v1]) (n := 3) (Nat.le_of_ble_eq_true rfl)
  rw [lg_entry_eq]
  generalize (lg_sl ([.ref h0, .int v1]) ++ List.replicate (3 - (lg_sl ([.ref h0, .int v1])).length) Slot.unset).toArray = ls at hl ⊢
  have hl : lv_has ls 3 [(0, .ref h0), (1, .int v1)] := hl
  refine lv_aload_n hx hb dX0_add_0 rfl (lv_at hl 0 rfl) ?_
  refine va_get (D := (dC, dI)) (ci := 0) (v := .int us) (C := RX0) (T := TX0) (N := 3) hx hb hg gb_0 hown hK hP 0 rfl rfl 2 (by decide) (hg _ gm_fieldLink_RX0_19_ErrandGuild_Cells_used_I_) (fun _ h9 => h9) rfl dX0_add_1 ?_
  refine lv_aload_n hx hb dX0_add_4 rfl (lv_at hl 0 rfl) ?_
  refine va_get (D := (dC, dI)) (ci := 0) (v := .int lm) (C := RX0) (T := TX0) (N := 3) hx hb hg gb_0 hown hK hP 0 rfl rfl 0 (by decide) (hg _ gm_fieldLink_RX0_15_ErrandGuild_Cells_limit_I_) (fun _ h9 => h9) rfl dX0_add_5 ?_
  refine lv_icmp_lt (tgt := 12) hx hb dX0_add_8 (by decide) (fun c_1 => ?_) (fun c_1 => ?_)
  · simp only [i_lt, i_le, i_eq] at c_1
    refine lv_aload_n hx hb dX0_add_12 rfl (lv_at hl 0 rfl) ?_
    refine va_get (D := (dC, dI)) (ci := 0) (v := .int us) (C := RX0) (T := TX0) (N := 3) hx hb hg gb_0 hown hK hP 0 rfl rfl 2 (by decide) (hg _ gm_fieldLink_RX0_19_ErrandGuild_Cells_used_I_) (fun _ h9 => h9) rfl dX0_add_13 ?_
    refine lv_aload_n hx hb dX0_add_16 rfl (lv_at hl 0 rfl) ?_
    refine va_get (D := (dC, dI)) (ci := 0) (v := .ref w0) (C := RX0) (T := TX0) (N := 3) hx hb hg gb_0 hown hK hP 0 rfl rfl 1 (by decide) (hg _ gm_fieldLink_RX0_9_ErrandGuild_Cells_cells_AI_) (fun _ h9 => h9) rfl dX0_add_17 ?_
    refine va_alen (v := nI cn) hx hb hK hP 1 0 rfl rfl rfl dX0_add_20 ?_
    have tn_2 : (nI cn).toInt = (cn : Int) := nI_toInt (by omega)
    refine lv_icmp_lt (tgt := 54) hx hb dX0_add_21 (by decide) (fun c_3 => ?_) (fun c_3 => ?_)
    · simp only [i_lt, i_le, i_eq] at c_3
      refine lv_aload_n hx hb dX0_add_54 rfl (lv_at hl 0 rfl) ?_
      refine va_get (D := (dC, dI)) (ci := 0) (v := .int us) (C := RX0) (T := TX0) (N := 3) hx hb hg gb_0 hown hK hP 0 rfl rfl 2 (by decide) (hg _ gm_fieldLink_RX0_19_ErrandGuild_Cells_used_I_) (fun _ h9 => h9) rfl dX0_add_55 ?_
      refine lv_if_lt (tgt := 93) hx hb dX0_add_58 (by decide) (fun c_4 => ?_) (fun c_4 => ?_)
      · simp only [i_lt, i_le, i_eq, ti_0] at c_4
        refine W_msrP (fun hm1 hm2 => ?_)
        refine W.widen (k := 1) (n := (2 * cn)) (by omega) (by omega) ?_
        have hP9 := hP.sub (ws' := [(h0, .inr (0, [.int lm, .ref w0, .int us])), (w0, .inl (k0, cn, .inl f0))]) [0, 1] rfl
        have hD9 := hD.sub (ws' := [(h0, .inr (0, [.int lm, .ref w0, .int us])), (w0, .inl (k0, cn, .inl f0))]) [0, 1] (by decide) rfl
        have hK9 := hK.sub (tys' := [(k0, .int)]) [0] rfl
        exact W.vret hx hb hr (fun t ht hW => ⟨⟨((fun k => ([w0, cn] : List Nat).getD k 0), (fun k => ([k0] : List ClassId).getD k (dC 0)), (fun k => ([f0, (fun _ => us)] : List (Nat → Int32)).getD k (fun _ => 0)), (fun _ => (fun _ => none))), rfl, ⟨Or.inl rfl, Or.inl rfl, by show us.toInt ≤ ((cn : Nat) : Int); omega⟩, by rw [ht]; exact hP9, hD9, va_K.moved hW.alike hK9, by rw [ht]; show hpS s.heap ≤ hpS s.heap + (2 * cn - 2 * cn) ∧ 16 * s.heap.size ≤ 16 * s.heap.size + (cn - cn); omega, (by show f0 = aF us lm f0 v1; unfold aF; first | rw [if_neg (by omega)] | (exfalso; omega)), (by show us = aN us lm; unfold aN; first | rw [if_neg (by omega)] | (exfalso; omega))⟩, hS.F ht⟩) hS.2.2 dX0_add_93
      · simp only [i_lt, i_le, i_eq, ti_0] at c_4
        refine lv_aload_n hx hb dX0_add_61 rfl (lv_at hl 0 rfl) ?_
        refine va_get (D := (dC, dI)) (ci := 0) (v := .int us) (C := RX0) (T := TX0) (N := 3) hx hb hg gb_0 hown hK hP 0 rfl rfl 2 (by decide) (hg _ gm_fieldLink_RX0_19_ErrandGuild_Cells_used_I_) (fun _ h9 => h9) rfl dX0_add_62 ?_
        refine lv_aload_n hx hb dX0_add_65 rfl (lv_at hl 0 rfl) ?_
        refine va_get (D := (dC, dI)) (ci := 0) (v := .ref w0) (C := RX0) (T := TX0) (N := 3) hx hb hg gb_0 hown hK hP 0 rfl rfl 1 (by decide) (hg _ gm_fieldLink_RX0_9_ErrandGuild_Cells_cells_AI_) (fun _ h9 => h9) rfl dX0_add_66 ?_
        refine va_alen (v := nI cn) hx hb hK hP 1 0 rfl rfl rfl dX0_add_69 ?_
        have tn_5 : (nI cn).toInt = (cn : Int) := nI_toInt (by omega)
        refine lv_icmp_ge (tgt := 93) hx hb dX0_add_70 (by decide) (fun c_6 => ?_) (fun c_6 => ?_)
        · simp only [i_lt, i_le, i_eq] at c_6
          refine W_msrP (fun hm1 hm2 => ?_)
          refine W.widen (k := 1) (n := (2 * cn)) (by omega) (by omega) ?_
          have hP9 := hP.sub (ws' := [(h0, .inr (0, [.int lm, .ref w0, .int us])), (w0, .inl (k0, cn, .inl f0))]) [0, 1] rfl
          have hD9 := hD.sub (ws' := [(h0, .inr (0, [.int lm, .ref w0, .int us])), (w0, .inl (k0, cn, .inl f0))]) [0, 1] (by decide) rfl
          have hK9 := hK.sub (tys' := [(k0, .int)]) [0] rfl
          exact W.vret hx hb hr (fun t ht hW => ⟨⟨((fun k => ([w0, cn] : List Nat).getD k 0), (fun k => ([k0] : List ClassId).getD k (dC 0)), (fun k => ([f0, (fun _ => us)] : List (Nat → Int32)).getD k (fun _ => 0)), (fun _ => (fun _ => none))), rfl, ⟨Or.inl rfl, Or.inl rfl, by show us.toInt ≤ ((cn : Nat) : Int); omega⟩, by rw [ht]; exact hP9, hD9, va_K.moved hW.alike hK9, by rw [ht]; show hpS s.heap ≤ hpS s.heap + (2 * cn - 2 * cn) ∧ 16 * s.heap.size ≤ 16 * s.heap.size + (cn - cn); omega, (by show f0 = aF us lm f0 v1; unfold aF; first | rw [if_neg (by omega)] | (exfalso; omega)), (by show us = aN us lm; unfold aN; first | rw [if_neg (by omega)] | (exfalso; omega))⟩, hS.F ht⟩) hS.2.2 dX0_add_93
        · simp only [i_lt, i_le, i_eq] at c_6
          refine lv_aload_n hx hb dX0_add_73 rfl (lv_at hl 0 rfl) ?_
          refine va_get (D := (dC, dI)) (ci := 0) (v := .ref w0) (C := RX0) (T := TX0) (N := 3) hx hb hg gb_0 hown hK hP 0 rfl rfl 1 (by decide) (hg _ gm_fieldLink_RX0_9_ErrandGuild_Cells_cells_AI_) (fun _ h9 => h9) rfl dX0_add_74 ?_
          refine lv_aload_n hx hb dX0_add_77 rfl (lv_at hl 0 rfl) ?_
          refine va_get (D := (dC, dI)) (ci := 0) (v := .int us) (C := RX0) (T := TX0) (N := 3) hx hb hg gb_0 hown hK hP 0 rfl rfl 2 (by decide) (hg _ gm_fieldLink_RX0_19_ErrandGuild_Cells_used_I_) (fun _ h9 => h9) rfl dX0_add_78 ?_
          refine lv_iload_n hx hb dX0_add_81 rfl (lv_at hl 1 rfl) ?_
          refine va_iast hx hb hK hP hD hS 1 0 rfl rfl (vp_in_iff.mpr ⟨by omega, by omega⟩) dX0_add_82 (fun H locs hP hD hS => ?_)
          have hP : va_P (dC, dI) vwCl [(h0, .inr (0, [.int lm, .ref w0, .int us])), (w0, .inl (k0, cn, .inl (upd f0 (Int32.toNatClampNeg us) v1)))] H := hP
          have hD : va_D A [(h0, .inr (0, [.int lm, .ref w0, .int us])), (w0, .inl (k0, cn, .inl (upd f0 (Int32.toNatClampNeg us) v1)))] := hD
          refine lv_aload_n hx hb dX0_add_83 rfl (lv_at hl 0 rfl) ?_
          refine lv_dup hx hb dX0_add_84 rfl ?_
          refine va_get (D := (dC, dI)) (ci := 0) (v := .int us) (C := RX0) (T := TX0) (N := 3) hx hb hg gb_0 hown hK hP 0 rfl rfl 2 (by decide) (hg _ gm_fieldLink_RX0_19_ErrandGuild_Cells_used_I_) (fun _ h9 => h9) rfl dX0_add_85 ?_
          refine lv_iconst (v := 1) hx hb dX0_add_88 (by decide) ?_
          refine lv_iadd hx hb dX0_add_89 ?_
          refine lv_topi (fun z_7 ez_7 => ?_)
          have tz_7 : z_7.toInt = us.toInt + 1 := ar_add rfl ti_1 ez_7 (by omega)
          refine va_put (D := (dC, dI)) (ci := 0) (v := .int z_7) (ty := .int) (C := RX0) (T := TX0) (N := 3) hx hb hg gb_0 tyX0 tyX0_ok nmX0 hown hK hP hD hS 0 rfl rfl 2 (by decide) (hg _ gm_fieldLink_RX0_19_ErrandGuild_Cells_used_I_) (fun _ h9 => h9) rfl (by decide +kernel) rfl rfl (Nat.le_of_ble_eq_true rfl) dX0_add_90 (fun H locs hP hD hS => ?_)
          have hP : va_P (dC, dI) vwCl [(h0, .inr (0, [.int lm, .ref w0, .int z_7])), (w0, .inl (k0, cn, .inl (upd f0 (Int32.toNatClampNeg us) v1)))] H := hP
          have hD : va_D A [(h0, .inr (0, [.int lm, .ref w0, .int z_7])), (w0, .inl (k0, cn, .inl (upd f0 (Int32.toNatClampNeg us) v1)))] := hD
          refine W_msrP (fun hm1 hm2 => ?_)
          refine W.widen (k := 1) (n := (2 * cn)) (by omega) (by omega) ?_
          have hP9 := hP.sub (ws' := [(h0, .inr (0, [.int lm, .ref w0, .int z_7])), (w0, .inl (k0, cn, .inl (upd f0 (Int32.toNatClampNeg us) v1)))]) [0, 1] rfl
          have hD9 := hD.sub (ws' := [(h0, .inr (0, [.int lm, .ref w0, .int z_7])), (w0, .inl (k0, cn, .inl (upd f0 (Int32.toNatClampNeg us) v1)))]) [0, 1] (by decide) rfl
          have hK9 := hK.sub (tys' := [(k0, .int)]) [0] rfl
          exact W.vret hx hb hr (fun t ht hW => ⟨⟨((fun k => ([w0, cn] : List Nat).getD k 0), (fun k => ([k0] : List ClassId).getD k (dC 0)), (fun k => ([upd f0 (Int32.toNatClampNeg us) v1, (fun _ => z_7)] : List (Nat → Int32)).getD k (fun _ => 0)), (fun _ => (fun _ => none))), rfl, ⟨Or.inl rfl, Or.inr (show z_7.toInt = us.toInt + 1 by omega), by show z_7.toInt ≤ ((cn : Nat) : Int); omega⟩, by rw [ht]; exact hP9, hD9, va_K.moved hW.alike hK9, by rw [ht]; show hpS H ≤ hpS s.heap + (2 * cn - 2 * cn) ∧ 16 * H.size ≤ 16 * s.heap.size + (cn - cn); omega, (by show upd f0 (Int32.toNatClampNeg us) v1 = aF us lm f0 v1; unfold aF; rw [if_pos (by omega)]), (by show z_7 = aN us lm; unfold aN; rw [if_pos (by omega)]; exact ez_7)⟩, hS.F ht⟩) hS.2.2 dX0_add_93
    · simp only [i_lt, i_le, i_eq] at c_3
      refine lv_iconst (v := 2) hx hb dX0_add_24 (by decide) ?_
      refine lv_aload_n hx hb dX0_add_25 rfl (lv_at hl 0 rfl) ?_
      refine va_get (D := (dC, dI)) (ci := 0) (v := .ref w0) (C := RX0) (T := TX0) (N := 3) hx hb hg gb_0 hown hK hP 0 rfl rfl 1 (by decide) (hg _ gm_fieldLink_RX0_9_ErrandGuild_Cells_cells_AI_) (fun _ h9 => h9) rfl dX0_add_26 ?_
      refine va_alen (v := nI cn) hx hb hK hP 1 0 rfl rfl rfl dX0_add_29 ?_
      have tn_8 : (nI cn).toInt = (cn : Int) := nI_toInt (by omega)
      refine lv_imul hx hb dX0_add_30 ?_
      refine lv_topi (fun z_9 ez_9 => ?_)
      have tz_9 : z_9.toInt = 2 * (nI cn).toInt := ar_mul ti_2 rfl ez_9 (by omega)
      refine va_newa (atype := .int) (ty := .int) (N' := (2 * cn)) (a0 := ((2 * cn), .inl (fun _ => 0))) hx hb (hg _ gm_arrayClass_int) rfl hK hP hD hS hA (fun _ => rfl) (by rw [i_lt, ti_0]; omega) (by have ce := cl_eq z_9; omega) (by show (2 * cn) * 4 ≤ 536870912; omega) (Nat.le_of_ble_eq_true rfl) (by show 0 + (2 * cn) ≤ (2 * cn); omega) dX0_add_31 (fun q_10 k_11 H hK hP hD hS => ?_)
      have hK : va_K (dC, dI) vwCl [(k0, .int), (k_11, .int)] s := hK
      have hP : va_P (dC, dI) vwCl [(h0, .inr (0, [.int lm, .ref w0, .int us])), (w0, .inl (k0, cn, .inl f0)), (q_10, .inl (k_11, (2 * cn), .inl (fun _ => 0)))] H := hP
      have hD : va_D A [(h0, .inr (0, [.int lm, .ref w0, .int us])), (w0, .inl (k0, cn, .inl f0)), (q_10, .inl (k_11, (2 * cn), .inl (fun _ => 0)))] := hD
      refine lv_astore_n (lv' := [(2, .ref q_10), (0, .ref h0), (1, .int v1)]) hx hb dX0_add_33 rfl hl (by decide) rfl (fun ls hl => ?_)
      refine lv_aload_n hx hb dX0_add_34 rfl (lv_at hl 1 rfl) ?_
      refine va_get (D := (dC, dI)) (ci := 0) (v := .ref w0) (C := RX0) (T := TX0) (N := 3) hx hb hg gb_0 hown hK hP 0 rfl rfl 1 (by decide) (hg _ gm_fieldLink_RX0_9_ErrandGuild_Cells_cells_AI_) (fun _ h9 => h9) rfl dX0_add_35 ?_
      refine lv_iconst (v := 0) hx hb dX0_add_38 (by decide) ?_
      refine lv_aload_n hx hb dX0_add_39 rfl (lv_at hl 0 rfl) ?_
      refine lv_iconst (v := 0) hx hb dX0_add_40 (by decide) ?_
      refine lv_aload_n hx hb dX0_add_41 rfl (lv_at hl 1 rfl) ?_
      refine va_get (D := (dC, dI)) (ci := 0) (v := .ref w0) (C := RX0) (T := TX0) (N := 3) hx hb hg gb_0 hown hK hP 0 rfl rfl 1 (by decide) (hg _ gm_fieldLink_RX0_9_ErrandGuild_Cells_cells_AI_) (fun _ h9 => h9) rfl dX0_add_42 ?_
      refine va_alen (v := nI cn) hx hb hK hP 1 0 rfl rfl rfl dX0_add_45 ?_
      have tn_12 : (nI cn).toInt = (cn : Int) := nI_toInt (by omega)
      refine va_copyi (ty := .int) hx hb (hml.trans hl.1.symm) hown (hg _ gm_acl) (hg _ gm_acn) (hg _ gm_acs) (hg _ gm_aci) hK hP hD hS 1 2 0 1 rfl rfl rfl rfl rfl (by decide) (by decide) (by rw [i_lt, ti_0]; omega) (by have ce := cl_eq (nI cn); show 0 + _ ≤ _; omega) (by have ce := cl_eq (nI cn); show 0 + _ ≤ _; omega) (fun _ _ => rfl) (Nat.le_of_ble_eq_true rfl) (Nat.le_of_ble_eq_true rfl) dX0_add_46 (fun H locs hP hD hS => ?_)
      have hP : va_P (dC, dI) vwCl [(h0, .inr (0, [.int lm, .ref w0, .int us])), (w0, .inl (k0, cn, .inl f0)), (q_10, .inl (k_11, (2 * cn), .inl (va_cpy f0 (fun _ => 0) (Int32.toNatClampNeg 0) (Int32.toNatClampNeg 0) (Int32.toNatClampNeg (nI cn)))))] H := hP
      have hD : va_D A [(h0, .inr (0, [.int lm, .ref w0, .int us])), (w0, .inl (k0, cn, .inl f0)), (q_10, .inl (k_11, (2 * cn), .inl (va_cpy f0 (fun _ => 0) (Int32.toNatClampNeg 0) (Int32.toNatClampNeg 0) (Int32.toNatClampNeg (nI cn)))))] := hD
      refine lv_aload_n hx hb dX0_add_49 rfl (lv_at hl 1 rfl) ?_
      refine lv_aload_n hx hb dX0_add_50 rfl (lv_at hl 0 rfl) ?_
      refine va_put (D := (dC, dI)) (ci := 0) (v := .ref q_10) (ty := .array .int) (C := RX0) (T := TX0) (N := 3) hx hb hg gb_0 tyX0 tyX0_ok nmX0 hown hK hP hD hS 0 rfl rfl 1 (by decide) (hg _ gm_fieldLink_RX0_9_ErrandGuild_Cells_cells_AI_) (fun _ h9 => h9) rfl (by decide +kernel) rfl rfl (Nat.le_of_ble_eq_true rfl) dX0_add_51 (fun H locs hP hD hS => ?_)
      have hP : va_P (dC, dI) vwCl [(h0, .inr (0, [.int lm, .ref q_10, .int us])), (w0, .inl (k0, cn, .inl f0)), (q_10, .inl (k_11, (2 * cn), .inl (va_cpy f0 (fun _ => 0) (Int32.toNatClampNeg 0) (Int32.toNatClampNeg 0) (Int32.toNatClampNeg (nI cn)))))] H := hP
      have hD : va_D A [(h0, .inr (0, [.int lm, .ref q_10, .int us])), (w0, .inl (k0, cn, .inl f0)), (q_10, .inl (k_11, (2 * cn), .inl (va_cpy f0 (fun _ => 0) (Int32.toNatClampNeg 0) (Int32.toNatClampNeg 0) (Int32.toNatClampNeg (nI cn)))))] := hD
      refine lv_aload_n hx hb dX0_add_54 rfl (lv_at hl 1 rfl) ?_
      refine va_get (D := (dC, dI)) (ci := 0) (v := .int us) (C := RX0) (T := TX0) (N := 3) hx hb hg gb_0 hown hK hP 0 rfl rfl 2 (by decide) (hg _ gm_fieldLink_RX0_19_ErrandGuild_Cells_used_I_) (fun _ h9 => h9) rfl dX0_add_55 ?_
      refine lv_if_lt (tgt := 93) hx hb dX0_add_58 (by decide) (fun c_13 => ?_) (fun c_13 => ?_)
      · simp only [i_lt, i_le, i_eq, ti_0] at c_13
        refine W_msrP (fun hm1 hm2 => ?_)
        refine W.widen (k := 1) (n := (2 * cn)) (by omega) (by omega) ?_
        have hP9 := hP.sub (ws' := [(h0, .inr (0, [.int lm, .ref q_10, .int us])), (q_10, .inl (k_11, (2 * cn), .inl (va_cpy f0 (fun _ => 0) (Int32.toNatClampNeg 0) (Int32.toNatClampNeg 0) (Int32.toNatClampNeg (nI cn)))))]) [0, 2] rfl
        have hD9 := hD.sub (ws' := [(h0, .inr (0, [.int lm, .ref q_10, .int us])), (q_10, .inl (k_11, (2 * cn), .inl (va_cpy f0 (fun _ => 0) (Int32.toNatClampNeg 0) (Int32.toNatClampNeg 0) (Int32.toNatClampNeg (nI cn)))))]) [0, 2] (by decide) rfl
        have hK9 := hK.sub (tys' := [(k_11, .int)]) [1] rfl
        exact W.vret hx hb hr (fun t ht hW => ⟨⟨((fun k => ([q_10, (2 * cn)] : List Nat).getD k 0), (fun k => ([k_11] : List ClassId).getD k (dC 0)), (fun k => ([va_cpy f0 (fun _ => 0) (Int32.toNatClampNeg 0) (Int32.toNatClampNeg 0) (Int32.toNatClampNeg (nI cn)), (fun _ => us)] : List (Nat → Int32)).getD k (fun _ => 0)), (fun _ => (fun _ => none))), rfl, ⟨Or.inr ⟨rfl, by omega, by omega⟩, Or.inl rfl, by show us.toInt ≤ (((2 * cn) : Nat) : Int); omega⟩, by rw [ht]; exact hP9, hD9, va_K.moved hW.alike hK9, by rw [ht]; show hpS H ≤ hpS s.heap + (2 * (2 * cn) - 2 * cn) ∧ 16 * H.size ≤ 16 * s.heap.size + ((2 * cn) - cn); omega, (by show va_cpy f0 (fun _ => 0) (Int32.toNatClampNeg 0) (Int32.toNatClampNeg 0) (Int32.toNatClampNeg (nI cn)) = aF us lm f0 v1; unfold aF; rw [if_pos (by omega)]; first | (exfalso; omega) | rw [cpy_id hzr (by have t_ := nI_toInt (n := cn) (by omega); have c_ := cl_eq (nI cn); omega)]), (by show us = aN us lm; unfold aN; first | rw [if_neg (by omega)] | (exfalso; omega))⟩, hS.F ht⟩) hS.2.2 dX0_add_93
      · simp only [i_lt, i_le, i_eq, ti_0] at c_13
        refine lv_aload_n hx hb dX0_add_61 rfl (lv_at hl 1 rfl) ?_
        refine va_get (D := (dC, dI)) (ci := 0) (v := .int us) (C := RX0) (T := TX0) (N := 3) hx hb hg gb_0 hown hK hP 0 rfl rfl 2 (by decide) (hg _ gm_fieldLink_RX0_19_ErrandGuild_Cells_used_I_) (fun _ h9 => h9) rfl dX0_add_62 ?_
        refine lv_aload_n hx hb dX0_add_65 rfl (lv_at hl 1 rfl) ?_
        refine va_get (D := (dC, dI)) (ci := 0) (v := .ref q_10) (C := RX0) (T := TX0) (N := 3) hx hb hg gb_0 hown hK hP 0 rfl rfl 1 (by decide) (hg _ gm_fieldLink_RX0_9_ErrandGuild_Cells_cells_AI_) (fun _ h9 => h9) rfl dX0_add_66 ?_
        refine va_alen (v := nI (2 * cn)) hx hb hK hP 2 1 rfl rfl rfl dX0_add_69 ?_
        have tn_14 : (nI (2 * cn)).toInt = ((2 * cn) : Int) := nI_toInt (by omega)
        refine lv_icmp_ge (tgt := 93) hx hb dX0_add_70 (by decide) (fun c_15 => ?_) (fun c_15 => ?_)
        · simp only [i_lt, i_le, i_eq] at c_15
          refine W_msrP (fun hm1 hm2 => ?_)
          refine W.widen (k := 1) (n := (2 * cn)) (by omega) (by omega) ?_
          have hP9 := hP.sub (ws' := [(h0, .inr (0, [.int lm, .ref q_10, .int us])), (q_10, .inl (k_11, (2 * cn), .inl (va_cpy f0 (fun _ => 0) (Int32.toNatClampNeg 0) (Int32.toNatClampNeg 0) (Int32.toNatClampNeg (nI cn)))))]) [0, 2] rfl
          have hD9 := hD.sub (ws' := [(h0, .inr (0, [.int lm, .ref q_10, .int us])), (q_10, .inl (k_11, (2 * cn), .inl (va_cpy f0 (fun _ => 0) (Int32.toNatClampNeg 0) (Int32.toNatClampNeg 0) (Int32.toNatClampNeg (nI cn)))))]) [0, 2] (by decide) rfl
          have hK9 := hK.sub (tys' := [(k_11, .int)]) [1] rfl
          exact W.vret hx hb hr (fun t ht hW => ⟨⟨((fun k => ([q_10, (2 * cn)] : List Nat).getD k 0), (fun k => ([k_11] : List ClassId).getD k (dC 0)), (fun k => ([va_cpy f0 (fun _ => 0) (Int32.toNatClampNeg 0) (Int32.toNatClampNeg 0) (Int32.toNatClampNeg (nI cn)), (fun _ => us)] : List (Nat → Int32)).getD k (fun _ => 0)), (fun _ => (fun _ => none))), rfl, ⟨Or.inr ⟨rfl, by omega, by omega⟩, Or.inl rfl, by show us.toInt ≤ (((2 * cn) : Nat) : Int); omega⟩, by rw [ht]; exact hP9, hD9, va_K.moved hW.alike hK9, by rw [ht]; show hpS H ≤ hpS s.heap + (2 * (2 * cn) - 2 * cn) ∧ 16 * H.size ≤ 16 * s.heap.size + ((2 * cn) - cn); omega, (by show va_cpy f0 (fun _ => 0) (Int32.toNatClampNeg 0) (Int32.toNatClampNeg 0) (Int32.toNatClampNeg (nI cn)) = aF us lm f0 v1; unfold aF; rw [if_pos (by omega)]; first | (exfalso; omega) | rw [cpy_id hzr (by have t_ := nI_toInt (n := cn) (by omega); have c_ := cl_eq (nI cn); omega)]), (by show us = aN us lm; unfold aN; first | rw [if_neg (by omega)] | (exfalso; omega))⟩, hS.F ht⟩) hS.2.2 dX0_add_93
        · simp only [i_lt, i_le, i_eq] at c_15
          refine lv_aload_n hx hb dX0_add_73 rfl (lv_at hl 1 rfl) ?_
          refine va_get (D := (dC, dI)) (ci := 0) (v := .ref q_10) (C := RX0) (T := TX0) (N := 3) hx hb hg gb_0 hown hK hP 0 rfl rfl 1 (by decide) (hg _ gm_fieldLink_RX0_9_ErrandGuild_Cells_cells_AI_) (fun _ h9 => h9) rfl dX0_add_74 ?_
          refine lv_aload_n hx hb dX0_add_77 rfl (lv_at hl 1 rfl) ?_
          refine va_get (D := (dC, dI)) (ci := 0) (v := .int us) (C := RX0) (T := TX0) (N := 3) hx hb hg gb_0 hown hK hP 0 rfl rfl 2 (by decide) (hg _ gm_fieldLink_RX0_19_ErrandGuild_Cells_used_I_) (fun _ h9 => h9) rfl dX0_add_78 ?_
          refine lv_iload_n hx hb dX0_add_81 rfl (lv_at hl 2 rfl) ?_
          refine va_iast hx hb hK hP hD hS 2 1 rfl rfl (vp_in_iff.mpr ⟨by omega, by omega⟩) dX0_add_82 (fun H locs hP hD hS => ?_)
          have hP : va_P (dC, dI) vwCl [(h0, .inr (0, [.int lm, .ref q_10, .int us])), (w0, .inl (k0, cn, .inl f0)), (q_10, .inl (k_11, (2 * cn), .inl (upd (va_cpy f0 (fun _ => 0) (Int32.toNatClampNeg 0) (Int32.toNatClampNeg 0) (Int32.toNatClampNeg (nI cn))) (Int32.toNatClampNeg us) v1)))] H := hP
          have hD : va_D A [(h0, .inr (0, [.int lm, .ref q_10, .int us])), (w0, .inl (k0, cn, .inl f0)), (q_10, .inl (k_11, (2 * cn), .inl (upd (va_cpy f0 (fun _ => 0) (Int32.toNatClampNeg 0) (Int32.toNatClampNeg 0) (Int32.toNatClampNeg (nI cn))) (Int32.toNatClampNeg us) v1)))] := hD
          refine lv_aload_n hx hb dX0_add_83 rfl (lv_at hl 1 rfl) ?_
          refine lv_dup hx hb dX0_add_84 rfl ?_
          refine va_get (D := (dC, dI)) (ci := 0) (v := .int us) (C := RX0) (T := TX0) (N := 3) hx hb hg gb_0 hown hK hP 0 rfl rfl 2 (by decide) (hg _ gm_fieldLink_RX0_19_ErrandGuild_Cells_used_I_) (fun _ h9 => h9) rfl dX0_add_85 ?_
          refine lv_iconst (v := 1) hx hb dX0_add_88 (by decide) ?_
          refine lv_iadd hx hb dX0_add_89 ?_
          refine lv_topi (fun z_16 ez_16 => ?_)
          have tz_16 : z_16.toInt = us.toInt + 1 := ar_add rfl ti_1 ez_16 (by omega)
          refine va_put (D := (dC, dI)) (ci := 0) (v := .int z_16) (ty := .int) (C := RX0) (T := TX0) (N := 3) hx hb hg gb_0 tyX0 tyX0_ok nmX0 hown hK hP hD hS 0 rfl rfl 2 (by decide) (hg _ gm_fieldLink_RX0_19_ErrandGuild_Cells_used_I_) (fun _ h9 => h9) rfl (by decide +kernel) rfl rfl (Nat.le_of_ble_eq_true rfl) dX0_add_90 (fun H locs hP hD hS => ?_)
          have hP : va_P (dC, dI) vwCl [(h0, .inr (0, [.int lm, .ref q_10, .int z_16])), (w0, .inl (k0, cn, .inl f0)), (q_10, .inl (k_11, (2 * cn), .inl (upd (va_cpy f0 (fun _ => 0) (Int32.toNatClampNeg 0) (Int32.toNatClampNeg 0) (Int32.toNatClampNeg (nI cn))) (Int32.toNatClampNeg us) v1)))] H := hP
          have hD : va_D A [(h0, .inr (0, [.int lm, .ref q_10, .int z_16])), (w0, .inl (k0, cn, .inl f0)), (q_10, .inl (k_11, (2 * cn), .inl (upd (va_cpy f0 (fun _ => 0) (Int32.toNatClampNeg 0) (Int32.toNatClampNeg 0) (Int32.toNatClampNeg (nI cn))) (Int32.toNatClampNeg us) v1)))] := hD
          refine W_msrP (fun hm1 hm2 => ?_)
          refine W.widen (k := 1) (n := (2 * cn)) (by omega) (by omega) ?_
          have hP9 := hP.sub (ws' := [(h0, .inr (0, [.int lm, .ref q_10, .int z_16])), (q_10, .inl (k_11, (2 * cn), .inl (upd (va_cpy f0 (fun _ => 0) (Int32.toNatClampNeg 0) (Int32.toNatClampNeg 0) (Int32.toNatClampNeg (nI cn))) (Int32.toNatClampNeg us) v1)))]) [0, 2] rfl
          have hD9 := hD.sub (ws' := [(h0, .inr (0, [.int lm, .ref q_10, .int z_16])), (q_10, .inl (k_11, (2 * cn), .inl (upd (va_cpy f0 (fun _ => 0) (Int32.toNatClampNeg 0) (Int32.toNatClampNeg 0) (Int32.toNatClampNeg (nI cn))) (Int32.toNatClampNeg us) v1)))]) [0, 2] (by decide) rfl
          have hK9 := hK.sub (tys' := [(k_11, .int)]) [1] rfl
          exact W.vret hx hb hr (fun t ht hW => ⟨⟨((fun k => ([q_10, (2 * cn)] : List Nat).getD k 0), (fun k => ([k_11] : List ClassId).getD k (dC 0)), (fun k => ([upd (va_cpy f0 (fun _ => 0) (Int32.toNatClampNeg 0) (Int32.toNatClampNeg 0) (Int32.toNatClampNeg (nI cn))) (Int32.toNatClampNeg us) v1, (fun _ => z_16)] : List (Nat → Int32)).getD k (fun _ => 0)), (fun _ => (fun _ => none))), rfl, ⟨Or.inr ⟨rfl, by omega, by omega⟩, Or.inr (show z_16.toInt = us.toInt + 1 by omega), by show z_16.toInt ≤ (((2 * cn) : Nat) : Int); omega⟩, by rw [ht]; exact hP9, hD9, va_K.moved hW.alike hK9, by rw [ht]; show hpS H ≤ hpS s.heap + (2 * (2 * cn) - 2 * cn) ∧ 16 * H.size ≤ 16 * s.heap.size + ((2 * cn) - cn); omega, (by show upd (va_cpy f0 (fun _ => 0) (Int32.toNatClampNeg 0) (Int32.toNatClampNeg 0) (Int32.toNatClampNeg (nI cn))) (Int32.toNatClampNeg us) v1 = aF us lm f0 v1; unfold aF; rw [if_pos (by omega)]; first | (exfalso; omega) | rw [cpy_id hzr (by have t_ := nI_toInt (n := cn) (by omega); have c_ := cl_eq (nI cn); omega)]), (by show z_16 = aN us lm; unfold aN; rw [if_pos (by omega)]; exact ez_16)⟩, hS.F ht⟩) hS.2.2 dX0_add_93
  · simp only [i_lt, i_le, i_eq] at c_1
    refine W_msrP (fun hm1 hm2 => ?_)
    refine W.widen (k := 1) (n := (2 * cn)) (by omega) (by omega) ?_
    have hP9 := hP.sub (ws' := [(h0, .inr (0, [.int lm, .ref w0, .int us])), (w0, .inl (k0, cn, .inl f0))]) [0, 1] rfl
    have hD9 := hD.sub (ws' := [(h0, .inr (0, [.int lm, .ref w0, .int us])), (w0, .inl (k0, cn, .inl f0))]) [0, 1] (by decide) rfl
    have hK9 := hK.sub (tys' := [(k0, .int)]) [0] rfl
    exact W.vret hx hb hr (fun t ht hW => ⟨⟨((fun k => ([w0, cn] : List Nat).getD k 0), (fun k => ([k0] : List ClassId).getD k (dC 0)), (fun k => ([f0, (fun _ => us)] : List (Nat → Int32)).getD k (fun _ => 0)), (fun _ => (fun _ => none))), rfl, ⟨Or.inl rfl, Or.inl rfl, by show us.toInt ≤ ((cn : Nat) : Int); omega⟩, by rw [ht]; exact hP9, hD9, va_K.moved hW.alike hK9, by rw [ht]; show hpS s.heap ≤ hpS s.heap + (2 * cn - 2 * cn) ∧ 16 * s.heap.size ≤ 16 * s.heap.size + (cn - cn); omega, (by show f0 = aF us lm f0 v1; unfold aF; first | rw [if_neg (by omega)] | (exfalso; omega)), (by show us = aN us lm; unfold aN; first | rw [if_neg (by omega)] | (exfalso; omega))⟩, hS.F ht⟩) hS.2.2 dX0_add_11
