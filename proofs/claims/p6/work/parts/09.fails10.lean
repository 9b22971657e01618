set_option maxHeartbeats 8000000 in
set_option maxRecDepth 100000 in
theorem c_X10_fails (l : Launch) (dC : Nat → ClassId) (dI : Nat → Nat → Nat) (kp : Int) (h0 : Nat) (X : Nat → Nat) (C : Nat → ClassId) (F : Nat → Nat → Int32) (n : Nat → Int32) (v1 : Int32) (v2 : Int32) (v3 : Int32) (v4 : Int32) (sz : Nat) (hI : I10 kp F n) (hr : 0 ≤ v1.toInt ∧ v1.toInt < 200) (hrn : v1.toInt < (n 11).toInt) (hs1 : (F 13 (Int32.toNatClampNeg v1)).toInt = 1) (hib : (F 24 (Int32.toNatClampNeg v1)).toInt = 0) (hk : 0 ≤ v2.toInt ∧ v2.toInt ≤ 7) : Met l yX10_fails (.code yX10_fails cX10_fails 6 none :: gw) ({ frames := 2, cells := 0, slots := 0, locals := 47 }) (va_Pc [.ref h0, .int v1, .int v2, .int v3, .int v4] (fun U => U.heap.size = sz ∧ va_P (dC, dI) vwCl (w10 h0 X C (F 0) (F 1) (F 2) (F 3) (F 4) (F 5) (F 6) (F 7) (F 8) (F 10) (F 13) (F 14) (F 15) (F 16) (F 17) (F 18) (F 19) (F 20) (F 21) (F 22) (F 23) (F 24) (F 25) (F 26) (F 27) (F 28) (F 29) (F 30) (F 31) (F 32) (F 33) (F 34) (F 35) (F 36) (F 37) (F 38) (F 39) (F 40) (F 41) (F 42) (F 43) (F 49) (F 50) (F 51) (F 52) (F 53) (F 54) (F 55) (F 56) (F 57) (F 58) (F 59) (n 9) (n 11) (n 12) (n 44) (n 45) (n 46) (n 47) (n 48)) U.heap ∧ va_K (dC, dI) vwCl (t10 C) U ∧ va_D (fun _ => True) (w10 h0 X C (F 0) (F 1) (F 2) (F 3) (F 4) (F 5) (F 6) (F 7) (F 8) (F 10) (F 13) (F 14) (F 15) (F 16) (F 17) (F 18) (F 19) (F 20) (F 21) (F 22) (F 23) (F 24) (F 25) (F 26) (F 27) (F 28) (F 29) (F 30) (F 31) (F 32) (F 33) (F 34) (F 35) (F 36) (F 37) (F 38) (F 39) (F 40) (F 41) (F 42) (F 43) (F 49) (F 50) (F 51) (F 52) (F 53) (F 54) (F 55) (F 56) (F 57) (F 58) (F 59) (n 9) (n 11) (n 12) (n 44) (n 45) (n 46) (n 47) (n 48)) ∧ nx U)) (va_Qv (fun (u : (Nat → Nat → Int32) × (Nat → Int32)) => (n 11).toInt ≤ (u.2 11).toInt) (fun u t => va_P (dC, dI) vwCl (w10 h0 X C (u.1 0) (u.1 1) (u.1 2) (u.1 3) (u.1 4) (u.1 5) (u.1 6) (u.1 7) (u.1 8) (u.1 10) (u.1 13) (u.1 14) (u.1 15) (u.1 16) (u.1 17) (u.1 18) (u.1 19) (u.1 20) (u.1 21) (u.1 22) (u.1 23) (u.1 24) (u.1 25) (u.1 26) (u.1 27) (u.1 28) (u.1 29) (u.1 30) (u.1 31) (u.1 32) (u.1 33) (u.1 34) (u.1 35) (u.1 36) (u.1 37) (u.1 38) (u.1 39) (u.1 40) (u.1 41) (u.1 42) (u.1 43) (u.1 49) (u.1 50) (u.1 51) (u.1 52) (u.1 53) (u.1 54) (u.1 55) (u.1 56) (u.1 57) (u.1 58) (u.1 59) (u.2 9) (u.2 11) (u.2 12) (u.2 44) (u.2 45) (u.2 46) (u.2 47) (u.2 48)) t.heap ∧ va_D (va_A (w10 h0 X C (F 0) (F 1) (F 2) (F 3) (F 4) (F 5) (F 6) (F 7) (F 8) (F 10) (F 13) (F 14) (F 15) (F 16) (F 17) (F 18) (F 19) (F 20) (F 21) (F 22) (F 23) (F 24) (F 25) (F 26) (F 27) (F 28) (F 29) (F 30) (F 31) (F 32) (F 33) (F 34) (F 35) (F 36) (F 37) (F 38) (F 39) (F 40) (F 41) (F 42) (F 43) (F 49) (F 50) (F 51) (F 52) (F 53) (F 54) (F 55) (F 56) (F 57) (F 58) (F 59) (n 9) (n 11) (n 12) (n 44) (n 45) (n 46) (n 47) (n 48)) sz) (w10 h0 X C (u.1 0) (u.1 1) (u.1 2) (u.1 3) (u.1 4) (u.1 5) (u.1 6) (u.1 7) (u.1 8) (u.1 10) (u.1 13) (u.1 14) (u.1 15) (u.1 16) (u.1 17) (u.1 18) (u.1 19) (u.1 20) (u.1 21) (u.1 22) (u.1 23) (u.1 24) (u.1 25) (u.1 26) (u.1 27) (u.1 28) (u.1 29) (u.1 30) (u.1 31) (u.1 32) (u.1 33) (u.1 34) (u.1 35) (u.1 36) (u.1 37) (u.1 38) (u.1 39) (u.1 40) (u.1 41) (u.1 42) (u.1 43) (u.1 49) (u.1 50) (u.1 51) (u.1 52) (u.1 53) (u.1 54) (u.1 55) (u.1 56) (u.1 57) (u.1 58) (u.1 59) (u.2 9) (u.2 11) (u.2 12) (u.2 44) (u.2 45) (u.2 46) (u.2 47) (u.2 48)) ∧ I10 kp u.1 u.2) (va_A (w10 h0 X C (F 0) (F 1) (F 2) (F 3) (F 4) (F 5) (F 6) (F 7) (F 8) (F 10) (F 13) (F 14) (F 15) (F 16) (F 17) (F 18) (F 19) (F 20) (F 21) (F 22) (F 23) (F 24) (F 25) (F 26) (F 27) (F 28) (F 29) (F 30) (F 31) (F 32) (F 33) (F 34) (F 35) (F 36) (F 37) (F 38) (F 39) (F 40) (F 41) (F 42) (F 43) (F 49) (F 50) (F 51) (F 52) (F 53) (F 54) (F 55) (F 56) (F 57) (F 58) (F 59) (n 9) (n 11) (n 12) (n 44) (n 45) (n 46) (n 47) (n 48)) sz)) 0 0 (va_A (w10 h0 X C (F 0) (F 1) (F 2) (F 3) (F 4) (F 5) (F 6) (F 7) (F 8) (F 10) (F 13) (F 14) (F 15) (F 16) (F 17) (F 18) (F 19) (F 20) (F 21) (F 22) (F 23) (F 24) (F 25) (F 26) (F 27) (F 28) (F 29) (F 30) (F 31) (F 32) (F 33) (F 34) (F 35) (F 36) (F 37) (F 38) (F 39) (F 40) (F 41) (F 42) (F 43) (F 49) (F 50) (F 51) (F 52) (F 53) (F 54) (F 55) (F 56) (F 57) (F 58) (F 59) (n 9) (n 11) (n 12) (n 44) (n 45) (n 46) (n 47) (n 48)) sz) := by
  refine Met.ofW (cc := cX10_fails) (maxL := 6) (ret := none) (by decide) rfl ?_
  intro p e s m args below meth c s₁ B hml hv
  obtain ⟨rfl, hsz, hP, hK, hD0, hN⟩ := hv
  have hx := B.exec
  have hb := B.bytes
  have hr := B.returns
  have hts := atoms_spec (ws := .code yX10_fails cX10_fails 6 none :: gw) B.pre
  have hg : ∀ w ∈ gw, w.before _ s = true := fun w h => hts w (List.mem_cons_of_mem _ h)
  have hown : s.vm.findClass RX10 = some m.cls := findClass_of_methodNamed B.named
  have hlocks := B.notSynchronized
  subst hsz
  have hD := hD0.self (sz := s.heap.size)
  generalize hAe : va_A (w10 h0 X C (F 0) (F 1) (F 2) (F 3) (F 4) (F 5) (F 6) (F 7) (F 8) (F 10) (F 13) (F 14) (F 15) (F 16) (F 17) (F 18) (F 19) (F 20) (F 21) (F 22) (F 23) (F 24) (F 25) (F 26) (F 27) (F 28) (F 29) (F 30) (F 31) (F 32) (F 33) (F 34) (F 35) (F 36) (F 37) (F 38) (F 39) (F 40) (F 41) (F 42) (F 43) (F 49) (F 50) (F 51) (F 52) (F 53) (F 54) (F 55) (F 56) (F 57) (F 58) (F 59) (n 9) (n 11) (n 12) (n 44) (n 45) (n 46) (n 47) (n 48)) s.heap.size = A at hD ⊢
  have hA : ∀ q : Nat, s.heap.size ≤ q → A q := fun q h => by rw [← hAe]; exact Or.inr h
  have hS : va_S A s.heap s.heap [] := va_S.rf
  have hP : va_P (dC, dI) vwCl (w10 h0 X C (F 0) (F 1) (F 2) (F 3) (F 4) (F 5) (F 6) (F 7) (F 8) (F 10) (F 13) (F 14) (F 15) (F 16) (F 17) (F 18) (F 19) (F 20) (F 21) (F 22) (F 23) (F 24) (F 25) (F 26) (F 27) (F 28) (F 29) (F 30) (F 31) (F 32) (F 33) (F 34) (F 35) (F 36) (F 37) (F 38) (F 39) (F 40) (F 41) (F 42) (F 43) (F 49) (F 50) (F 51) (F 52) (F 53) (F 54) (F 55) (F 56) (F 57) (F 58) (F 59) (n 9) (n 11) (n 12) (n 44) (n 45) (n 46) (n 47) (n 48)) s.heap := hP
  have hl := lv_entry ([.ref h0, .int v1, .int v2, .int v3, .int v4]) (n := 6) (Nat.le_of_ble_eq_true rfl)
  rw [lg_entry_eq]
  generalize (lg_sl ([.ref h0, .int v1, .int v2, .int v3, .int v4]) ++ List.replicate (6 - (lg_sl ([.ref h0, .int v1, .int v2, .int v3, .int v4])).length) Slot.unset).toArray = ls at hl ⊢
  have hl : lv_has ls 6 [(0, .ref h0), (1, .int v1), (2, .int v2), (3, .int v3), (4, .int v4)] := hl
  obtain ⟨b_1, b_2, b_3, b_4, b_5, b_6, b_7, b_8, b_9, b_10, b_11, b_12, i_13, i_14, i_15, i_16, i_17, i_18, i_19, j_20, j_21, j_22, j_23, j_24, j_25, j_26, j_27, j_28, j_29⟩ := id hI
  have p39 := b_11 (Int32.toNatClampNeg v1)
  have p20 := b_8 (Int32.toNatClampNeg v1)
  have p36 := b_10 (Int32.toNatClampNeg v1)
  have jj2 := j_22 (Int32.toNatClampNeg v1)
  have jj3 := j_23 (Int32.toNatClampNeg v1)
  have ce1 := cl_eq v1
  have O5 := j_25
  have O4 := j_24
  refine lv_aload_n hx hb dX10_fails_0 rfl (lv_at hl 0 rfl) ?_
  refine va_get (D := (dC, dI)) (ci := 10) (v := .ref (X 39)) (C := RX10) (T := TX10) (N := 60) hx hb hg gb_10 hown hK hP 0 rfl rfl 39 (by decide) (hg _ gm_fieldLink_RX10_123_ErrandGuildModel_tryMany_AI_) (fun _ h9 => h9) rfl dX10_fails_1 ?_
  refine lv_iload_n hx hb dX10_fails_4 rfl (lv_at hl 1 rfl) ?_
  refine va_iald (f := F 39) hx hb hK hP 37 36 rfl rfl (vp_in_iff.mpr ⟨by omega, by omega⟩) dX10_fails_5 ?_
  refine lv_topi (fun z_30 ez_30 => ?_)
  have qz_30 := congrArg Int32.toInt ez_30
  have bz_30 := bd_at b_11 ez_30
  refine lv_iconst (v := 1) hx hb dX10_fails_6 (by decide) ?_
  refine lv_isub hx hb dX10_fails_7 ?_
  refine lv_topi (fun z_31 ez_31 => ?_)
  have tz_31 : z_31.toInt = z_30.toInt - 1 := ar_sub rfl ti_1 ez_31 (by omega)
  refine lv_istore (lv' := [(5, .int z_31), (0, .ref h0), (1, .int v1), (2, .int v2), (3, .int v3), (4, .int v4)]) hx hb dX10_fails_8 hl (by decide) rfl (fun ls hl => ?_)
  have L10 : ∀ (fuel : Nat) (x_32 : Int32) (H : Heap) (locs : List Loc) (ls : Array Slot), (x_32.toInt + 1).toNat < fuel → (-1 ≤ x_32.toInt ∧ x_32.toInt < (F 39 (Int32.toNatClampNeg v1)).toInt) → va_P (dC, dI) vwCl (w10 h0 X C (F 0) (F 1) (F 2) (F 3) (F 4) (F 5) (F 6) (F 7) (F 8) (F 10) (F 13) (F 14) (F 15) (F 16) (F 17) (F 18) (F 19) (F 20) (F 21) (F 22) (F 23) (F 24) (F 25) (F 26) (F 27) (F 28) (F 29) (F 30) (F 31) (F 32) (F 33) (F 34) (F 35) (F 36) (F 37) (F 38) (F 39) (F 40) (F 41) (F 42) (F 43) (F 49) (F 50) (F 51) (F 52) (F 53) (F 54) (F 55) (F 56) (F 57) (F 58) (F 59) (n 9) (n 11) (n 12) (n 44) (n 45) (n 46) (n 47) (n 48)) H → va_D A (w10 h0 X C (F 0) (F 1) (F 2) (F 3) (F 4) (F 5) (F 6) (F 7) (F 8) (F 10) (F 13) (F 14) (F 15) (F 16) (F 17) (F 18) (F 19) (F 20) (F 21) (F 22) (F 23) (F 24) (F 25) (F 26) (F 27) (F 28) (F 29) (F 30) (F 31) (F 32) (F 33) (F 34) (F 35) (F 36) (F 37) (F 38) (F 39) (F 40) (F 41) (F 42) (F 43) (F 49) (F 50) (F 51) (F 52) (F 53) (F 54) (F 55) (F 56) (F 57) (F 58) (F 59) (n 9) (n 11) (n 12) (n 44) (n 45) (n 46) (n 47) (n 48)) → va_S A s.heap H locs → lv_has ls 6 [(5, .int x_32), (0, .ref h0), (1, .int v1), (2, .int v2), (3, .int v3), (4, .int v4)] → W p l e (headSpec (.code yX10_fails cX10_fails 6 none :: gw) ({ frames := 2, cells := 0, slots := 0, locals := 47 })).room s m ([.ref h0, .int v1, .int v2, .int v3, .int v4] : List Value).toArray below meth c H locs 0 0 (MQ below (va_Qv (fun (u : (Nat → Nat → Int32) × (Nat → Int32)) => (n 11).toInt ≤ (u.2 11).toInt) (fun u t => va_P (dC, dI) vwCl (w10 h0 X C (u.1 0) (u.1 1) (u.1 2) (u.1 3) (u.1 4) (u.1 5) (u.1 6) (u.1 7) (u.1 8) (u.1 10) (u.1 13) (u.1 14) (u.1 15) (u.1 16) (u.1 17) (u.1 18) (u.1 19) (u.1 20) (u.1 21) (u.1 22) (u.1 23) (u.1 24) (u.1 25) (u.1 26) (u.1 27) (u.1 28) (u.1 29) (u.1 30) (u.1 31) (u.1 32) (u.1 33) (u.1 34) (u.1 35) (u.1 36) (u.1 37) (u.1 38) (u.1 39) (u.1 40) (u.1 41) (u.1 42) (u.1 43) (u.1 49) (u.1 50) (u.1 51) (u.1 52) (u.1 53) (u.1 54) (u.1 55) (u.1 56) (u.1 57) (u.1 58) (u.1 59) (u.2 9) (u.2 11) (u.2 12) (u.2 44) (u.2 45) (u.2 46) (u.2 47) (u.2 48)) t.heap ∧ va_D A (w10 h0 X C (u.1 0) (u.1 1) (u.1 2) (u.1 3) (u.1 4) (u.1 5) (u.1 6) (u.1 7) (u.1 8) (u.1 10) (u.1 13) (u.1 14) (u.1 15) (u.1 16) (u.1 17) (u.1 18) (u.1 19) (u.1 20) (u.1 21) (u.1 22) (u.1 23) (u.1 24) (u.1 25) (u.1 26) (u.1 27) (u.1 28) (u.1 29) (u.1 30) (u.1 31) (u.1 32) (u.1 33) (u.1 34) (u.1 35) (u.1 36) (u.1 37) (u.1 38) (u.1 39) (u.1 40) (u.1 41) (u.1 42) (u.1 43) (u.1 49) (u.1 50) (u.1 51) (u.1 52) (u.1 53) (u.1 54) (u.1 55) (u.1 56) (u.1 57) (u.1 58) (u.1 59) (u.2 9) (u.2 11) (u.2 12) (u.2 44) (u.2 45) (u.2 46) (u.2 47) (u.2 48)) ∧ I10 kp u.1 u.2) A) ([.ref h0, .int v1, .int v2, .int v3, .int v4] : List Value).toArray s 0 0 A) (F0 m 10 ls []) := by
    intro fuel
    induction fuel with
    | zero => intro x_32 H locs ls hm; exact absurd hm (Nat.not_lt_zero _)
    | succ fuel_34 ih_33 =>
      intro x_32 H locs ls hm_36 v_35 hP hD hS hl
      refine lv_iload hx hb dX10_fails_10 (lv_at hl 0 rfl) ?_
      refine lv_if_lt (tgt := 57) hx hb dX10_fails_12 (by decide) (fun c_37 => ?_) (fun c_37 => ?_)
      · simp only [i_lt, i_le, i_eq, ti_0] at c_37
        refine lv_iload hx hb dX10_fails_57 (lv_at hl 0 rfl) ?_
        refine lv_if_lt (tgt := 148) hx hb dX10_fails_59 (by decide) (fun c_38 => ?_) (fun c_38 => ?_)
        · simp only [i_lt, i_le, i_eq, ti_0] at c_38
          refine lv_aload_n hx hb dX10_fails_148 rfl (lv_at hl 1 rfl) ?_
          refine va_get (D := (dC, dI)) (ci := 10) (v := .ref (X 28)) (C := RX10) (T := TX10) (N := 60) hx hb hg gb_10 hown hK hP 0 rfl rfl 28 (by decide) (hg _ gm_fieldLink_RX10_90_ErrandGuildModel_failKind_AI_) (fun _ h9 => h9) rfl dX10_fails_149 ?_
          refine lv_iload_n hx hb dX10_fails_152 rfl (lv_at hl 2 rfl) ?_
          refine lv_iload_n hx hb dX10_fails_153 rfl (lv_at hl 3 rfl) ?_
          refine va_iast (f := F 28) hx hb hK hP hD hS 26 25 rfl rfl (vp_in_iff.mpr ⟨by omega, by omega⟩) dX10_fails_154 (fun H locs hP hD hS => ?_)
          have hP : va_P (dC, dI) vwCl (w10 h0 X C (F 0) (F 1) (F 2) (F 3) (F 4) (F 5) (F 6) (F 7) (F 8) (F 10) (F 13) (F 14) (F 15) (F 16) (F 17) (F 18) (F 19) (F 20) (F 21) (F 22) (F 23) (F 24) (F 25) (F 26) (F 27) (upd (F 28) (Int32.toNatClampNeg v1) v2) (F 29) (F 30) (F 31) (F 32) (F 33) (F 34) (F 35) (F 36) (F 37) (F 38) (F 39) (F 40) (F 41) (F 42) (F 43) (F 49) (F 50) (F 51) (F 52) (F 53) (F 54) (F 55) (F 56) (F 57) (F 58) (F 59) (n 9) (n 11) (n 12) (n 44) (n 45) (n 46) (n 47) (n 48)) H := hP
          have hD : va_D A (w10 h0 X C (F 0) (F 1) (F 2) (F 3) (F 4) (F 5) (F 6) (F 7) (F 8) (F 10) (F 13) (F 14) (F 15) (F 16) (F 17) (F 18) (F 19) (F 20) (F 21) (F 22) (F 23) (F 24) (F 25) (F 26) (F 27) (upd (F 28) (Int32.toNatClampNeg v1) v2) (F 29) (F 30) (F 31) (F 32) (F 33) (F 34) (F 35) (F 36) (F 37) (F 38) (F 39) (F 40) (F 41) (F 42) (F 43) (F 49) (F 50) (F 51) (F 52) (F 53) (F 54) (F 55) (F 56) (F 57) (F 58) (F 59) (n 9) (n 11) (n 12) (n 44) (n 45) (n 46) (n 47) (n 48)) := hD
          have b_39 := bd_upd b_9 (Int32.toNatClampNeg v1) (x := v2) (by omega) (by omega)
          refine lv_aload_n hx hb dX10_fails_155 rfl (lv_at hl 1 rfl) ?_
          refine va_get (D := (dC, dI)) (ci := 10) (v := .ref (X 29)) (C := RX10) (T := TX10) (N := 60) hx hb hg gb_10 hown hK hP 0 rfl rfl 29 (by decide) (hg _ gm_fieldLink_RX10_93_ErrandGuildModel_failStep_AI_) (fun _ h9 => h9) rfl dX10_fails_156 ?_
          refine lv_iload_n hx hb dX10_fails_159 rfl (lv_at hl 2 rfl) ?_
          refine lv_aload_n hx hb dX10_fails_160 rfl (lv_at hl 1 rfl) ?_
          refine va_get (D := (dC, dI)) (ci := 10) (v := .ref (X 20)) (C := RX10) (T := TX10) (N := 60) hx hb hg gb_10 hown hK hP 0 rfl rfl 20 (by decide) (hg _ gm_fieldLink_RX10_66_ErrandGuildModel_place_AI_) (fun _ h9 => h9) rfl dX10_fails_161 ?_
          refine lv_iload_n hx hb dX10_fails_164 rfl (lv_at hl 2 rfl) ?_
          refine va_iald (f := F 20) hx hb hK hP 18 17 rfl rfl (vp_in_iff.mpr ⟨by omega, by omega⟩) dX10_fails_165 ?_
          refine lv_topi (fun z_40 ez_40 => ?_)
          have qz_40 := congrArg Int32.toInt ez_40
          have bz_40 := bd_at b_8 ez_40
          refine va_iast (f := F 29) hx hb hK hP hD hS 27 26 rfl rfl (vp_in_iff.mpr ⟨by omega, by omega⟩) dX10_fails_166 (fun H locs hP hD hS => ?_)
          have hP : va_P (dC, dI) vwCl (w10 h0 X C (F 0) (F 1) (F 2) (F 3) (F 4) (F 5) (F 6) (F 7) (F 8) (F 10) (F 13) (F 14) (F 15) (F 16) (F 17) (F 18) (F 19) (F 20) (F 21) (F 22) (F 23) (F 24) (F 25) (F 26) (F 27) (upd (F 28) (Int32.toNatClampNeg v1) v2) (upd (F 29) (Int32.toNatClampNeg v1) z_40) (F 30) (F 31) (F 32) (F 33) (F 34) (F 35) (F 36) (F 37) (F 38) (F 39) (F 40) (F 41) (F 42) (F 43) (F 49) (F 50) (F 51) (F 52) (F 53) (F 54) (F 55) (F 56) (F 57) (F 58) (F 59) (n 9) (n 11) (n 12) (n 44) (n 45) (n 46) (n 47) (n 48)) H := hP
          have hD : va_D A (w10 h0 X C (F 0) (F 1) (F 2) (F 3) (F 4) (F 5) (F 6) (F 7) (F 8) (F 10) (F 13) (F 14) (F 15) (F 16) (F 17) (F 18) (F 19) (F 20) (F 21) (F 22) (F 23) (F 24) (F 25) (F 26) (F 27) (upd (F 28) (Int32.toNatClampNeg v1) v2) (upd (F 29) (Int32.toNatClampNeg v1) z_40) (F 30) (F 31) (F 32) (F 33) (F 34) (F 35) (F 36) (F 37) (F 38) (F 39) (F 40) (F 41) (F 42) (F 43) (F 49) (F 50) (F 51) (F 52) (F 53) (F 54) (F 55) (F 56) (F 57) (F 58) (F 59) (n 9) (n 11) (n 12) (n 44) (n 45) (n 46) (n 47) (n 48)) := hD
          refine lv_aload_n hx hb dX10_fails_167 rfl (lv_at hl 1 rfl) ?_
          refine va_get (D := (dC, dI)) (ci := 10) (v := .ref (X 30)) (C := RX10) (T := TX10) (N := 60) hx hb hg gb_10 hown hK hP 0 rfl rfl 30 (by decide) (hg _ gm_fieldLink_RX10_96_ErrandGuildModel_failCause_AI_) (fun _ h9 => h9) rfl dX10_fails_168 ?_
          refine lv_iload_n hx hb dX10_fails_171 rfl (lv_at hl 2 rfl) ?_
          refine lv_iload_n hx hb dX10_fails_172 rfl (lv_at hl 4 rfl) ?_
          refine va_iast (f := F 30) hx hb hK hP hD hS 28 27 rfl rfl (vp_in_iff.mpr ⟨by omega, by omega⟩) dX10_fails_173 (fun H locs hP hD hS => ?_)
          have hP : va_P (dC, dI) vwCl (w10 h0 X C (F 0) (F 1) (F 2) (F 3) (F 4) (F 5) (F 6) (F 7) (F 8) (F 10) (F 13) (F 14) (F 15) (F 16) (F 17) (F 18) (F 19) (F 20) (F 21) (F 22) (F 23) (F 24) (F 25) (F 26) (F 27) (upd (F 28) (Int32.toNatClampNeg v1) v2) (upd (F 29) (Int32.toNatClampNeg v1) z_40) (upd (F 30) (Int32.toNatClampNeg v1) v3) (F 31) (F 32) (F 33) (F 34) (F 35) (F 36) (F 37) (F 38) (F 39) (F 40) (F 41) (F 42) (F 43) (F 49) (F 50) (F 51) (F 52) (F 53) (F 54) (F 55) (F 56) (F 57) (F 58) (F 59) (n 9) (n 11) (n 12) (n 44) (n 45) (n 46) (n 47) (n 48)) H := hP
          have hD : va_D A (w10 h0 X C (F 0) (F 1) (F 2) (F 3) (F 4) (F 5) (F 6) (F 7) (F 8) (F 10) (F 13) (F 14) (F 15) (F 16) (F 17) (F 18) (F 19) (F 20) (F 21) (F 22) (F 23) (F 24) (F 25) (F 26) (F 27) (upd (F 28) (Int32.toNatClampNeg v1) v2) (upd (F 29) (Int32.toNatClampNeg v1) z_40) (upd (F 30) (Int32.toNatClampNeg v1) v3) (F 31) (F 32) (F 33) (F 34) (F 35) (F 36) (F 37) (F 38) (F 39) (F 40) (F 41) (F 42) (F 43) (F 49) (F 50) (F 51) (F 52) (F 53) (F 54) (F 55) (F 56) (F 57) (F 58) (F 59) (n 9) (n 11) (n 12) (n 44) (n 45) (n 46) (n 47) (n 48)) := hD
          refine lv_aload_n hx hb dX10_fails_174 rfl (lv_at hl 1 rfl) ?_
          refine va_get (D := (dC, dI)) (ci := 10) (v := .ref (X 31)) (C := RX10) (T := TX10) (N := 60) hx hb hg gb_10 hown hK hP 0 rfl rfl 31 (by decide) (hg _ gm_fieldLink_RX10_99_ErrandGuildModel_failOthers_AI_) (fun _ h9 => h9) rfl dX10_fails_175 ?_
          refine lv_iload_n hx hb dX10_fails_178 rfl (lv_at hl 2 rfl) ?_
          refine lv_iload hx hb dX10_fails_179 (lv_at hl 5 rfl) ?_
          refine va_iast (f := F 31) hx hb hK hP hD hS 29 28 rfl rfl (vp_in_iff.mpr ⟨by omega, by omega⟩) dX10_fails_181 (fun H locs hP hD hS => ?_)
          have hP : va_P (dC, dI) vwCl (w10 h0 X C (F 0) (F 1) (F 2) (F 3) (F 4) (F 5) (F 6) (F 7) (F 8) (F 10) (F 13) (F 14) (F 15) (F 16) (F 17) (F 18) (F 19) (F 20) (F 21) (F 22) (F 23) (F 24) (F 25) (F 26) (F 27) (upd (F 28) (Int32.toNatClampNeg v1) v2) (upd (F 29) (Int32.toNatClampNeg v1) z_40) (upd (F 30) (Int32.toNatClampNeg v1) v3) (upd (F 31) (Int32.toNatClampNeg v1) v4) (F 32) (F 33) (F 34) (F 35) (F 36) (F 37) (F 38) (F 39) (F 40) (F 41) (F 42) (F 43) (F 49) (F 50) (F 51) (F 52) (F 53) (F 54) (F 55) (F 56) (F 57) (F 58) (F 59) (n 9) (n 11) (n 12) (n 44) (n 45) (n 46) (n 47) (n 48)) H := hP
          have hD : va_D A (w10 h0 X C (F 0) (F 1) (F 2) (F 3) (F 4) (F 5) (F 6) (F 7) (F 8) (F 10) (F 13) (F 14) (F 15) (F 16) (F 17) (F 18) (F 19) (F 20) (F 21) (F 22) (F 23) (F 24) (F 25) (F 26) (F 27) (upd (F 28) (Int32.toNatClampNeg v1) v2) (upd (F 29) (Int32.toNatClampNeg v1) z_40) (upd (F 30) (Int32.toNatClampNeg v1) v3) (upd (F 31) (Int32.toNatClampNeg v1) v4) (F 32) (F 33) (F 34) (F 35) (F 36) (F 37) (F 38) (F 39) (F 40) (F 41) (F 42) (F 43) (F 49) (F 50) (F 51) (F 52) (F 53) (F 54) (F 55) (F 56) (F 57) (F 58) (F 59) (n 9) (n 11) (n 12) (n 44) (n 45) (n 46) (n 47) (n 48)) := hD
          refine lv_aload_n hx hb dX10_fails_182 rfl (lv_at hl 1 rfl) ?_
          refine lv_iload_n hx hb dX10_fails_183 rfl (lv_at hl 2 rfl) ?_
          refine lv_iconst (v := 4) hx hb dX10_fails_184 (by decide) ?_
          have hFc := free_all hD hS hA
          refine va_callv (va_runV (As := [.int v1, .int 4]) (rest := []) ⟨hx, hb, hml, hown, hg⟩ (c_X10_goes l dC dI kp h0 X C (fun k => ([F 0, F 1, F 2, F 3, F 4, F 5, F 6, F 7, F 8, (fun _ => 0), F 10, (fun _ => 0), (fun _ => 0), F 13, F 14, F 15, F 16, F 17, F 18, F 19, F 20, F 21, F 22, F 23, F 24, F 25, F 26, F 27, upd (F 28) (Int32.toNatClampNeg v1) v2, upd (F 29) (Int32.toNatClampNeg v1) z_40, upd (F 30) (Int32.toNatClampNeg v1) v3, upd (F 31) (Int32.toNatClampNeg v1) v4, F 32, F 33, F 34, F 35, F 36, F 37, F 38, F 39, F 40, F 41, F 42, F 43, (fun _ => 0), (fun _ => 0), (fun _ => 0), (fun _ => 0), (fun _ => 0), F 49, F 50, F 51, F 52, F 53, F 54, F 55, F 56, F 57, F 58, F 59] : List (Nat → Int32)).getD k (fun _ => 0)) n v1 4 H.size ⟨b_1, b_2, b_3, b_4, b_5, b_6, b_7, b_8, b_39, b_10, b_11, b_12, i_13, i_14, i_15, i_16, i_17, i_18, i_19, j_20, j_21, j_22, j_23, j_24, j_25, j_26, j_27, j_28, j_29⟩ (by have t_0 := ti_4; omega) (by have t_0 := ti_4; show v1.toInt < ((n 11)).toInt; omega) (by show (F 13 (Int32.toNatClampNeg v1)).toInt = 1; exact hs1) (by have t_0 := ti_4; omega)) (cwV 2 hg (gw_V gm_methodLink_RX10_221_yX10_goes gm_instanceMethod_yX10_goes gm_selects_RX10_yX10_goes_yX10_goes gm_initialized_RX10 gm_code_yX10_goes_cX10_goes_4_none) rfl rfl rfl (by decide +kernel) ⟨Nat.le_of_ble_eq_true rfl, Nat.le_of_ble_eq_true rfl⟩) ⟨fun a U g mk q => by obtain ⟨q0, q1, qP, qK, qD, qN⟩ := q; exact ⟨q0, q1, qP, va_K.moved (u := U) (U := U.calling g mk a) (Vm.Alike.refl U.vm) qK, qD, nx_same (u := U) (U := U.calling g mk a) rfl qN⟩, va_recv hK hP (ci := 10) (q0 := 0) rfl rfl, fun U hU hW => ⟨rfl, by rw [hU], by rw [hU]; exact hP, va_K.moved hW.alike hK, hD.weaken (fun _ _ _ _ => trivial), nx_warm hW hN⟩⟩ rfl rfl hl.1 rfl (lv_room (Nat.le_of_ble_eq_true rfl)) dX10_fails_185 ⟨Nat.le_of_ble_eq_true rfl, Nat.le_of_ble_eq_true rfl⟩) hS (fun q _ h => hFc q h) hFc (fun u_42 t H1 locs ht hvm hw hB hz1 hk1 hS => ?_)
          obtain ⟨F_43, n_44⟩ := u_42
          obtain ⟨hP, hD, hI_45⟩ := hB
          have hI_45 : I10 kp F_43 n_44 := hI_45
          obtain ⟨b_46, b_47, b_48, b_49, b_50, b_51, b_52, b_53, b_54, b_55, b_56, b_57, i_58, i_59, i_60, i_61, i_62, i_63, i_64, j_65, j_66, j_67, j_68, j_69, j_70, j_71, j_72, j_73, j_74⟩ := id hI_45
          rw [ht] at hP
          have hD := hD.weaken (fun k q _ h => hFc _ h)
          generalize H1 = H at hP hS ⊢
          have hP : va_P (dC, dI) vwCl (w10 h0 X C (F_43 0) (F_43 1) (F_43 2) (F_43 3) (F_43 4) (F_43 5) (F_43 6) (F_43 7) (F_43 8) (F_43 10) (F_43 13) (F_43 14) (F_43 15) (F_43 16) (F_43 17) (F_43 18) (F_43 19) (F_43 20) (F_43 21) (F_43 22) (F_43 23) (F_43 24) (F_43 25) (F_43 26) (F_43 27) (F_43 28) (F_43 29) (F_43 30) (F_43 31) (F_43 32) (F_43 33) (F_43 34) (F_43 35) (F_43 36) (F_43 37) (F_43 38) (F_43 39) (F_43 40) (F_43 41) (F_43 42) (F_43 43) (F_43 49) (F_43 50) (F_43 51) (F_43 52) (F_43 53) (F_43 54) (F_43 55) (F_43 56) (F_43 57) (F_43 58) (F_43 59) (n_44 9) (n_44 11) (n_44 12) (n_44 44) (n_44 45) (n_44 46) (n_44 47) (n_44 48)) H := hP
          have hD : va_D A (w10 h0 X C (F_43 0) (F_43 1) (F_43 2) (F_43 3) (F_43 4) (F_43 5) (F_43 6) (F_43 7) (F_43 8) (F_43 10) (F_43 13) (F_43 14) (F_43 15) (F_43 16) (F_43 17) (F_43 18) (F_43 19) (F_43 20) (F_43 21) (F_43 22) (F_43 23) (F_43 24) (F_43 25) (F_43 26) (F_43 27) (F_43 28) (F_43 29) (F_43 30) (F_43 31) (F_43 32) (F_43 33) (F_43 34) (F_43 35) (F_43 36) (F_43 37) (F_43 38) (F_43 39) (F_43 40) (F_43 41) (F_43 42) (F_43 43) (F_43 49) (F_43 50) (F_43 51) (F_43 52) (F_43 53) (F_43 54) (F_43 55) (F_43 56) (F_43 57) (F_43 58) (F_43 59) (n_44 9) (n_44 11) (n_44 12) (n_44 44) (n_44 45) (n_44 46) (n_44 47) (n_44 48)) := hD
          have w_75 : ((n 11)).toInt ≤ (n_44 11).toInt := hw
          try simp only [upd_eq] at w_75
          exact W.vret hx hb hr (fun t ht hW => ⟨⟨(F_43, n_44), rfl, (by show (n 11).toInt ≤ ((n_44 11)).toInt; omega), by rw [ht]; exact hP, hD, ⟨b_46, b_47, b_48, b_49, b_50, b_51, b_52, b_53, b_54, b_55, b_56, b_57, i_58, i_59, i_60, i_61, i_62, i_63, i_64, j_65, j_66, j_67, j_68, j_69, j_70, j_71, j_72, j_73, j_74⟩⟩, hS.F ht⟩) hS.2.2 dX10_fails_188
        · simp only [i_lt, i_le, i_eq, ti_0] at c_38
          exfalso
          omega
      · simp only [i_lt, i_le, i_eq, ti_0] at c_37
        refine lv_aload_n hx hb dX10_fails_15 rfl (lv_at hl 1 rfl) ?_
        refine va_get (D := (dC, dI)) (ci := 10) (v := .ref (X 40)) (C := RX10) (T := TX10) (N := 60) hx hb hg gb_10 hown hK hP 0 rfl rfl 40 (by decide) (hg _ gm_fieldLink_RX10_126_ErrandGuildModel_tryKind_AI_) (fun _ h9 => h9) rfl dX10_fails_16 ?_
        refine lv_bipush (v := 24) hx hb dX10_fails_19 (by decide) ?_
        refine lv_iload_n hx hb dX10_fails_21 rfl (lv_at hl 2 rfl) ?_
        refine lv_imul hx hb dX10_fails_22 ?_
        refine lv_topi (fun z_76 ez_76 => ?_)
        have tz_76 : z_76.toInt = 24 * v1.toInt := ar_mul ti_24 rfl ez_76 (by omega)
        refine lv_iload hx hb dX10_fails_23 (lv_at hl 0 rfl) ?_
        refine lv_iadd hx hb dX10_fails_25 ?_
        refine lv_topi (fun z_77 ez_77 => ?_)
        have tz_77 : z_77.toInt = z_76.toInt + x_32.toInt := ar_add rfl rfl ez_77 (by omega)
        refine va_iald (f := F 40) hx hb hK hP 38 37 rfl rfl (vp_in_iff.mpr ⟨by omega, by omega⟩) dX10_fails_26 ?_
        refine lv_topi (fun z_78 ez_78 => ?_)
        have qz_78 := congrArg Int32.toInt ez_78
        refine lv_iload_n hx hb dX10_fails_27 rfl (lv_at hl 3 rfl) ?_
        refine lv_icmp_eq (tgt := 57) hx hb dX10_fails_28 (by decide) (fun c_79 => ?_) (fun c_79 => ?_)
        · simp only [i_lt, i_le, i_eq] at c_79
          refine lv_iload hx hb dX10_fails_57 (lv_at hl 0 rfl) ?_
          refine lv_if_lt (tgt := 148) hx hb dX10_fails_59 (by decide) (fun c_80 => ?_) (fun c_80 => ?_)
          · simp only [i_lt, i_le, i_eq, ti_0] at c_80
            exfalso
            omega
          · simp only [i_lt, i_le, i_eq, ti_0] at c_80
            refine lv_aload_n hx hb dX10_fails_62 rfl (lv_at hl 1 rfl) ?_
            refine va_get (D := (dC, dI)) (ci := 10) (v := .ref (X 39)) (C := RX10) (T := TX10) (N := 60) hx hb hg gb_10 hown hK hP 0 rfl rfl 39 (by decide) (hg _ gm_fieldLink_RX10_123_ErrandGuildModel_tryMany_AI_) (fun _ h9 => h9) rfl dX10_fails_63 ?_
            refine lv_iload_n hx hb dX10_fails_66 rfl (lv_at hl 2 rfl) ?_
            refine lv_iload hx hb dX10_fails_67 (lv_at hl 0 rfl) ?_
            refine va_iast (f := F 39) hx hb hK hP hD hS 37 36 rfl rfl (vp_in_iff.mpr ⟨by omega, by omega⟩) dX10_fails_69 (fun H locs hP hD hS => ?_)
            have hP : va_P (dC, dI) vwCl (w10 h0 X C (F 0) (F 1) (F 2) (F 3) (F 4) (F 5) (F 6) (F 7) (F 8) (F 10) (F 13) (F 14) (F 15) (F 16) (F 17) (F 18) (F 19) (F 20) (F 21) (F 22) (F 23) (F 24) (F 25) (F 26) (F 27) (F 28) (F 29) (F 30) (F 31) (F 32) (F 33) (F 34) (F 35) (F 36) (F 37) (F 38) (upd (F 39) (Int32.toNatClampNeg v1) x_32) (F 40) (F 41) (F 42) (F 43) (F 49) (F 50) (F 51) (F 52) (F 53) (F 54) (F 55) (F 56) (F 57) (F 58) (F 59) (n 9) (n 11) (n 12) (n 44) (n 45) (n 46) (n 47) (n 48)) H := hP
            have hD : va_D A (w10 h0 X C (F 0) (F 1) (F 2) (F 3) (F 4) (F 5) (F 6) (F 7) (F 8) (F 10) (F 13) (F 14) (F 15) (F 16) (F 17) (F 18) (F 19) (F 20) (F 21) (F 22) (F 23) (F 24) (F 25) (F 26) (F 27) (F 28) (F 29) (F 30) (F 31) (F 32) (F 33) (F 34) (F 35) (F 36) (F 37) (F 38) (upd (F 39) (Int32.toNatClampNeg v1) x_32) (F 40) (F 41) (F 42) (F 43) (F 49) (F 50) (F 51) (F 52) (F 53) (F 54) (F 55) (F 56) (F 57) (F 58) (F 59) (n 9) (n 11) (n 12) (n 44) (n 45) (n 46) (n 47) (n 48)) := hD
            have b_81 := bd_upd b_11 (Int32.toNatClampNeg v1) (x := x_32) (by omega) (by omega)
            have j_82 : J2 (upd (F 39) (Int32.toNatClampNeg v1) x_32) (F 20) := J2_tm j_22 (Int32.toNatClampNeg v1) (by omega)
            have j_83 : J4 (upd (F 39) (Int32.toNatClampNeg v1) x_32) (F 41) := J4_tm j_24 (Int32.toNatClampNeg v1) (Or.inl (by omega))
            have j_84 : J5 (upd (F 39) (Int32.toNatClampNeg v1) x_32) (F 36) (F 41) (F 43) (F 42) := J5_tm j_25 (Int32.toNatClampNeg v1) (Or.inl (by omega))
            obtain ⟨T, hT⟩ : ∃ T : Nat, (T : Int) = x_32.toInt := ⟨x_32.toInt.toNat, by omega⟩
            have h4t := O4 (Int32.toNatClampNeg v1) T (by omega) (by omega)
            have h5t : ∀ k : Nat, (F 41 (24 * (Int32.toNatClampNeg v1) + T)).toInt ≤ (k : Int) → (k : Int) < (F 36 (Int32.toNatClampNeg v1)).toInt → k < 24 → (F 43 (24 * (Int32.toNatClampNeg v1) + T)).toInt ≤ (F 42 (24 * (Int32.toNatClampNeg v1) + k)).toInt := fun k a b c => O5 (Int32.toNatClampNeg v1) T k (by omega) (by omega) a b c
            have L70 : ∀ (fuel : Nat)  (f_85 : Nat → Int32) (h_86 : bd 0 24 f_85) (h_87 : J2 f_85 (F 20)) (h_88 : J5 (upd (F 39) (Int32.toNatClampNeg v1) x_32) f_85 (F 41) (F 43) (F 42)) (H : Heap) (locs : List Loc) (ls : Array Slot), ((f_85 (Int32.toNatClampNeg v1)).toInt).toNat < fuel → (∀ k : Nat, (F 41 (24 * (Int32.toNatClampNeg v1) + T)).toInt ≤ (k : Int) → (k : Int) < (f_85 (Int32.toNatClampNeg v1)).toInt → k < 24 → (F 43 (24 * (Int32.toNatClampNeg v1) + T)).toInt ≤ (F 42 (24 * (Int32.toNatClampNeg v1) + k)).toInt) → va_P (dC, dI) vwCl (w10 h0 X C (F 0) (F 1) (F 2) (F 3) (F 4) (F 5) (F 6) (F 7) (F 8) (F 10) (F 13) (F 14) (F 15) (F 16) (F 17) (F 18) (F 19) (F 20) (F 21) (F 22) (F 23) (F 24) (F 25) (F 26) (F 27) (F 28) (F 29) (F 30) (F 31) (F 32) (F 33) (F 34) (F 35) f_85 (F 37) (F 38) (upd (F 39) (Int32.toNatClampNeg v1) x_32) (F 40) (F 41) (F 42) (F 43) (F 49) (F 50) (F 51) (F 52) (F 53) (F 54) (F 55) (F 56) (F 57) (F 58) (F 59) (n 9) (n 11) (n 12) (n 44) (n 45) (n 46) (n 47) (n 48)) H → va_D A (w10 h0 X C (F 0) (F 1) (F 2) (F 3) (F 4) (F 5) (F 6) (F 7) (F 8) (F 10) (F 13) (F 14) (F 15) (F 16) (F 17) (F 18) (F 19) (F 20) (F 21) (F 22) (F 23) (F 24) (F 25) (F 26) (F 27) (F 28) (F 29) (F 30) (F 31) (F 32) (F 33) (F 34) (F 35) f_85 (F 37) (F 38) (upd (F 39) (Int32.toNatClampNeg v1) x_32) (F 40) (F 41) (F 42) (F 43) (F 49) (F 50) (F 51) (F 52) (F 53) (F 54) (F 55) (F 56) (F 57) (F 58) (F 59) (n 9) (n 11) (n 12) (n 44) (n 45) (n 46) (n 47) (n 48)) → va_S A s.heap H locs → lv_has ls 6 [(5, .int x_32), (0, .ref h0), (1, .int v1), (2, .int v2), (3, .int v3), (4, .int v4)] → W p l e (headSpec (.code yX10_fails cX10_fails 6 none :: gw) ({ frames := 2, cells := 0, slots := 0, locals := 47 })).room s m ([.ref h0, .int v1, .int v2, .int v3, .int v4] : List Value).toArray below meth c H locs 0 0 (MQ below (va_Qv (fun (u : (Nat → Nat → Int32) × (Nat → Int32)) => (n 11).toInt ≤ (u.2 11).toInt) (fun u t => va_P (dC, dI) vwCl (w10 h0 X C (u.1 0) (u.1 1) (u.1 2) (u.1 3) (u.1 4) (u.1 5) (u.1 6) (u.1 7) (u.1 8) (u.1 10) (u.1 13) (u.1 14) (u.1 15) (u.1 16) (u.1 17) (u.1 18) (u.1 19) (u.1 20) (u.1 21) (u.1 22) (u.1 23) (u.1 24) (u.1 25) (u.1 26) (u.1 27) (u.1 28) (u.1 29) (u.1 30) (u.1 31) (u.1 32) (u.1 33) (u.1 34) (u.1 35) (u.1 36) (u.1 37) (u.1 38) (u.1 39) (u.1 40) (u.1 41) (u.1 42) (u.1 43) (u.1 49) (u.1 50) (u.1 51) (u.1 52) (u.1 53) (u.1 54) (u.1 55) (u.1 56) (u.1 57) (u.1 58) (u.1 59) (u.2 9) (u.2 11) (u.2 12) (u.2 44) (u.2 45) (u.2 46) (u.2 47) (u.2 48)) t.heap ∧ va_D A (w10 h0 X C (u.1 0) (u.1 1) (u.1 2) (u.1 3) (u.1 4) (u.1 5) (u.1 6) (u.1 7) (u.1 8) (u.1 10) (u.1 13) (u.1 14) (u.1 15) (u.1 16) (u.1 17) (u.1 18) (u.1 19) (u.1 20) (u.1 21) (u.1 22) (u.1 23) (u.1 24) (u.1 25) (u.1 26) (u.1 27) (u.1 28) (u.1 29) (u.1 30) (u.1 31) (u.1 32) (u.1 33) (u.1 34) (u.1 35) (u.1 36) (u.1 37) (u.1 38) (u.1 39) (u.1 40) (u.1 41) (u.1 42) (u.1 43) (u.1 49) (u.1 50) (u.1 51) (u.1 52) (u.1 53) (u.1 54) (u.1 55) (u.1 56) (u.1 57) (u.1 58) (u.1 59) (u.2 9) (u.2 11) (u.2 12) (u.2 44) (u.2 45) (u.2 46) (u.2 47) (u.2 48)) ∧ I10 kp u.1 u.2) A) ([.ref h0, .int v1, .int v2, .int v3, .int v4] : List Value).toArray s 0 0 A) (F0 m 70 ls []) := by
              intro fuel
              induction fuel with
              | zero => intro  f_85 h_86 h_87 h_88 H locs ls hm; exact absurd hm (Nat.not_lt_zero _)
              | succ fuel_90 ih_89 =>
                intro  f_85 h_86 h_87 h_88 H locs ls hm_92 v_91 hP hD hS hl
                have p36b := h_86 (Int32.toNatClampNeg v1)
                refine lv_aload_n hx hb dX10_fails_70 rfl (lv_at hl 1 rfl) ?_
                refine va_get (D := (dC, dI)) (ci := 10) (v := .ref (X 36)) (C := RX10) (T := TX10) (N := 60) hx hb hg gb_10 hown hK hP 0 rfl rfl 36 (by decide) (hg _ gm_fieldLink_RX10_114_ErrandGuildModel_bindMany_AI_) (fun _ h9 => h9) rfl dX10_fails_71 ?_
                refine lv_iload_n hx hb dX10_fails_74 rfl (lv_at hl 2 rfl) ?_
                refine va_iald (f := f_85) hx hb hK hP 34 33 rfl rfl (vp_in_iff.mpr ⟨by omega, by omega⟩) dX10_fails_75 ?_
                refine lv_topi (fun z_93 ez_93 => ?_)
                have qz_93 := congrArg Int32.toInt ez_93
                have bz_93 := bd_at h_86 ez_93
                refine lv_if_le (tgt := 129) hx hb dX10_fails_76 (by decide) (fun c_94 => ?_) (fun c_94 => ?_)
                · simp only [i_lt, i_le, i_eq, ti_0] at c_94
                  refine lv_aload_n hx hb dX10_fails_129 rfl (lv_at hl 1 rfl) ?_
                  refine va_get (D := (dC, dI)) (ci := 10) (v := .ref (X 20)) (C := RX10) (T := TX10) (N := 60) hx hb hg gb_10 hown hK hP 0 rfl rfl 20 (by decide) (hg _ gm_fieldLink_RX10_66_ErrandGuildModel_place_AI_) (fun _ h9 => h9) rfl dX10_fails_130 ?_
                  refine lv_iload_n hx hb dX10_fails_133 rfl (lv_at hl 2 rfl) ?_
                  refine lv_aload_n hx hb dX10_fails_134 rfl (lv_at hl 1 rfl) ?_
                  refine va_get (D := (dC, dI)) (ci := 10) (v := .ref (X 41)) (C := RX10) (T := TX10) (N := 60) hx hb hg gb_10 hown hK hP 0 rfl rfl 41 (by decide) (hg _ gm_fieldLink_RX10_129_ErrandGuildModel_tryPlace_AI_) (fun _ h9 => h9) rfl dX10_fails_135 ?_
                  refine lv_bipush (v := 24) hx hb dX10_fails_138 (by decide) ?_
                  refine lv_iload_n hx hb dX10_fails_140 rfl (lv_at hl 2 rfl) ?_
                  refine lv_imul hx hb dX10_fails_141 ?_
                  refine lv_topi (fun z_95 ez_95 => ?_)
                  have tz_95 : z_95.toInt = 24 * v1.toInt := ar_mul ti_24 rfl ez_95 (by omega)
                  refine lv_iload hx hb dX10_fails_142 (lv_at hl 0 rfl) ?_
                  refine lv_iadd hx hb dX10_fails_144 ?_
                  refine lv_topi (fun z_96 ez_96 => ?_)
                  have tz_96 : z_96.toInt = z_95.toInt + x_32.toInt := ar_add rfl rfl ez_96 (by omega)
                  refine va_iald (f := F 41) hx hb hK hP 39 38 rfl rfl (vp_in_iff.mpr ⟨by omega, by omega⟩) dX10_fails_145 ?_
                  refine lv_topi (fun z_97 ez_97 => ?_)
                  have qz_97 := congrArg Int32.toInt ez_97
                  have bz_97 := bd_at b_12 ez_97
                  refine va_iast (f := F 20) hx hb hK hP hD hS 18 17 rfl rfl (vp_in_iff.mpr ⟨by omega, by omega⟩) dX10_fails_146 (fun H locs hP hD hS => ?_)
                  have hP : va_P (dC, dI) vwCl (w10 h0 X C (F 0) (F 1) (F 2) (F 3) (F 4) (F 5) (F 6) (F 7) (F 8) (F 10) (F 13) (F 14) (F 15) (F 16) (F 17) (F 18) (F 19) (upd (F 20) (Int32.toNatClampNeg v1) z_97) (F 21) (F 22) (F 23) (F 24) (F 25) (F 26) (F 27) (F 28) (F 29) (F 30) (F 31) (F 32) (F 33) (F 34) (F 35) f_85 (F 37) (F 38) (upd (F 39) (Int32.toNatClampNeg v1) x_32) (F 40) (F 41) (F 42) (F 43) (F 49) (F 50) (F 51) (F 52) (F 53) (F 54) (F 55) (F 56) (F 57) (F 58) (F 59) (n 9) (n 11) (n 12) (n 44) (n 45) (n 46) (n 47) (n 48)) H := hP
                  have hD : va_D A (w10 h0 X C (F 0) (F 1) (F 2) (F 3) (F 4) (F 5) (F 6) (F 7) (F 8) (F 10) (F 13) (F 14) (F 15) (F 16) (F 17) (F 18) (F 19) (upd (F 20) (Int32.toNatClampNeg v1) z_97) (F 21) (F 22) (F 23) (F 24) (F 25) (F 26) (F 27) (F 28) (F 29) (F 30) (F 31) (F 32) (F 33) (F 34) (F 35) f_85 (F 37) (F 38) (upd (F 39) (Int32.toNatClampNeg v1) x_32) (F 40) (F 41) (F 42) (F 43) (F 49) (F 50) (F 51) (F 52) (F 53) (F 54) (F 55) (F 56) (F 57) (F 58) (F 59) (n 9) (n 11) (n 12) (n 44) (n 45) (n 46) (n 47) (n 48)) := hD
                  have b_98 := bd_upd b_8 (Int32.toNatClampNeg v1) (x := z_97) (by omega) (by omega)
                  have cz := cl_eq z_96
                  have e1 : Int32.toNatClampNeg z_96 = 24 * (Int32.toNatClampNeg v1) + T := by omega
                  rw [e1] at qz_97
                  have hbz : (f_85 (Int32.toNatClampNeg v1)).toInt ≤ z_97.toInt := by omega
                  have j_99 : J2 (upd (F 39) (Int32.toNatClampNeg v1) x_32) (upd (F 20) (Int32.toNatClampNeg v1) z_97) := J2_pl j_82 (Int32.toNatClampNeg v1) (by rw [upd_eq]; omega)
                  have j_100 : J2 f_85 (upd (F 20) (Int32.toNatClampNeg v1) z_97) := J2_pl h_87 (Int32.toNatClampNeg v1) hbz
                  have j_101 : J7 (F 24) (upd (F 20) (Int32.toNatClampNeg v1) z_97) := J7_pl j_27 (Int32.toNatClampNeg v1) (Or.inl hib)
                  exact W.vret hx hb hr (fun t ht hW => ⟨⟨((fun k => ([F 0, F 1, F 2, F 3, F 4, F 5, F 6, F 7, F 8, (fun _ => 0), F 10, (fun _ => 0), (fun _ => 0), F 13, F 14, F 15, F 16, F 17, F 18, F 19, upd (F 20) (Int32.toNatClampNeg v1) z_97, F 21, F 22, F 23, F 24, F 25, F 26, F 27, F 28, F 29, F 30, F 31, F 32, F 33, F 34, F 35, f_85, F 37, F 38, upd (F 39) (Int32.toNatClampNeg v1) x_32, F 40, F 41, F 42, F 43, (fun _ => 0), (fun _ => 0), (fun _ => 0), (fun _ => 0), (fun _ => 0), F 49, F 50, F 51, F 52, F 53, F 54, F 55, F 56, F 57, F 58, F 59] : List (Nat → Int32)).getD k (fun _ => 0)), n), rfl, (Int.le_refl _), by rw [ht]; exact hP, hD, ⟨b_1, b_2, b_3, b_4, b_5, b_6, b_7, b_98, b_9, h_86, b_81, b_12, i_13, i_14, i_15, i_16, i_17, i_18, i_19, j_20, j_21, j_99, j_100, j_83, h_88, j_26, j_101, j_28, j_29⟩⟩, hS.F ht⟩) hS.2.2 dX10_fails_147
                · simp only [i_lt, i_le, i_eq, ti_0] at c_94
                  refine lv_aload_n hx hb dX10_fails_79 rfl (lv_at hl 1 rfl) ?_
                  refine va_get (D := (dC, dI)) (ci := 10) (v := .ref (X 42)) (C := RX10) (T := TX10) (N := 60) hx hb hg gb_10 hown hK hP 0 rfl rfl 42 (by decide) (hg _ gm_fieldLink_RX10_132_ErrandGuildModel_bindNumber_AI_) (fun _ h9 => h9) rfl dX10_fails_80 ?_
                  refine lv_bipush (v := 24) hx hb dX10_fails_83 (by decide) ?_
                  refine lv_iload_n hx hb dX10_fails_85 rfl (lv_at hl 2 rfl) ?_
                  refine lv_imul hx hb dX10_fails_86 ?_
                  refine lv_topi (fun z_102 ez_102 => ?_)
                  have tz_102 : z_102.toInt = 24 * v1.toInt := ar_mul ti_24 rfl ez_102 (by omega)
                  refine lv_aload_n hx hb dX10_fails_87 rfl (lv_at hl 1 rfl) ?_
                  refine va_get (D := (dC, dI)) (ci := 10) (v := .ref (X 36)) (C := RX10) (T := TX10) (N := 60) hx hb hg gb_10 hown hK hP 0 rfl rfl 36 (by decide) (hg _ gm_fieldLink_RX10_114_ErrandGuildModel_bindMany_AI_) (fun _ h9 => h9) rfl dX10_fails_88 ?_
                  refine lv_iload_n hx hb dX10_fails_91 rfl (lv_at hl 2 rfl) ?_
                  refine va_iald (f := f_85) hx hb hK hP 34 33 rfl rfl (vp_in_iff.mpr ⟨by omega, by omega⟩) dX10_fails_92 ?_
                  refine lv_topi (fun z_103 ez_103 => ?_)
                  obtain rfl : z_93 = z_103 := ez_93.trans ez_103.symm
                  refine lv_iadd hx hb dX10_fails_93 ?_
                  refine lv_topi (fun z_104 ez_104 => ?_)
                  have tz_104 : z_104.toInt = z_102.toInt + z_93.toInt := ar_add rfl rfl ez_104 (by omega)
                  refine lv_iconst (v := 1) hx hb dX10_fails_94 (by decide) ?_
                  refine lv_isub hx hb dX10_fails_95 ?_
                  refine lv_topi (fun z_105 ez_105 => ?_)
                  have tz_105 : z_105.toInt = z_104.toInt - 1 := ar_sub rfl ti_1 ez_105 (by omega)
                  refine va_iald (f := F 42) hx hb hK hP 40 39 rfl rfl (vp_in_iff.mpr ⟨by omega, by omega⟩) dX10_fails_96 ?_
                  refine lv_topi (fun z_106 ez_106 => ?_)
                  have qz_106 := congrArg Int32.toInt ez_106
                  refine lv_aload_n hx hb dX10_fails_97 rfl (lv_at hl 1 rfl) ?_
                  refine va_get (D := (dC, dI)) (ci := 10) (v := .ref (X 43)) (C := RX10) (T := TX10) (N := 60) hx hb hg gb_10 hown hK hP 0 rfl rfl 43 (by decide) (hg _ gm_fieldLink_RX10_135_ErrandGuildModel_tryNumber_AI_) (fun _ h9 => h9) rfl dX10_fails_98 ?_
                  refine lv_bipush (v := 24) hx hb dX10_fails_101 (by decide) ?_
                  refine lv_iload_n hx hb dX10_fails_103 rfl (lv_at hl 2 rfl) ?_
                  refine lv_imul hx hb dX10_fails_104 ?_
                  refine lv_topi (fun z_107 ez_107 => ?_)
                  have tz_107 : z_107.toInt = 24 * v1.toInt := ar_mul ti_24 rfl ez_107 (by omega)
                  refine lv_iload hx hb dX10_fails_105 (lv_at hl 0 rfl) ?_
                  refine lv_iadd hx hb dX10_fails_107 ?_
                  refine lv_topi (fun z_108 ez_108 => ?_)
                  have tz_108 : z_108.toInt = z_107.toInt + x_32.toInt := ar_add rfl rfl ez_108 (by omega)
                  refine va_iald (f := F 43) hx hb hK hP 41 40 rfl rfl (vp_in_iff.mpr ⟨by omega, by omega⟩) dX10_fails_108 ?_
                  refine lv_topi (fun z_109 ez_109 => ?_)
                  have qz_109 := congrArg Int32.toInt ez_109
                  refine lv_icmp_lt (tgt := 129) hx hb dX10_fails_109 (by decide) (fun c_110 => ?_) (fun c_110 => ?_)
                  · simp only [i_lt, i_le, i_eq] at c_110
                    refine lv_aload_n hx hb dX10_fails_129 rfl (lv_at hl 1 rfl) ?_
                    refine va_get (D := (dC, dI)) (ci := 10) (v := .ref (X 20)) (C := RX10) (T := TX10) (N := 60) hx hb hg gb_10 hown hK hP 0 rfl rfl 20 (by decide) (hg _ gm_fieldLink_RX10_66_ErrandGuildModel_place_AI_) (fun _ h9 => h9) rfl dX10_fails_130 ?_
                    refine lv_iload_n hx hb dX10_fails_133 rfl (lv_at hl 2 rfl) ?_
                    refine lv_aload_n hx hb dX10_fails_134 rfl (lv_at hl 1 rfl) ?_
                    refine va_get (D := (dC, dI)) (ci := 10) (v := .ref (X 41)) (C := RX10) (T := TX10) (N := 60) hx hb hg gb_10 hown hK hP 0 rfl rfl 41 (by decide) (hg _ gm_fieldLink_RX10_129_ErrandGuildModel_tryPlace_AI_) (fun _ h9 => h9) rfl dX10_fails_135 ?_
                    refine lv_bipush (v := 24) hx hb dX10_fails_138 (by decide) ?_
                    refine lv_iload_n hx hb dX10_fails_140 rfl (lv_at hl 2 rfl) ?_
                    refine lv_imul hx hb dX10_fails_141 ?_
                    refine lv_topi (fun z_111 ez_111 => ?_)
                    have tz_111 : z_111.toInt = 24 * v1.toInt := ar_mul ti_24 rfl ez_111 (by omega)
                    refine lv_iload hx hb dX10_fails_142 (lv_at hl 0 rfl) ?_
                    refine lv_iadd hx hb dX10_fails_144 ?_
                    refine lv_topi (fun z_112 ez_112 => ?_)
                    have tz_112 : z_112.toInt = z_111.toInt + x_32.toInt := ar_add rfl rfl ez_112 (by omega)
                    refine va_iald (f := F 41) hx hb hK hP 39 38 rfl rfl (vp_in_iff.mpr ⟨by omega, by omega⟩) dX10_fails_145 ?_
                    refine lv_topi (fun z_113 ez_113 => ?_)
                    have qz_113 := congrArg Int32.toInt ez_113
                    have bz_113 := bd_at b_12 ez_113
                    refine va_iast (f := F 20) hx hb hK hP hD hS 18 17 rfl rfl (vp_in_iff.mpr ⟨by omega, by omega⟩) dX10_fails_146 (fun H locs hP hD hS => ?_)
                    have hP : va_P (dC, dI) vwCl (w10 h0 X C (F 0) (F 1) (F 2) (F 3) (F 4) (F 5) (F 6) (F 7) (F 8) (F 10) (F 13) (F 14) (F 15) (F 16) (F 17) (F 18) (F 19) (upd (F 20) (Int32.toNatClampNeg v1) z_113) (F 21) (F 22) (F 23) (F 24) (F 25) (F 26) (F 27) (F 28) (F 29) (F 30) (F 31) (F 32) (F 33) (F 34) (F 35) f_85 (F 37) (F 38) (upd (F 39) (Int32.toNatClampNeg v1) x_32) (F 40) (F 41) (F 42) (F 43) (F 49) (F 50) (F 51) (F 52) (F 53) (F 54) (F 55) (F 56) (F 57) (F 58) (F 59) (n 9) (n 11) (n 12) (n 44) (n 45) (n 46) (n 47) (n 48)) H := hP
                    have hD : va_D A (w10 h0 X C (F 0) (F 1) (F 2) (F 3) (F 4) (F 5) (F 6) (F 7) (F 8) (F 10) (F 13) (F 14) (F 15) (F 16) (F 17) (F 18) (F 19) (upd (F 20) (Int32.toNatClampNeg v1) z_113) (F 21) (F 22) (F 23) (F 24) (F 25) (F 26) (F 27) (F 28) (F 29) (F 30) (F 31) (F 32) (F 33) (F 34) (F 35) f_85 (F 37) (F 38) (upd (F 39) (Int32.toNatClampNeg v1) x_32) (F 40) (F 41) (F 42) (F 43) (F 49) (F 50) (F 51) (F 52) (F 53) (F 54) (F 55) (F 56) (F 57) (F 58) (F 59) (n 9) (n 11) (n 12) (n 44) (n 45) (n 46) (n 47) (n 48)) := hD
                    have b_114 := bd_upd b_8 (Int32.toNatClampNeg v1) (x := z_113) (by omega) (by omega)
                    have cz := cl_eq z_112
                    have e1 : Int32.toNatClampNeg z_112 = 24 * (Int32.toNatClampNeg v1) + T := by omega
                    rw [e1] at qz_113
                    have cz2 := cl_eq z_105
                    have cz3 := cl_eq z_108
                    have e2 : Int32.toNatClampNeg z_105 = 24 * (Int32.toNatClampNeg v1) + ((f_85 (Int32.toNatClampNeg v1)).toInt - 1).toNat := by omega
                    rw [e2] at qz_106
                    have e3 : Int32.toNatClampNeg z_108 = 24 * (Int32.toNatClampNeg v1) + T := by omega
                    rw [e3] at qz_109
                    have hbz : (f_85 (Int32.toNatClampNeg v1)).toInt ≤ z_113.toInt := Classical.byContradiction (fun hc => by have h9 := v_91 ((f_85 (Int32.toNatClampNeg v1)).toInt - 1).toNat (by omega) (by omega) (by omega); omega)
                    have j_115 : J2 (upd (F 39) (Int32.toNatClampNeg v1) x_32) (upd (F 20) (Int32.toNatClampNeg v1) z_113) := J2_pl j_82 (Int32.toNatClampNeg v1) (by rw [upd_eq]; omega)
                    have j_116 : J2 f_85 (upd (F 20) (Int32.toNatClampNeg v1) z_113) := J2_pl h_87 (Int32.toNatClampNeg v1) hbz
                    have j_117 : J7 (F 24) (upd (F 20) (Int32.toNatClampNeg v1) z_113) := J7_pl j_27 (Int32.toNatClampNeg v1) (Or.inl hib)
                    exact W.vret hx hb hr (fun t ht hW => ⟨⟨((fun k => ([F 0, F 1, F 2, F 3, F 4, F 5, F 6, F 7, F 8, (fun _ => 0), F 10, (fun _ => 0), (fun _ => 0), F 13, F 14, F 15, F 16, F 17, F 18, F 19, upd (F 20) (Int32.toNatClampNeg v1) z_113, F 21, F 22, F 23, F 24, F 25, F 26, F 27, F 28, F 29, F 30, F 31, F 32, F 33, F 34, F 35, f_85, F 37, F 38, upd (F 39) (Int32.toNatClampNeg v1) x_32, F 40, F 41, F 42, F 43, (fun _ => 0), (fun _ => 0), (fun _ => 0), (fun _ => 0), (fun _ => 0), F 49, F 50, F 51, F 52, F 53, F 54, F 55, F 56, F 57, F 58, F 59] : List (Nat → Int32)).getD k (fun _ => 0)), n), rfl, (Int.le_refl _), by rw [ht]; exact hP, hD, ⟨b_1, b_2, b_3, b_4, b_5, b_6, b_7, b_114, b_9, h_86, b_81, b_12, i_13, i_14, i_15, i_16, i_17, i_18, i_19, j_20, j_21, j_115, j_116, j_83, h_88, j_26, j_117, j_28, j_29⟩⟩, hS.F ht⟩) hS.2.2 dX10_fails_147
                  · simp only [i_lt, i_le, i_eq] at c_110
                    refine lv_aload_n hx hb dX10_fails_112 rfl (lv_at hl 1 rfl) ?_
                    refine va_get (D := (dC, dI)) (ci := 10) (v := .ref (X 36)) (C := RX10) (T := TX10) (N := 60) hx hb hg gb_10 hown hK hP 0 rfl rfl 36 (by decide) (hg _ gm_fieldLink_RX10_114_ErrandGuildModel_bindMany_AI_) (fun _ h9 => h9) rfl dX10_fails_113 ?_
                    refine lv_iload_n hx hb dX10_fails_116 rfl (lv_at hl 2 rfl) ?_
                    refine lv_aload_n hx hb dX10_fails_117 rfl (lv_at hl 1 rfl) ?_
                    refine va_get (D := (dC, dI)) (ci := 10) (v := .ref (X 36)) (C := RX10) (T := TX10) (N := 60) hx hb hg gb_10 hown hK hP 0 rfl rfl 36 (by decide) (hg _ gm_fieldLink_RX10_114_ErrandGuildModel_bindMany_AI_) (fun _ h9 => h9) rfl dX10_fails_118 ?_
                    refine lv_iload_n hx hb dX10_fails_121 rfl (lv_at hl 2 rfl) ?_
                    refine va_iald (f := f_85) hx hb hK hP 34 33 rfl rfl (vp_in_iff.mpr ⟨by omega, by omega⟩) dX10_fails_122 ?_
                    refine lv_topi (fun z_118 ez_118 => ?_)
                    obtain rfl : z_93 = z_118 := ez_93.trans ez_118.symm
                    refine lv_iconst (v := 1) hx hb dX10_fails_123 (by decide) ?_
                    refine lv_isub hx hb dX10_fails_124 ?_
                    refine lv_topi (fun z_119 ez_119 => ?_)
                    have tz_119 : z_119.toInt = z_93.toInt - 1 := ar_sub rfl ti_1 ez_119 (by omega)
                    refine va_iast (f := f_85) hx hb hK hP hD hS 34 33 rfl rfl (vp_in_iff.mpr ⟨by omega, by omega⟩) dX10_fails_125 (fun H locs hP hD hS => ?_)
                    have hP : va_P (dC, dI) vwCl (w10 h0 X C (F 0) (F 1) (F 2) (F 3) (F 4) (F 5) (F 6) (F 7) (F 8) (F 10) (F 13) (F 14) (F 15) (F 16) (F 17) (F 18) (F 19) (F 20) (F 21) (F 22) (F 23) (F 24) (F 25) (F 26) (F 27) (F 28) (F 29) (F 30) (F 31) (F 32) (F 33) (F 34) (F 35) (upd f_85 (Int32.toNatClampNeg v1) z_119) (F 37) (F 38) (upd (F 39) (Int32.toNatClampNeg v1) x_32) (F 40) (F 41) (F 42) (F 43) (F 49) (F 50) (F 51) (F 52) (F 53) (F 54) (F 55) (F 56) (F 57) (F 58) (F 59) (n 9) (n 11) (n 12) (n 44) (n 45) (n 46) (n 47) (n 48)) H := hP
                    have hD : va_D A (w10 h0 X C (F 0) (F 1) (F 2) (F 3) (F 4) (F 5) (F 6) (F 7) (F 8) (F 10) (F 13) (F 14) (F 15) (F 16) (F 17) (F 18) (F 19) (F 20) (F 21) (F 22) (F 23) (F 24) (F 25) (F 26) (F 27) (F 28) (F 29) (F 30) (F 31) (F 32) (F 33) (F 34) (F 35) (upd f_85 (Int32.toNatClampNeg v1) z_119) (F 37) (F 38) (upd (F 39) (Int32.toNatClampNeg v1) x_32) (F 40) (F 41) (F 42) (F 43) (F 49) (F 50) (F 51) (F 52) (F 53) (F 54) (F 55) (F 56) (F 57) (F 58) (F 59) (n 9) (n 11) (n 12) (n 44) (n 45) (n 46) (n 47) (n 48)) := hD
                    have b_120 := bd_upd h_86 (Int32.toNatClampNeg v1) (x := z_119) (by omega) (by omega)
                    have j_121 : J2 (upd f_85 (Int32.toNatClampNeg v1) z_119) (F 20) := J2_tm h_87 (Int32.toNatClampNeg v1) (by have h_ := h_87 (Int32.toNatClampNeg v1); omega)
                    have j_122 : J5 (upd (F 39) (Int32.toNatClampNeg v1) x_32) (upd f_85 (Int32.toNatClampNeg v1) z_119) (F 41) (F 43) (F 42) := J5_bm h_88 (Int32.toNatClampNeg v1) (Or.inl (by omega))
                    refine lv_goto (tgt := 70) hx hb dX10_fails_126 (by decide) ?_
                    exact ih_89  (upd f_85 (Int32.toNatClampNeg v1) z_119) b_120 j_121 j_122 H locs ls (by show (((upd f_85 (Int32.toNatClampNeg v1) z_119) (Int32.toNatClampNeg v1)).toInt).toNat < _; (try rw [upd_eq]); omega) (fun k a b c => v_91 k a (by rw [upd_eq] at b; omega) c) hP hD hS (lv_sub hl [0, 1, 2, 3, 4, 5] rfl)
            exact L70 _  (F 36) b_10 j_23 j_84 _ _ _ (Nat.lt_succ_self _) h5t hP hD hS (lv_sub hl [0, 1, 2, 3, 4, 5] rfl)
        · simp only [i_lt, i_le, i_eq] at c_79
          refine lv_aload_n hx hb dX10_fails_31 rfl (lv_at hl 1 rfl) ?_
          refine va_get (D := (dC, dI)) (ci := 10) (v := .ref (X 40)) (C := RX10) (T := TX10) (N := 60) hx hb hg gb_10 hown hK hP 0 rfl rfl 40 (by decide) (hg _ gm_fieldLink_RX10_126_ErrandGuildModel_tryKind_AI_) (fun _ h9 => h9) rfl dX10_fails_32 ?_
          refine lv_bipush (v := 24) hx hb dX10_fails_35 (by decide) ?_
          refine lv_iload_n hx hb dX10_fails_37 rfl (lv_at hl 2 rfl) ?_
          refine lv_imul hx hb dX10_fails_38 ?_
          refine lv_topi (fun z_123 ez_123 => ?_)
          have tz_123 : z_123.toInt = 24 * v1.toInt := ar_mul ti_24 rfl ez_123 (by omega)
          refine lv_iload hx hb dX10_fails_39 (lv_at hl 0 rfl) ?_
          refine lv_iadd hx hb dX10_fails_41 ?_
          refine lv_topi (fun z_124 ez_124 => ?_)
          have tz_124 : z_124.toInt = z_123.toInt + x_32.toInt := ar_add rfl rfl ez_124 (by omega)
          refine va_iald (f := F 40) hx hb hK hP 38 37 rfl rfl (vp_in_iff.mpr ⟨by omega, by omega⟩) dX10_fails_42 ?_
          refine lv_topi (fun z_125 ez_125 => ?_)
          have qz_125 := congrArg Int32.toInt ez_125
          refine lv_bipush (v := 8) hx hb dX10_fails_43 (by decide) ?_
          refine lv_icmp_eq (tgt := 57) hx hb dX10_fails_45 (by decide) (fun c_126 => ?_) (fun c_126 => ?_)
          · simp only [i_lt, i_le, i_eq, ti_8] at c_126
            refine lv_iload hx hb dX10_fails_57 (lv_at hl 0 rfl) ?_
            refine lv_if_lt (tgt := 148) hx hb dX10_fails_59 (by decide) (fun c_127 => ?_) (fun c_127 => ?_)
            · simp only [i_lt, i_le, i_eq, ti_0] at c_127
              exfalso
              omega
            · simp only [i_lt, i_le, i_eq, ti_0] at c_127
              refine lv_aload_n hx hb dX10_fails_62 rfl (lv_at hl 1 rfl) ?_
              refine va_get (D := (dC, dI)) (ci := 10) (v := .ref (X 39)) (C := RX10) (T := TX10) (N := 60) hx hb hg gb_10 hown hK hP 0 rfl rfl 39 (by decide) (hg _ gm_fieldLink_RX10_123_ErrandGuildModel_tryMany_AI_) (fun _ h9 => h9) rfl dX10_fails_63 ?_
              refine lv_iload_n hx hb dX10_fails_66 rfl (lv_at hl 2 rfl) ?_
              refine lv_iload hx hb dX10_fails_67 (lv_at hl 0 rfl) ?_
              refine va_iast (f := F 39) hx hb hK hP hD hS 37 36 rfl rfl (vp_in_iff.mpr ⟨by omega, by omega⟩) dX10_fails_69 (fun H locs hP hD hS => ?_)
              have hP : va_P (dC, dI) vwCl (w10 h0 X C (F 0) (F 1) (F 2) (F 3) (F 4) (F 5) (F 6) (F 7) (F 8) (F 10) (F 13) (F 14) (F 15) (F 16) (F 17) (F 18) (F 19) (F 20) (F 21) (F 22) (F 23) (F 24) (F 25) (F 26) (F 27) (F 28) (F 29) (F 30) (F 31) (F 32) (F 33) (F 34) (F 35) (F 36) (F 37) (F 38) (upd (F 39) (Int32.toNatClampNeg v1) x_32) (F 40) (F 41) (F 42) (F 43) (F 49) (F 50) (F 51) (F 52) (F 53) (F 54) (F 55) (F 56) (F 57) (F 58) (F 59) (n 9) (n 11) (n 12) (n 44) (n 45) (n 46) (n 47) (n 48)) H := hP
              have hD : va_D A (w10 h0 X C (F 0) (F 1) (F 2) (F 3) (F 4) (F 5) (F 6) (F 7) (F 8) (F 10) (F 13) (F 14) (F 15) (F 16) (F 17) (F 18) (F 19) (F 20) (F 21) (F 22) (F 23) (F 24) (F 25) (F 26) (F 27) (F 28) (F 29) (F 30) (F 31) (F 32) (F 33) (F 34) (F 35) (F 36) (F 37) (F 38) (upd (F 39) (Int32.toNatClampNeg v1) x_32) (F 40) (F 41) (F 42) (F 43) (F 49) (F 50) (F 51) (F 52) (F 53) (F 54) (F 55) (F 56) (F 57) (F 58) (F 59) (n 9) (n 11) (n 12) (n 44) (n 45) (n 46) (n 47) (n 48)) := hD
              have b_128 := bd_upd b_11 (Int32.toNatClampNeg v1) (x := x_32) (by omega) (by omega)
              have j_129 : J2 (upd (F 39) (Int32.toNatClampNeg v1) x_32) (F 20) := J2_tm j_22 (Int32.toNatClampNeg v1) (by omega)
              have j_130 : J4 (upd (F 39) (Int32.toNatClampNeg v1) x_32) (F 41) := J4_tm j_24 (Int32.toNatClampNeg v1) (Or.inl (by omega))
              have j_131 : J5 (upd (F 39) (Int32.toNatClampNeg v1) x_32) (F 36) (F 41) (F 43) (F 42) := J5_tm j_25 (Int32.toNatClampNeg v1) (Or.inl (by omega))
              obtain ⟨T, hT⟩ : ∃ T : Nat, (T : Int) = x_32.toInt := ⟨x_32.toInt.toNat, by omega⟩
              have h4t := O4 (Int32.toNatClampNeg v1) T (by omega) (by omega)
              have h5t : ∀ k : Nat, (F 41 (24 * (Int32.toNatClampNeg v1) + T)).toInt ≤ (k : Int) → (k : Int) < (F 36 (Int32.toNatClampNeg v1)).toInt → k < 24 → (F 43 (24 * (Int32.toNatClampNeg v1) + T)).toInt ≤ (F 42 (24 * (Int32.toNatClampNeg v1) + k)).toInt := fun k a b c => O5 (Int32.toNatClampNeg v1) T k (by omega) (by omega) a b c
              have L70 : ∀ (fuel : Nat)  (f_132 : Nat → Int32) (h_133 : bd 0 24 f_132) (h_134 : J2 f_132 (F 20)) (h_135 : J5 (upd (F 39) (Int32.toNatClampNeg v1) x_32) f_132 (F 41) (F 43) (F 42)) (H : Heap) (locs : List Loc) (ls : Array Slot), ((f_132 (Int32.toNatClampNeg v1)).toInt).toNat < fuel → (∀ k : Nat, (F 41 (24 * (Int32.toNatClampNeg v1) + T)).toInt ≤ (k : Int) → (k : Int) < (f_132 (Int32.toNatClampNeg v1)).toInt → k < 24 → (F 43 (24 * (Int32.toNatClampNeg v1) + T)).toInt ≤ (F 42 (24 * (Int32.toNatClampNeg v1) + k)).toInt) → va_P (dC, dI) vwCl (w10 h0 X C (F 0) (F 1) (F 2) (F 3) (F 4) (F 5) (F 6) (F 7) (F 8) (F 10) (F 13) (F 14) (F 15) (F 16) (F 17) (F 18) (F 19) (F 20) (F 21) (F 22) (F 23) (F 24) (F 25) (F 26) (F 27) (F 28) (F 29) (F 30) (F 31) (F 32) (F 33) (F 34) (F 35) f_132 (F 37) (F 38) (upd (F 39) (Int32.toNatClampNeg v1) x_32) (F 40) (F 41) (F 42) (F 43) (F 49) (F 50) (F 51) (F 52) (F 53) (F 54) (F 55) (F 56) (F 57) (F 58) (F 59) (n 9) (n 11) (n 12) (n 44) (n 45) (n 46) (n 47) (n 48)) H → va_D A (w10 h0 X C (F 0) (F 1) (F 2) (F 3) (F 4) (F 5) (F 6) (F 7) (F 8) (F 10) (F 13) (F 14) (F 15) (F 16) (F 17) (F 18) (F 19) (F 20) (F 21) (F 22) (F 23) (F 24) (F 25) (F 26) (F 27) (F 28) (F 29) (F 30) (F 31) (F 32) (F 33) (F 34) (F 35) f_132 (F 37) (F 38) (upd (F 39) (Int32.toNatClampNeg v1) x_32) (F 40) (F 41) (F 42) (F 43) (F 49) (F 50) (F 51) (F 52) (F 53) (F 54) (F 55) (F 56) (F 57) (F 58) (F 59) (n 9) (n 11) (n 12) (n 44) (n 45) (n 46) (n 47) (n 48)) → va_S A s.heap H locs → lv_has ls 6 [(5, .int x_32), (0, .ref h0), (1, .int v1), (2, .int v2), (3, .int v3), (4, .int v4)] → W p l e (headSpec (.code yX10_fails cX10_fails 6 none :: gw) ({ frames := 2, cells := 0, slots := 0, locals := 47 })).room s m ([.ref h0, .int v1, .int v2, .int v3, .int v4] : List Value).toArray below meth c H locs 0 0 (MQ below (va_Qv (fun (u : (Nat → Nat → Int32) × (Nat → Int32)) => (n 11).toInt ≤ (u.2 11).toInt) (fun u t => va_P (dC, dI) vwCl (w10 h0 X C (u.1 0) (u.1 1) (u.1 2) (u.1 3) (u.1 4) (u.1 5) (u.1 6) (u.1 7) (u.1 8) (u.1 10) (u.1 13) (u.1 14) (u.1 15) (u.1 16) (u.1 17) (u.1 18) (u.1 19) (u.1 20) (u.1 21) (u.1 22) (u.1 23) (u.1 24) (u.1 25) (u.1 26) (u.1 27) (u.1 28) (u.1 29) (u.1 30) (u.1 31) (u.1 32) (u.1 33) (u.1 34) (u.1 35) (u.1 36) (u.1 37) (u.1 38) (u.1 39) (u.1 40) (u.1 41) (u.1 42) (u.1 43) (u.1 49) (u.1 50) (u.1 51) (u.1 52) (u.1 53) (u.1 54) (u.1 55) (u.1 56) (u.1 57) (u.1 58) (u.1 59) (u.2 9) (u.2 11) (u.2 12) (u.2 44) (u.2 45) (u.2 46) (u.2 47) (u.2 48)) t.heap ∧ va_D A (w10 h0 X C (u.1 0) (u.1 1) (u.1 2) (u.1 3) (u.1 4) (u.1 5) (u.1 6) (u.1 7) (u.1 8) (u.1 10) (u.1 13) (u.1 14) (u.1 15) (u.1 16) (u.1 17) (u.1 18) (u.1 19) (u.1 20) (u.1 21) (u.1 22) (u.1 23) (u.1 24) (u.1 25) (u.1 26) (u.1 27) (u.1 28) (u.1 29) (u.1 30) (u.1 31) (u.1 32) (u.1 33) (u.1 34) (u.1 35) (u.1 36) (u.1 37) (u.1 38) (u.1 39) (u.1 40) (u.1 41) (u.1 42) (u.1 43) (u.1 49) (u.1 50) (u.1 51) (u.1 52) (u.1 53) (u.1 54) (u.1 55) (u.1 56) (u.1 57) (u.1 58) (u.1 59) (u.2 9) (u.2 11) (u.2 12) (u.2 44) (u.2 45) (u.2 46) (u.2 47) (u.2 48)) ∧ I10 kp u.1 u.2) A) ([.ref h0, .int v1, .int v2, .int v3, .int v4] : List Value).toArray s 0 0 A) (F0 m 70 ls []) := by
                intro fuel
                induction fuel with
                | zero => intro  f_132 h_133 h_134 h_135 H locs ls hm; exact absurd hm (Nat.not_lt_zero _)
                | succ fuel_137 ih_136 =>
                  intro  f_132 h_133 h_134 h_135 H locs ls hm_139 v_138 hP hD hS hl
                  have p36b := h_133 (Int32.toNatClampNeg v1)
                  refine lv_aload_n hx hb dX10_fails_70 rfl (lv_at hl 1 rfl) ?_
                  refine va_get (D := (dC, dI)) (ci := 10) (v := .ref (X 36)) (C := RX10) (T := TX10) (N := 60) hx hb hg gb_10 hown hK hP 0 rfl rfl 36 (by decide) (hg _ gm_fieldLink_RX10_114_ErrandGuildModel_bindMany_AI_) (fun _ h9 => h9) rfl dX10_fails_71 ?_
                  refine lv_iload_n hx hb dX10_fails_74 rfl (lv_at hl 2 rfl) ?_
                  refine va_iald (f := f_132) hx hb hK hP 34 33 rfl rfl (vp_in_iff.mpr ⟨by omega, by omega⟩) dX10_fails_75 ?_
                  refine lv_topi (fun z_140 ez_140 => ?_)
                  have qz_140 := congrArg Int32.toInt ez_140
                  have bz_140 := bd_at h_133 ez_140
                  refine lv_if_le (tgt := 129) hx hb dX10_fails_76 (by decide) (fun c_141 => ?_) (fun c_141 => ?_)
                  · simp only [i_lt, i_le, i_eq, ti_0] at c_141
                    refine lv_aload_n hx hb dX10_fails_129 rfl (lv_at hl 1 rfl) ?_
                    refine va_get (D := (dC, dI)) (ci := 10) (v := .ref (X 20)) (C := RX10) (T := TX10) (N := 60) hx hb hg gb_10 hown hK hP 0 rfl rfl 20 (by decide) (hg _ gm_fieldLink_RX10_66_ErrandGuildModel_place_AI_) (fun _ h9 => h9) rfl dX10_fails_130 ?_
                    refine lv_iload_n hx hb dX10_fails_133 rfl (lv_at hl 2 rfl) ?_
                    refine lv_aload_n hx hb dX10_fails_134 rfl (lv_at hl 1 rfl) ?_
                    refine va_get (D := (dC, dI)) (ci := 10) (v := .ref (X 41)) (C := RX10) (T := TX10) (N := 60) hx hb hg gb_10 hown hK hP 0 rfl rfl 41 (by decide) (hg _ gm_fieldLink_RX10_129_ErrandGuildModel_tryPlace_AI_) (fun _ h9 => h9) rfl dX10_fails_135 ?_
                    refine lv_bipush (v := 24) hx hb dX10_fails_138 (by decide) ?_
                    refine lv_iload_n hx hb dX10_fails_140 rfl (lv_at hl 2 rfl) ?_
                    refine lv_imul hx hb dX10_fails_141 ?_
                    refine lv_topi (fun z_142 ez_142 => ?_)
                    have tz_142 : z_142.toInt = 24 * v1.toInt := ar_mul ti_24 rfl ez_142 (by omega)
                    refine lv_iload hx hb dX10_fails_142 (lv_at hl 0 rfl) ?_
                    refine lv_iadd hx hb dX10_fails_144 ?_
                    refine lv_topi (fun z_143 ez_143 => ?_)
                    have tz_143 : z_143.toInt = z_142.toInt + x_32.toInt := ar_add rfl rfl ez_143 (by omega)
                    refine va_iald (f := F 41) hx hb hK hP 39 38 rfl rfl (vp_in_iff.mpr ⟨by omega, by omega⟩) dX10_fails_145 ?_
                    refine lv_topi (fun z_144 ez_144 => ?_)
                    have qz_144 := congrArg Int32.toInt ez_144
                    have bz_144 := bd_at b_12 ez_144
                    refine va_iast (f := F 20) hx hb hK hP hD hS 18 17 rfl rfl (vp_in_iff.mpr ⟨by omega, by omega⟩) dX10_fails_146 (fun H locs hP hD hS => ?_)
                    have hP : va_P (dC, dI) vwCl (w10 h0 X C (F 0) (F 1) (F 2) (F 3) (F 4) (F 5) (F 6) (F 7) (F 8) (F 10) (F 13) (F 14) (F 15) (F 16) (F 17) (F 18) (F 19) (upd (F 20) (Int32.toNatClampNeg v1) z_144) (F 21) (F 22) (F 23) (F 24) (F 25) (F 26) (F 27) (F 28) (F 29) (F 30) (F 31) (F 32) (F 33) (F 34) (F 35) f_132 (F 37) (F 38) (upd (F 39) (Int32.toNatClampNeg v1) x_32) (F 40) (F 41) (F 42) (F 43) (F 49) (F 50) (F 51) (F 52) (F 53) (F 54) (F 55) (F 56) (F 57) (F 58) (F 59) (n 9) (n 11) (n 12) (n 44) (n 45) (n 46) (n 47) (n 48)) H := hP
                    have hD : va_D A (w10 h0 X C (F 0) (F 1) (F 2) (F 3) (F 4) (F 5) (F 6) (F 7) (F 8) (F 10) (F 13) (F 14) (F 15) (F 16) (F 17) (F 18) (F 19) (upd (F 20) (Int32.toNatClampNeg v1) z_144) (F 21) (F 22) (F 23) (F 24) (F 25) (F 26) (F 27) (F 28) (F 29) (F 30) (F 31) (F 32) (F 33) (F 34) (F 35) f_132 (F 37) (F 38) (upd (F 39) (Int32.toNatClampNeg v1) x_32) (F 40) (F 41) (F 42) (F 43) (F 49) (F 50) (F 51) (F 52) (F 53) (F 54) (F 55) (F 56) (F 57) (F 58) (F 59) (n 9) (n 11) (n 12) (n 44) (n 45) (n 46) (n 47) (n 48)) := hD
                    have b_145 := bd_upd b_8 (Int32.toNatClampNeg v1) (x := z_144) (by omega) (by omega)
                    have cz := cl_eq z_143
                    have e1 : Int32.toNatClampNeg z_143 = 24 * (Int32.toNatClampNeg v1) + T := by omega
                    rw [e1] at qz_144
                    have hbz : (f_132 (Int32.toNatClampNeg v1)).toInt ≤ z_144.toInt := by omega
                    have j_146 : J2 (upd (F 39) (Int32.toNatClampNeg v1) x_32) (upd (F 20) (Int32.toNatClampNeg v1) z_144) := J2_pl j_129 (Int32.toNatClampNeg v1) (by rw [upd_eq]; omega)
                    have j_147 : J2 f_132 (upd (F 20) (Int32.toNatClampNeg v1) z_144) := J2_pl h_134 (Int32.toNatClampNeg v1) hbz
                    have j_148 : J7 (F 24) (upd (F 20) (Int32.toNatClampNeg v1) z_144) := J7_pl j_27 (Int32.toNatClampNeg v1) (Or.inl hib)
                    exact W.vret hx hb hr (fun t ht hW => ⟨⟨((fun k => ([F 0, F 1, F 2, F 3, F 4, F 5, F 6, F 7, F 8, (fun _ => 0), F 10, (fun _ => 0), (fun _ => 0), F 13, F 14, F 15, F 16, F 17, F 18, F 19, upd (F 20) (Int32.toNatClampNeg v1) z_144, F 21, F 22, F 23, F 24, F 25, F 26, F 27, F 28, F 29, F 30, F 31, F 32, F 33, F 34, F 35, f_132, F 37, F 38, upd (F 39) (Int32.toNatClampNeg v1) x_32, F 40, F 41, F 42, F 43, (fun _ => 0), (fun _ => 0), (fun _ => 0), (fun _ => 0), (fun _ => 0), F 49, F 50, F 51, F 52, F 53, F 54, F 55, F 56, F 57, F 58, F 59] : List (Nat → Int32)).getD k (fun _ => 0)), n), rfl, (Int.le_refl _), by rw [ht]; exact hP, hD, ⟨b_1, b_2, b_3, b_4, b_5, b_6, b_7, b_145, b_9, h_133, b_128, b_12, i_13, i_14, i_15, i_16, i_17, i_18, i_19, j_20, j_21, j_146, j_147, j_130, h_135, j_26, j_148, j_28, j_29⟩⟩, hS.F ht⟩) hS.2.2 dX10_fails_147
                  · simp only [i_lt, i_le, i_eq, ti_0] at c_141
                    refine lv_aload_n hx hb dX10_fails_79 rfl (lv_at hl 1 rfl) ?_
                    refine va_get (D := (dC, dI)) (ci := 10) (v := .ref (X 42)) (C := RX10) (T := TX10) (N := 60) hx hb hg gb_10 hown hK hP 0 rfl rfl 42 (by decide) (hg _ gm_fieldLink_RX10_132_ErrandGuildModel_bindNumber_AI_) (fun _ h9 => h9) rfl dX10_fails_80 ?_
                    refine lv_bipush (v := 24) hx hb dX10_fails_83 (by decide) ?_
                    refine lv_iload_n hx hb dX10_fails_85 rfl (lv_at hl 2 rfl) ?_
                    refine lv_imul hx hb dX10_fails_86 ?_
                    refine lv_topi (fun z_149 ez_149 => ?_)
                    have tz_149 : z_149.toInt = 24 * v1.toInt := ar_mul ti_24 rfl ez_149 (by omega)
                    refine lv_aload_n hx hb dX10_fails_87 rfl (lv_at hl 1 rfl) ?_
                    refine va_get (D := (dC, dI)) (ci := 10) (v := .ref (X 36)) (C := RX10) (T := TX10) (N := 60) hx hb hg gb_10 hown hK hP 0 rfl rfl 36 (by decide) (hg _ gm_fieldLink_RX10_114_ErrandGuildModel_bindMany_AI_) (fun _ h9 => h9) rfl dX10_fails_88 ?_
                    refine lv_iload_n hx hb dX10_fails_91 rfl (lv_at hl 2 rfl) ?_
                    refine va_iald (f := f_132) hx hb hK hP 34 33 rfl rfl (vp_in_iff.mpr ⟨by omega, by omega⟩) dX10_fails_92 ?_
                    refine lv_topi (fun z_150 ez_150 => ?_)
                    obtain rfl : z_140 = z_150 := ez_140.trans ez_150.symm
                    refine lv_iadd hx hb dX10_fails_93 ?_
                    refine lv_topi (fun z_151 ez_151 => ?_)
                    have tz_151 : z_151.toInt = z_149.toInt + z_140.toInt := ar_add rfl rfl ez_151 (by omega)
                    refine lv_iconst (v := 1) hx hb dX10_fails_94 (by decide) ?_
                    refine lv_isub hx hb dX10_fails_95 ?_
                    refine lv_topi (fun z_152 ez_152 => ?_)
                    have tz_152 : z_152.toInt = z_151.toInt - 1 := ar_sub rfl ti_1 ez_152 (by omega)
                    refine va_iald (f := F 42) hx hb hK hP 40 39 rfl rfl (vp_in_iff.mpr ⟨by omega, by omega⟩) dX10_fails_96 ?_
                    refine lv_topi (fun z_153 ez_153 => ?_)
                    have qz_153 := congrArg Int32.toInt ez_153
                    refine lv_aload_n hx hb dX10_fails_97 rfl (lv_at hl 1 rfl) ?_
                    refine va_get (D := (dC, dI)) (ci := 10) (v := .ref (X 43)) (C := RX10) (T := TX10) (N := 60) hx hb hg gb_10 hown hK hP 0 rfl rfl 43 (by decide) (hg _ gm_fieldLink_RX10_135_ErrandGuildModel_tryNumber_AI_) (fun _ h9 => h9) rfl dX10_fails_98 ?_
                    refine lv_bipush (v := 24) hx hb dX10_fails_101 (by decide) ?_
                    refine lv_iload_n hx hb dX10_fails_103 rfl (lv_at hl 2 rfl) ?_
                    refine lv_imul hx hb dX10_fails_104 ?_
                    refine lv_topi (fun z_154 ez_154 => ?_)
                    have tz_154 : z_154.toInt = 24 * v1.toInt := ar_mul ti_24 rfl ez_154 (by omega)
                    refine lv_iload hx hb dX10_fails_105 (lv_at hl 0 rfl) ?_
                    refine lv_iadd hx hb dX10_fails_107 ?_
                    refine lv_topi (fun z_155 ez_155 => ?_)
                    have tz_155 : z_155.toInt = z_154.toInt + x_32.toInt := ar_add rfl rfl ez_155 (by omega)
                    refine va_iald (f := F 43) hx hb hK hP 41 40 rfl rfl (vp_in_iff.mpr ⟨by omega, by omega⟩) dX10_fails_108 ?_
                    refine lv_topi (fun z_156 ez_156 => ?_)
                    have qz_156 := congrArg Int32.toInt ez_156
                    refine lv_icmp_lt (tgt := 129) hx hb dX10_fails_109 (by decide) (fun c_157 => ?_) (fun c_157 => ?_)
                    · simp only [i_lt, i_le, i_eq] at c_157
                      refine lv_aload_n hx hb dX10_fails_129 rfl (lv_at hl 1 rfl) ?_
                      refine va_get (D := (dC, dI)) (ci := 10) (v := .ref (X 20)) (C := RX10) (T := TX10) (N := 60) hx hb hg gb_10 hown hK hP 0 rfl rfl 20 (by decide) (hg _ gm_fieldLink_RX10_66_ErrandGuildModel_place_AI_) (fun _ h9 => h9) rfl dX10_fails_130 ?_
                      refine lv_iload_n hx hb dX10_fails_133 rfl (lv_at hl 2 rfl) ?_
                      refine lv_aload_n hx hb dX10_fails_134 rfl (lv_at hl 1 rfl) ?_
                      refine va_get (D := (dC, dI)) (ci := 10) (v := .ref (X 41)) (C := RX10) (T := TX10) (N := 60) hx hb hg gb_10 hown hK hP 0 rfl rfl 41 (by decide) (hg _ gm_fieldLink_RX10_129_ErrandGuildModel_tryPlace_AI_) (fun _ h9 => h9) rfl dX10_fails_135 ?_
                      refine lv_bipush (v := 24) hx hb dX10_fails_138 (by decide) ?_
                      refine lv_iload_n hx hb dX10_fails_140 rfl (lv_at hl 2 rfl) ?_
                      refine lv_imul hx hb dX10_fails_141 ?_
                      refine lv_topi (fun z_158 ez_158 => ?_)
                      have tz_158 : z_158.toInt = 24 * v1.toInt := ar_mul ti_24 rfl ez_158 (by omega)
                      refine lv_iload hx hb dX10_fails_142 (lv_at hl 0 rfl) ?_
                      refine lv_iadd hx hb dX10_fails_144 ?_
                      refine lv_topi (fun z_159 ez_159 => ?_)
                      have tz_159 : z_159.toInt = z_158.toInt + x_32.toInt := ar_add rfl rfl ez_159 (by omega)
                      refine va_iald (f := F 41) hx hb hK hP 39 38 rfl rfl (vp_in_iff.mpr ⟨by omega, by omega⟩) dX10_fails_145 ?_
                      refine lv_topi (fun z_160 ez_160 => ?_)
                      have qz_160 := congrArg Int32.toInt ez_160
                      have bz_160 := bd_at b_12 ez_160
                      refine va_iast (f := F 20) hx hb hK hP hD hS 18 17 rfl rfl (vp_in_iff.mpr ⟨by omega, by omega⟩) dX10_fails_146 (fun H locs hP hD hS => ?_)
                      have hP : va_P (dC, dI) vwCl (w10 h0 X C (F 0) (F 1) (F 2) (F 3) (F 4) (F 5) (F 6) (F 7) (F 8) (F 10) (F 13) (F 14) (F 15) (F 16) (F 17) (F 18) (F 19) (upd (F 20) (Int32.toNatClampNeg v1) z_160) (F 21) (F 22) (F 23) (F 24) (F 25) (F 26) (F 27) (F 28) (F 29) (F 30) (F 31) (F 32) (F 33) (F 34) (F 35) f_132 (F 37) (F 38) (upd (F 39) (Int32.toNatClampNeg v1) x_32) (F 40) (F 41) (F 42) (F 43) (F 49) (F 50) (F 51) (F 52) (F 53) (F 54) (F 55) (F 56) (F 57) (F 58) (F 59) (n 9) (n 11) (n 12) (n 44) (n 45) (n 46) (n 47) (n 48)) H := hP
                      have hD : va_D A (w10 h0 X C (F 0) (F 1) (F 2) (F 3) (F 4) (F 5) (F 6) (F 7) (F 8) (F 10) (F 13) (F 14) (F 15) (F 16) (F 17) (F 18) (F 19) (upd (F 20) (Int32.toNatClampNeg v1) z_160) (F 21) (F 22) (F 23) (F 24) (F 25) (F 26) (F 27) (F 28) (F 29) (F 30) (F 31) (F 32) (F 33) (F 34) (F 35) f_132 (F 37) (F 38) (upd (F 39) (Int32.toNatClampNeg v1) x_32) (F 40) (F 41) (F 42) (F 43) (F 49) (F 50) (F 51) (F 52) (F 53) (F 54) (F 55) (F 56) (F 57) (F 58) (F 59) (n 9) (n 11) (n 12) (n 44) (n 45) (n 46) (n 47) (n 48)) := hD
                      have b_161 := bd_upd b_8 (Int32.toNatClampNeg v1) (x := z_160) (by omega) (by omega)
                      have cz := cl_eq z_159
                      have e1 : Int32.toNatClampNeg z_159 = 24 * (Int32.toNatClampNeg v1) + T := by omega
                      rw [e1] at qz_160
                      have cz2 := cl_eq z_152
                      have cz3 := cl_eq z_155
                      have e2 : Int32.toNatClampNeg z_152 = 24 * (Int32.toNatClampNeg v1) + ((f_132 (Int32.toNatClampNeg v1)).toInt - 1).toNat := by omega
                      rw [e2] at qz_153
                      have e3 : Int32.toNatClampNeg z_155 = 24 * (Int32.toNatClampNeg v1) + T := by omega
                      rw [e3] at qz_156
                      have hbz : (f_132 (Int32.toNatClampNeg v1)).toInt ≤ z_160.toInt := Classical.byContradiction (fun hc => by have h9 := v_138 ((f_132 (Int32.toNatClampNeg v1)).toInt - 1).toNat (by omega) (by omega) (by omega); omega)
                      have j_162 : J2 (upd (F 39) (Int32.toNatClampNeg v1) x_32) (upd (F 20) (Int32.toNatClampNeg v1) z_160) := J2_pl j_129 (Int32.toNatClampNeg v1) (by rw [upd_eq]; omega)
                      have j_163 : J2 f_132 (upd (F 20) (Int32.toNatClampNeg v1) z_160) := J2_pl h_134 (Int32.toNatClampNeg v1) hbz
                      have j_164 : J7 (F 24) (upd (F 20) (Int32.toNatClampNeg v1) z_160) := J7_pl j_27 (Int32.toNatClampNeg v1) (Or.inl hib)
                      exact W.vret hx hb hr (fun t ht hW => ⟨⟨((fun k => ([F 0, F 1, F 2, F 3, F 4, F 5, F 6, F 7, F 8, (fun _ => 0), F 10, (fun _ => 0), (fun _ => 0), F 13, F 14, F 15, F 16, F 17, F 18, F 19, upd (F 20) (Int32.toNatClampNeg v1) z_160, F 21, F 22, F 23, F 24, F 25, F 26, F 27, F 28, F 29, F 30, F 31, F 32, F 33, F 34, F 35, f_132, F 37, F 38, upd (F 39) (Int32.toNatClampNeg v1) x_32, F 40, F 41, F 42, F 43, (fun _ => 0), (fun _ => 0), (fun _ => 0), (fun _ => 0), (fun _ => 0), F 49, F 50, F 51, F 52, F 53, F 54, F 55, F 56, F 57, F 58, F 59] : List (Nat → Int32)).getD k (fun _ => 0)), n), rfl, (Int.le_refl _), by rw [ht]; exact hP, hD, ⟨b_1, b_2, b_3, b_4, b_5, b_6, b_7, b_161, b_9, h_133, b_128, b_12, i_13, i_14, i_15, i_16, i_17, i_18, i_19, j_20, j_21, j_162, j_163, j_130, h_135, j_26, j_164, j_28, j_29⟩⟩, hS.F ht⟩) hS.2.2 dX10_fails_147
                    · simp only [i_lt, i_le, i_eq] at c_157
                      refine lv_aload_n hx hb dX10_fails_112 rfl (lv_at hl 1 rfl) ?_
                      refine va_get (D := (dC, dI)) (ci := 10) (v := .ref (X 36)) (C := RX10) (T := TX10) (N := 60) hx hb hg gb_10 hown hK hP 0 rfl rfl 36 (by decide) (hg _ gm_fieldLink_RX10_114_ErrandGuildModel_bindMany_AI_) (fun _ h9 => h9) rfl dX10_fails_113 ?_
                      refine lv_iload_n hx hb dX10_fails_116 rfl (lv_at hl 2 rfl) ?_
                      refine lv_aload_n hx hb dX10_fails_117 rfl (lv_at hl 1 rfl) ?_
                      refine va_get (D := (dC, dI)) (ci := 10) (v := .ref (X 36)) (C := RX10) (T := TX10) (N := 60) hx hb hg gb_10 hown hK hP 0 rfl rfl 36 (by decide) (hg _ gm_fieldLink_RX10_114_ErrandGuildModel_bindMany_AI_) (fun _ h9 => h9) rfl dX10_fails_118 ?_
                      refine lv_iload_n hx hb dX10_fails_121 rfl (lv_at hl 2 rfl) ?_
                      refine va_iald (f := f_132) hx hb hK hP 34 33 rfl rfl (vp_in_iff.mpr ⟨by omega, by omega⟩) dX10_fails_122 ?_
                      refine lv_topi (fun z_165 ez_165 => ?_)
                      obtain rfl : z_140 = z_165 := ez_140.trans ez_165.symm
                      refine lv_iconst (v := 1) hx hb dX10_fails_123 (by decide) ?_
                      refine lv_isub hx hb dX10_fails_124 ?_
                      refine lv_topi (fun z_166 ez_166 => ?_)
                      have tz_166 : z_166.toInt = z_140.toInt - 1 := ar_sub rfl ti_1 ez_166 (by omega)
                      refine va_iast (f := f_132) hx hb hK hP hD hS 34 33 rfl rfl (vp_in_iff.mpr ⟨by omega, by omega⟩) dX10_fails_125 (fun H locs hP hD hS => ?_)
                      have hP : va_P (dC, dI) vwCl (w10 h0 X C (F 0) (F 1) (F 2) (F 3) (F 4) (F 5) (F 6) (F 7) (F 8) (F 10) (F 13) (F 14) (F 15) (F 16) (F 17) (F 18) (F 19) (F 20) (F 21) (F 22) (F 23) (F 24) (F 25) (F 26) (F 27) (F 28) (F 29) (F 30) (F 31) (F 32) (F 33) (F 34) (F 35) (upd f_132 (Int32.toNatClampNeg v1) z_166) (F 37) (F 38) (upd (F 39) (Int32.toNatClampNeg v1) x_32) (F 40) (F 41) (F 42) (F 43) (F 49) (F 50) (F 51) (F 52) (F 53) (F 54) (F 55) (F 56) (F 57) (F 58) (F 59) (n 9) (n 11) (n 12) (n 44) (n 45) (n 46) (n 47) (n 48)) H := hP
                      have hD : va_D A (w10 h0 X C (F 0) (F 1) (F 2) (F 3) (F 4) (F 5) (F 6) (F 7) (F 8) (F 10) (F 13) (F 14) (F 15) (F 16) (F 17) (F 18) (F 19) (F 20) (F 21) (F 22) (F 23) (F 24) (F 25) (F 26) (F 27) (F 28) (F 29) (F 30) (F 31) (F 32) (F 33) (F 34) (F 35) (upd f_132 (Int32.toNatClampNeg v1) z_166) (F 37) (F 38) (upd (F 39) (Int32.toNatClampNeg v1) x_32) (F 40) (F 41) (F 42) (F 43) (F 49) (F 50) (F 51) (F 52) (F 53) (F 54) (F 55) (F 56) (F 57) (F 58) (F 59) (n 9) (n 11) (n 12) (n 44) (n 45) (n 46) (n 47) (n 48)) := hD
                      have b_167 := bd_upd h_133 (Int32.toNatClampNeg v1) (x := z_166) (by omega) (by omega)
                      have j_168 : J2 (upd f_132 (Int32.toNatClampNeg v1) z_166) (F 20) := J2_tm h_134 (Int32.toNatClampNeg v1) (by have h_ := h_134 (Int32.toNatClampNeg v1); omega)
                      have j_169 : J5 (upd (F 39) (Int32.toNatClampNeg v1) x_32) (upd f_132 (Int32.toNatClampNeg v1) z_166) (F 41) (F 43) (F 42) := J5_bm h_135 (Int32.toNatClampNeg v1) (Or.inl (by omega))
                      refine lv_goto (tgt := 70) hx hb dX10_fails_126 (by decide) ?_
                      exact ih_136  (upd f_132 (Int32.toNatClampNeg v1) z_166) b_167 j_168 j_169 H locs ls (by show (((upd f_132 (Int32.toNatClampNeg v1) z_166) (Int32.toNatClampNeg v1)).toInt).toNat < _; (try rw [upd_eq]); omega) (fun k a b c => v_138 k a (by rw [upd_eq] at b; omega) c) hP hD hS (lv_sub hl [0, 1, 2, 3, 4, 5] rfl)
              exact L70 _  (F 36) b_10 j_23 j_131 _ _ _ (Nat.lt_succ_self _) h5t hP hD hS (lv_sub hl [0, 1, 2, 3, 4, 5] rfl)
          · simp only [i_lt, i_le, i_eq, ti_8] at c_126
            refine lv_iload hx hb dX10_fails_48 (lv_at hl 0 rfl) ?_
            refine lv_iconst (v := 1) hx hb dX10_fails_50 (by decide) ?_
            refine lv_isub hx hb dX10_fails_51 ?_
            refine lv_topi (fun z_170 ez_170 => ?_)
            have tz_170 : z_170.toInt = x_32.toInt - 1 := ar_sub rfl ti_1 ez_170 (by omega)
            refine lv_istore (lv' := [(5, .int z_170), (0, .ref h0), (1, .int v1), (2, .int v2), (3, .int v3), (4, .int v4)]) hx hb dX10_fails_52 hl (by decide) rfl (fun ls hl => ?_)
            refine lv_goto (tgt := 10) hx hb dX10_fails_54 (by decide) ?_
            exact ih_33 z_170 H locs ls (by omega) (by omega) hP hD hS (lv_sub hl [0, 1, 2, 3, 4, 5] rfl)
  exact L10 _ z_31 _ _ _ (Nat.lt_succ_self _) (by omega) hP hD hS (lv_sub hl [0, 1, 2, 3, 4, 5] rfl)

set_option maxHeartbeats 8000000 in
set_option maxRecDepth 100000 in
theorem c_X10_gathers (l : Launch) (dC : Nat → ClassId) (dI : Nat → Nat → Nat) (kp : Int) (h0 : Nat) (X : Nat → Nat) (C : Nat → ClassId) (F : Nat → Nat → Int32) (n : Nat → Int32) (v1 : Int32) (sz : Nat) (hI : I10 kp F n) (hr : 0 ≤ v1.toInt ∧ v1.toInt < 200) (hrn : v1.toInt < (n 11).toInt) (hs1 : (F 13 (Int32.toNatClampNeg v1)).toInt = 1) (hib : (F 24 (Int32.toNatClampNeg v1)).toInt = 0) (hpl : (F 20 (Int32.toNatClampNeg v1)).toInt ≤ 23) : Met l yX10_gathers (.code yX10_gathers cX10_gathers 5 none :: gw) ({ frames := 3, cells := 0, slots := 0, locals := 72 }) (va_Pc [.ref h0, .int v1] (fun U => U.heap.size = sz ∧ va_P (dC, dI) vwCl (w10 h0 X C (F 0) (F 1) (F 2) (F 3) (F 4) (F 5) (F 6) (F 7) (F 8) (F 10) (F 13) (F 14) (F 15) (F 16) (F 17) (F 18) (F 19) (F 20) (F 21) (F 22) (F 23) (F 24) (F 25) (F 26) (F 27) (F 28) (F 29) (F 30) (F 31) (F 32) (F 33) (F 34) (F 35) (F 36) (F 37) (F 38) (F 39) (F 40) (F 41) (F 42) (F 43) (F 49) (F 50) (F 51) (F 52) (F 53) (F 54) (F 55) (F 56) (F 57) (F 58) (F 59) (n 9) (n 11) (n 12) (n 44) (n 45) (n 46) (n 47) (n 48)) U.heap ∧ va_K (dC, dI) vwCl (t10 C) U ∧ va_D (fun _ => True) (w10 h0 X C (F 0) (F 1) (F 2) (F 3) (F 4) (F 5) (F 6) (F 7) (F 8) (F 10) (F 13) (F 14) (F 15) (F 16) (F 17) (F 18) (F 19) (F 20) (F 21) (F 22) (F 23) (F 24) (F 25) (F 26) (F 27) (F 28) (F 29) (F 30) (F 31) (F 32) (F 33) (F 34) (F 35) (F 36) (F 37) (F 38) (F 39) (F 40) (F 41) (F 42) (F 43) (F 49) (F 50) (F 51) (F 52) (F 53) (F 54) (F 55) (F 56) (F 57) (F 58) (F 59) (n 9) (n 11) (n 12) (n 44) (n 45) (n 46) (n 47) (n 48)) ∧ nx U)) (va_Qv (fun (u : (Nat → Nat → Int32) × (Nat → Int32)) => (n 11).toInt ≤ (u.2 11).toInt) (fun u t => va_P (dC, dI) vwCl (w10 h0 X C (u.1 0) (u.1 1) (u.1 2) (u.1 3) (u.1 4) (u.1 5) (u.1 6) (u.1 7) (u.1 8) (u.1 10) (u.1 13) (u.1 14) (u.1 15) (u.1 16) (u.1 17) (u.1 18) (u.1 19) (u.1 20) (u.1 21) (u.1 22) (u.1 23) (u.1 24) (u.1 25) (u.1 26) (u.1 27) (u.1 28) (u.1 29) (u.1 30) (u.1 31) (u.1 32) (u.1 33) (u.1 34) (u.1 35) (u.1 36) (u.1 37) (u.1 38) (u.1 39) (u.1 40) (u.1 41) (u.1 42) (u.1 43) (u.1 49) (u.1 50) (u.1 51) (u.1 52) (u.1 53) (u.1 54) (u.1 55) (u.1 56) (u.1 57) (u.1 58) (u.1 59) (u.2 9) (u.2 11) (u.2 12) (u.2 44) (u.2 45) (u.2 46) (u.2 47) (u.2 48)) t.heap ∧ va_D (va_A (w10 h0 X C (F 0) (F 1) (F 2) (F 3) (F 4) (F 5) (F 6) (F 7) (F 8) (F 10) (F 13) (F 14) (F 15) (F 16) (F 17) (F 18) (F 19) (F 20) (F 21) (F 22) (F 23) (F 24) (F 25) (F 26) (F 27) (F 28) (F 29) (F 30) (F 31) (F 32) (F 33) (F 34) (F 35) (F 36) (F 37) (F 38) (F 39) (F 40) (F 41) (F 42) (F 43) (F 49) (F 50) (F 51) (F 52) (F 53) (F 54) (F 55) (F 56) (F 57) (F 58) (F 59) (n 9) (n 11) (n 12) (n 44) (n 45) (n 46) (n 47) (n 48)) sz) (w10 h0 X C (u.1 0) (u.1 1) (u.1 2) (u.1 3) (u.1 4) (u.1 5) (u.1 6) (u.1 7) (u.1 8) (u.1 10) (u.1 13) (u.1 14) (u.1 15) (u.1 16) (u.1 17) (u.1 18) (u.1 19) (u.1 20) (u.1 21) (u.1 22) (u.1 23) (u.1 24) (u.1 25) (u.1 26) (u.1 27) (u.1 28) (u.1 29) (u.1 30) (u.1 31) (u.1 32) (u.1 33) (u.1 34) (u.1 35) (u.1 36) (u.1 37) (u.1 38) (u.1 39) (u.1 40) (u.1 41) (u.1 42) (u.1 43) (u.1 49) (u.1 50) (u.1 51) (u.1 52) (u.1 53) (u.1 54) (u.1 55) (u.1 56) (u.1 57) (u.1 58) (u.1 59) (u.2 9) (u.2 11) (u.2 12) (u.2 44) (u.2 45) (u.2 46) (u.2 47) (u.2 48)) ∧ I10 kp u.1 u.2) (va_A (w10 h0 X C (F 0) (F 1) (F 2) (F 3) (F 4) (F 5) (F 6) (F 7) (F 8) (F 10) (F 13) (F 14) (F 15) (F 16) (F 17) (F 18) (F 19) (F 20) (F 21) (F 22) (F 23) (F 24) (F 25) (F 26) (F 27) (F 28) (F 29) (F 30) (F 31) (F 32) (F 33) (F 34) (F 35) (F 36) (F 37) (F 38) (F 39) (F 40) (F 41) (F 42) (F 43) (F 49) (F 50) (F 51) (F 52) (F 53) (F 54) (F 55) (F 56) (F 57) (F 58) (F 59) (n 9) (n 11) (n 12) (n 44) (n 45) (n 46) (n 47) (n 48)) sz)) 0 0 (va_A (w10 h0 X C (F 0) (F 1) (F 2) (F 3) (F 4) (F 5) (F 6) (F 7) (F 8) (F 10) (F 13) (F 14) (F 15) (F 16) (F 17) (F 18) (F 19) (F 20) (F 21) (F 22) (F 23) (F 24) (F 25) (F 26) (F 27) (F 28) (F 29) (F 30) (F 31) (F 32) (F 33) (F 34) (F 35) (F 36) (F 37) (F 38) (F 39) (F 40) (F 41) (F 42) (F 43) (F 49) (F 50) (F 51) (F 52) (F 53) (F 54) (F 55) (F 56) (F 57) (F 58) (F 59) (n 9) (n 11) (n 12) (n 44) (n 45) (n 46) (n 47) (n 48)) sz) := by
  refine Met.ofW (cc := cX10_gathers) (maxL := 5) (ret := none) (by decide) rfl ?_
  intro p e s m args below meth c s₁ B hml hv
  obtain ⟨rfl, hsz, hP, hK, hD0, hN⟩ := hv
  have hx := B.exec
  have hb := B.bytes
  have hr := B.returns
  have hts := atoms_spec (ws := .code yX10_gathers cX10_gathers 5 none :: gw) B.pre
  have hg : ∀ w ∈ gw, w.before _ s = true := fun w h => hts w (List.mem_cons_of_mem _ h)
  have hown : s.vm.findClass RX10 = some m.cls := findClass_of_methodNamed B.named
  have hlocks := B.notSynchronized
  subst hsz
  have hD := hD0.self (sz := s.heap.size)
  generalize hAe : va_A (w10 h0 X C (F 0) (F 1) (F 2) (F 3) (F 4) (F 5) (F 6) (F 7) (F 8) (F 10) (F 13) (F 14) (F 15) (F 16) (F 17) (F 18) (F 19) (F 20) (F 21) (F 22) (F 23) (F 24) (F 25) (F 26) (F 27) (F 28) (F 29) (F 30) (F 31) (F 32) (F 33) (F 34) (F 35) (F 36) (F 37) (F 38) (F 39) (F 40) (F 41) (F 42) (F 43) (F 49) (F 50) (F 51) (F 52) (F 53) (F 54) (F 55) (F 56) (F 57) (F 58) (F 59) (n 9) (n 11) (n 12) (n 44) (n 45) (n 46) (n 47) (n 48)) s.heap.size = A at hD ⊢
  have hA : ∀ q : Nat, s.heap.size ≤ q → A q := fun q h => by rw [← hAe]; exact Or.inr h
  have hS : va_S A s.heap s.heap [] := va_S.rf
  have hP : va_P (dC, dI) vwCl (w10 h0 X C (F 0) (F 1) (F 2) (F 3) (F 4) (F 5) (F 6) (F 7) (F 8) (F 10) (F 13) (F 14) (F 15) (F 16) (F 17) (F 18) (F 19) (F 20) (F 21) (F 22) (F 23) (F 24) (F 25) (F 26) (F 27) (F 28) (F 29) (F 30) (F 31) (F 32) (F 33) (F 34) (F 35) (F 36) (F 37) (F 38) (F 39) (F 40) (F 41) (F 42) (F 43) (F 49) (F 50) (F 51) (F 52) (F 53) (F 54) (F 55) (F 56) (F 57) (F 58) (F 59) (n 9) (n 11) (n 12) (n 44) (n 45) (n 46) (n 47) (n 48)) s.heap := hP
  have hl := lv_entry ([.ref h0, .int v1]) (n := 5) (Nat.le_of_ble_eq_true rfl)
  rw [lg_entry_eq]
  generalize (lg_sl ([.ref h0, .int v1]) ++ List.replicate (5 - (lg_sl ([.ref h0, .int v1])).length) Slot.unset).toArray = ls at hl ⊢
  have hl : lv_has ls 5 [(0, .ref h0), (1, .int v1)] := hl
  obtain ⟨b_1, b_2, b_3, b_4, b_5, b_6, b_7, b_8, b_9, b_10, b_11, b_12, i_13, i_14, i_15, i_16, i_17, i_18, i_19, j_20, j_21, j_22, j_23, j_24, j_25, j_26, j_27, j_28, j_29⟩ := id hI
  refine lv_iconst (v := -1) hx hb dX10_gathers_0 (by decide) ?_
  refine lv_istore_n (lv' := [(2, .int (-1)), (0, .ref h0), (1, .int v1)]) hx hb dX10_gathers_1 rfl hl (by decide) rfl (fun ls hl => ?_)
  refine lv_iconst (v := 0) hx hb dX10_gathers_2 (by decide) ?_
  refine lv_istore_n (lv' := [(3, .int 0), (2, .int (-1)), (0, .ref h0), (1, .int v1)]) hx hb dX10_gathers_3 rfl hl (by decide) rfl (fun ls hl => ?_)
  refine lv_iload_n hx hb dX10_gathers_4 rfl (lv_at hl 3 rfl) ?_
  refine lv_iconst (v := 1) hx hb dX10_gathers_5 (by decide) ?_
  refine lv_iadd hx hb dX10_gathers_6 ?_
  refine lv_topi (fun z_30 ez_30 => ?_)
  have tz_30 : z_30.toInt = v1.toInt + 1 := ar_add rfl ti_1 ez_30 (by omega)
  refine lv_istore (lv' := [(4, .int z_30), (3, .int 0), (2, .int (-1)), (0, .ref h0), (1, .int v1)]) hx hb dX10_gathers_7 hl (by decide) rfl (fun ls hl => ?_)
  have L9 : ∀ (fuel : Nat) (x_31 : Int32) (x_32 : Int32) (x_33 : Int32) (f_34 : Nat → Int32) (f_35 : Nat → Int32) (f_36 : Nat → Int32) (H : Heap) (locs : List Loc) (ls : Array Slot), (201 - x_33.toInt).toNat < fuel → (1 ≤ x_33.toInt ∧ x_33.toInt ≤ 200) → (-1 ≤ x_31.toInt ∧ x_31.toInt < 200) → (0 ≤ x_32.toInt ∧ x_32.toInt ≤ x_33.toInt) → va_P (dC, dI) vwCl (w10 h0 X C (F 0) (F 1) (F 2) (F 3) (F 4) (F 5) (F 6) (F 7) (F 8) (F 10) (F 13) (F 14) (F 15) (F 16) (F 17) (F 18) f_34 (F 20) (F 21) (F 22) (F 23) (F 24) (F 25) f_35 f_36 (F 28) (F 29) (F 30) (F 31) (F 32) (F 33) (F 34) (F 35) (F 36) (F 37) (F 38) (F 39) (F 40) (F 41) (F 42) (F 43) (F 49) (F 50) (F 51) (F 52) (F 53) (F 54) (F 55) (F 56) (F 57) (F 58) (F 59) (n 9) (n 11) (n 12) (n 44) (n 45) (n 46) (n 47) (n 48)) H → va_D A (w10 h0 X C (F 0) (F 1) (F 2) (F 3) (F 4) (F 5) (F 6) (F 7) (F 8) (F 10) (F 13) (F 14) (F 15) (F 16) (F 17) (F 18) f_34 (F 20) (F 21) (F 22) (F 23) (F 24) (F 25) f_35 f_36 (F 28) (F 29) (F 30) (F 31) (F 32) (F 33) (F 34) (F 35) (F 36) (F 37) (F 38) (F 39) (F 40) (F 41) (F 42) (F 43) (F 49) (F 50) (F 51) (F 52) (F 53) (F 54) (F 55) (F 56) (F 57) (F 58) (F 59) (n 9) (n 11) (n 12) (n 44) (n 45) (n 46) (n 47) (n 48)) → va_S A s.heap H locs → lv_has ls 5 [(4, .int x_33), (3, .int x_32), (2, .int x_31), (0, .ref h0), (1, .int v1)] → W p l e (headSpec (.code yX10_gathers cX10_gathers 5 none :: gw) ({ frames := 3, cells := 0, slots := 0, locals := 72 })).room s m ([.ref h0, .int v1] : List Value).toArray below meth c H locs 0 0 (MQ below (va_Qv (fun (u : (Nat → Nat → Int32) × (Nat → Int32)) => (n 11).toInt ≤ (u.2 11).toInt) (fun u t => va_P (dC, dI) vwCl (w10 h0 X C (u.1 0) (u.1 1) (u.1 2) (u.1 3) (u.1 4) (u.1 5) (u.1 6) (u.1 7) (u.1 8) (u.1 10) (u.1 13) (u.1 14) (u.1 15) (u.1 16) (u.1 17) (u.1 18) (u.1 19) (u.1 20) (u.1 21) (u.1 22) (u.1 23) (u.1 24) (u.1 25) (u.1 26) (u.1 27) (u.1 28) (u.1 29) (u.1 30) (u.1 31) (u.1 32) (u.1 33) (u.1 34) (u.1 35) (u.1 36) (u.1 37) (u.1 38) (u.1 39) (u.1 40) (u.1 41) (u.1 42) (u.1 43) (u.1 49) (u.1 50) (u.1 51) (u.1 52) (u.1 53) (u.1 54) (u.1 55) (u.1 56) (u.1 57) (u.1 58) (u.1 59) (u.2 9) (u.2 11) (u.2 12) (u.2 44) (u.2 45) (u.2 46) (u.2 47) (u.2 48)) t.heap ∧ va_D A (w10 h0 X C (u.1 0) (u.1 1) (u.1 2) (u.1 3) (u.1 4) (u.1 5) (u.1 6) (u.1 7) (u.1 8) (u.1 10) (u.1 13) (u.1 14) (u.1 15) (u.1 16) (u.1 17) (u.1 18) (u.1 19) (u.1 20) (u.1 21) (u.1 22) (u.1 23) (u.1 24) (u.1 25) (u.1 26) (u.1 27) (u.1 28) (u.1 29) (u.1 30) (u.1 31) (u.1 32) (u.1 33) (u.1 34) (u.1 35) (u.1 36) (u.1 37) (u.1 38) (u.1 39) (u.1 40) (u.1 41) (u.1 42) (u.1 43) (u.1 49) (u.1 50) (u.1 51) (u.1 52) (u.1 53) (u.1 54) (u.1 55) (u.1 56) (u.1 57) (u.1 58) (u.1 59) (u.2 9) (u.2 11) (u.2 12) (u.2 44) (u.2 45) (u.2 46) (u.2 47) (u.2 48)) ∧ I10 kp u.1 u.2) A) ([.ref h0, .int v1] : List Value).toArray s 0 0 A) (F0 m 9 ls []) := by
    intro fuel
    induction fuel with
    | zero => intro x_31 x_32 x_33 f_34 f_35 f_36 H locs ls hm; exact absurd hm (Nat.not_lt_zero _)
    | succ fuel_38 ih_37 =>
      intro x_31 x_32 x_33 f_34 f_35 f_36 H locs ls hm_42 v_39 v_40 v_41 hP hD hS hl
      refine lv_iload hx hb dX10_gathers_9 (lv_at hl 0 rfl) ?_
      refine lv_aload_n hx hb dX10_gathers_11 rfl (lv_at hl 3 rfl) ?_
      refine va_get (D := (dC, dI)) (ci := 10) (v := .int (n 11)) (C := RX10) (T := TX10) (N := 60) hx hb hg gb_10 hown hK hP 0 rfl rfl 11 (by decide) (hg _ gm_fieldLink_RX10_176_ErrandGuildModel_runs_I_) (fun _ h9 => h9) rfl dX10_gathers_12 ?_
      refine lv_icmp_ge (tgt := 110) hx hb dX10_gathers_15 (by decide) (fun c_43 => ?_) (fun c_43 => ?_)
      · simp only [i_lt, i_le, i_eq] at c_43
        refine lv_iload_n hx hb dX10_gathers_110 rfl (lv_at hl 2 rfl) ?_
        refine lv_iconst (v := -1) hx hb dX10_gathers_111 (by decide) ?_
        refine lv_icmp_ne (tgt := 132) hx hb dX10_gathers_112 (by decide) (fun c_44 => ?_) (fun c_44 => ?_)
        · simp only [i_lt, i_le, i_eq, ti_m1] at c_44
          refine lv_aload_n hx hb dX10_gathers_132 rfl (lv_at hl 3 rfl) ?_
          refine lv_iload_n hx hb dX10_gathers_133 rfl (lv_at hl 4 rfl) ?_
          refine lv_aload_n hx hb dX10_gathers_134 rfl (lv_at hl 3 rfl) ?_
          refine va_get (D := (dC, dI)) (ci := 10) (v := .ref (X 28)) (C := RX10) (T := TX10) (N := 60) hx hb hg gb_10 hown hK hP 0 rfl rfl 28 (by decide) (hg _ gm_fieldLink_RX10_90_ErrandGuildModel_failKind_AI_) (fun _ h9 => h9) rfl dX10_gathers_135 ?_
          refine lv_iload_n hx hb dX10_gathers_138 rfl (lv_at hl 2 rfl) ?_
          refine va_iald (f := F 28) hx hb hK hP 26 25 rfl rfl (vp_in_iff.mpr ⟨by omega, by omega⟩) dX10_gathers_139 ?_
          refine lv_topi (fun z_45 ez_45 => ?_)
          have qz_45 := congrArg Int32.toInt ez_45
          have bz_45 := bd_at b_9 ez_45
          refine lv_iload_n hx hb dX10_gathers_140 rfl (lv_at hl 2 rfl) ?_
          refine lv_iload_n hx hb dX10_gathers_141 rfl (lv_at hl 1 rfl) ?_
          refine lv_iconst (v := 1) hx hb dX10_gathers_142 (by decide) ?_
          refine lv_isub hx hb dX10_gathers_143 ?_
          refine lv_topi (fun z_46 ez_46 => ?_)
          have tz_46 : z_46.toInt = x_32.toInt - 1 := ar_sub rfl ti_1 ez_46 (by omega)
          have hFc := free_all hD hS hA
          refine va_callv (va_runV (As := [.int v1, .int z_45, .int x_31, .int z_46]) (rest := []) ⟨hx, hb, hml, hown, hg⟩ (c_X10_fails l dC dI kp h0 X C (fun k => ([F 0, F 1, F 2, F 3, F 4, F 5, F 6, F 7, F 8, (fun _ => 0), F 10, (fun _ => 0), (fun _ => 0), F 13, F 14, F 15, F 16, F 17, F 18, f_34, F 20, F 21, F 22, F 23, F 24, F 25, f_35, f_36, F 28, F 29, F 30, F 31, F 32, F 33, F 34, F 35, F 36, F 37, F 38, F 39, F 40, F 41, F 42, F 43, (fun _ => 0), (fun _ => 0), (fun _ => 0), (fun _ => 0), (fun _ => 0), F 49, F 50, F 51, F 52, F 53, F 54, F 55, F 56, F 57, F 58, F 59] : List (Nat → Int32)).getD k (fun _ => 0)) n v1 z_45 x_31 z_46 H.size ⟨b_1, b_2, b_3, b_4, b_5, b_6, b_7, b_8, b_9, b_10, b_11, b_12, i_13, i_14, i_15, i_16, i_17, i_18, i_19, j_20, j_21, j_22, j_23, j_24, j_25, j_26, j_27, j_28, j_29⟩ (by omega) (by show v1.toInt < (n 11).toInt; exact hrn) (by show (F 13 (Int32.toNatClampNeg v1)).toInt = 1; exact hs1) (by show (F 24 (Int32.toNatClampNeg v1)).toInt = 0; exact hib) (by omega)) (cwV 4 hg (gw_V gm_methodLink_RX10_225_yX10_fails gm_instanceMethod_yX10_fails gm_selects_RX10_yX10_fails_yX10_fails gm_initialized_RX10 gm_code_yX10_fails_cX10_fails_6_none) rfl rfl rfl (by decide +kernel) ⟨Nat.le_of_ble_eq_true rfl, Nat.le_of_ble_eq_true rfl⟩) ⟨fun a U g mk q => by obtain ⟨q0, q1, qP, qK, qD, qN⟩ := q; exact ⟨q0, q1, qP, va_K.moved (u := U) (U := U.calling g mk a) (Vm.Alike.refl U.vm) qK, qD, nx_same (u := U) (U := U.calling g mk a) rfl qN⟩, va_recv hK hP (ci := 10) (q0 := 0) rfl rfl, fun U hU hW => ⟨rfl, by rw [hU], by rw [hU]; exact hP, va_K.moved hW.alike hK, hD.weaken (fun _ _ _ _ => trivial), nx_warm hW hN⟩⟩ rfl rfl hl.1 rfl (lv_room (Nat.le_of_ble_eq_true rfl)) dX10_gathers_144 ⟨Nat.le_of_ble_eq_true rfl, Nat.le_of_ble_eq_true rfl⟩) hS (fun q _ h => hFc q h) hFc (fun u_48 t H1 locs ht hvm hw hB hz1 hk1 hS => ?_)
          obtain ⟨F_49, n_50⟩ := u_48
          obtain ⟨hP, hD, hI_51⟩ := hB
          have hI_51 : I10 kp F_49 n_50 := hI_51
          obtain ⟨b_52, b_53, b_54, b_55, b_56, b_57, b_58, b_59, b_60, b_61, b_62, b_63, i_64, i_65, i_66, i_67, i_68, i_69, i_70, j_71, j_72, j_73, j_74, j_75, j_76, j_77, j_78, j_79, j_80⟩ := id hI_51
          rw [ht] at hP
          have hD := hD.weaken (fun k q _ h => hFc _ h)
          generalize H1 = H at hP hS ⊢
          have hP : va_P (dC, dI) vwCl (w10 h0 X C (F_49 0) (F_49 1) (F_49 2) (F_49 3) (F_49 4) (F_49 5) (F_49 6) (F_49 7) (F_49 8) (F_49 10) (F_49 13) (F_49 14) (F_49 15) (F_49 16) (F_49 17) (F_49 18) (F_49 19) (F_49 20) (F_49 21) (F_49 22) (F_49 23) (F_49 24) (F_49 25) (F_49 26) (F_49 27) (F_49 28) (F_49 29) (F_49 30) (F_49 31) (F_49 32) (F_49 33) (F_49 34) (F_49 35) (F_49 36) (F_49 37) (F_49 38) (F_49 39) (F_49 40) (F_49 41) (F_49 42) (F_49 43) (F_49 49) (F_49 50) (F_49 51) (F_49 52) (F_49 53) (F_49 54) (F_49 55) (F_49 56) (F_49 57) (F_49 58) (F_49 59) (n_50 9) (n_50 11) (n_50 12) (n_50 44) (n_50 45) (n_50 46) (n_50 47) (n_50 48)) H := hP
          have hD : va_D A (w10 h0 X C (F_49 0) (F_49 1) (F_49 2) (F_49 3) (F_49 4) (F_49 5) (F_49 6) (F_49 7) (F_49 8) (F_49 10) (F_49 13) (F_49 14) (F_49 15) (F_49 16) (F_49 17) (F_49 18) (F_49 19) (F_49 20) (F_49 21) (F_49 22) (F_49 23) (F_49 24) (F_49 25) (F_49 26) (F_49 27) (F_49 28) (F_49 29) (F_49 30) (F_49 31) (F_49 32) (F_49 33) (F_49 34) (F_49 35) (F_49 36) (F_49 37) (F_49 38) (F_49 39) (F_49 40) (F_49 41) (F_49 42) (F_49 43) (F_49 49) (F_49 50) (F_49 51) (F_49 52) (F_49 53) (F_49 54) (F_49 55) (F_49 56) (F_49 57) (F_49 58) (F_49 59) (n_50 9) (n_50 11) (n_50 12) (n_50 44) (n_50 45) (n_50 46) (n_50 47) (n_50 48)) := hD
          have w_81 : ((n 11)).toInt ≤ (n_50 11).toInt := hw
          try simp only [upd_eq] at w_81
          exact W.vret hx hb hr (fun t ht hW => ⟨⟨(F_49, n_50), rfl, (by show (n 11).toInt ≤ ((n_50 11)).toInt; omega), by rw [ht]; exact hP, hD, ⟨b_52, b_53, b_54, b_55, b_56, b_57, b_58, b_59, b_60, b_61, b_62, b_63, i_64, i_65, i_66, i_67, i_68, i_69, i_70, j_71, j_72, j_73, j_74, j_75, j_76, j_77, j_78, j_79, j_80⟩⟩, hS.F ht⟩) hS.2.2 dX10_gathers_147
        · simp only [i_lt, i_le, i_eq, ti_m1] at c_44
          refine lv_aload_n hx hb dX10_gathers_115 rfl (lv_at hl 3 rfl) ?_
          refine va_get (D := (dC, dI)) (ci := 10) (v := .ref (X 20)) (C := RX10) (T := TX10) (N := 60) hx hb hg gb_10 hown hK hP 0 rfl rfl 20 (by decide) (hg _ gm_fieldLink_RX10_66_ErrandGuildModel_place_AI_) (fun _ h9 => h9) rfl dX10_gathers_116 ?_
          refine lv_iload_n hx hb dX10_gathers_119 rfl (lv_at hl 4 rfl) ?_
          refine lv_aload_n hx hb dX10_gathers_120 rfl (lv_at hl 3 rfl) ?_
          refine va_get (D := (dC, dI)) (ci := 10) (v := .ref (X 20)) (C := RX10) (T := TX10) (N := 60) hx hb hg gb_10 hown hK hP 0 rfl rfl 20 (by decide) (hg _ gm_fieldLink_RX10_66_ErrandGuildModel_place_AI_) (fun _ h9 => h9) rfl dX10_gathers_121 ?_
          refine lv_iload_n hx hb dX10_gathers_124 rfl (lv_at hl 4 rfl) ?_
          refine va_iald (f := F 20) hx hb hK hP 18 17 rfl rfl (vp_in_iff.mpr ⟨by omega, by omega⟩) dX10_gathers_125 ?_
          refine lv_topi (fun z_82 ez_82 => ?_)
          have qz_82 := congrArg Int32.toInt ez_82
          have bz_82 := bd_at b_8 ez_82
          refine lv_iconst (v := 1) hx hb dX10_gathers_126 (by decide) ?_
          refine lv_iadd hx hb dX10_gathers_127 ?_
          refine lv_topi (fun z_83 ez_83 => ?_)
          have tz_83 : z_83.toInt = z_82.toInt + 1 := ar_add rfl ti_1 ez_83 (by omega)
          refine va_iast (f := F 20) hx hb hK hP hD hS 18 17 rfl rfl (vp_in_iff.mpr ⟨by omega, by omega⟩) dX10_gathers_128 (fun H locs hP hD hS => ?_)
          have hP : va_P (dC, dI) vwCl (w10 h0 X C (F 0) (F 1) (F 2) (F 3) (F 4) (F 5) (F 6) (F 7) (F 8) (F 10) (F 13) (F 14) (F 15) (F 16) (F 17) (F 18) f_34 (upd (F 20) (Int32.toNatClampNeg v1) z_83) (F 21) (F 22) (F 23) (F 24) (F 25) f_35 f_36 (F 28) (F 29) (F 30) (F 31) (F 32) (F 33) (F 34) (F 35) (F 36) (F 37) (F 38) (F 39) (F 40) (F 41) (F 42) (F 43) (F 49) (F 50) (F 51) (F 52) (F 53) (F 54) (F 55) (F 56) (F 57) (F 58) (F 59) (n 9) (n 11) (n 12) (n 44) (n 45) (n 46) (n 47) (n 48)) H := hP
          have hD : va_D A (w10 h0 X C (F 0) (F 1) (F 2) (F 3) (F 4) (F 5) (F 6) (F 7) (F 8) (F 10) (F 13) (F 14) (F 15) (F 16) (F 17) (F 18) f_34 (upd (F 20) (Int32.toNatClampNeg v1) z_83) (F 21) (F 22) (F 23) (F 24) (F 25) f_35 f_36 (F 28) (F 29) (F 30) (F 31) (F 32) (F 33) (F 34) (F 35) (F 36) (F 37) (F 38) (F 39) (F 40) (F 41) (F 42) (F 43) (F 49) (F 50) (F 51) (F 52) (F 53) (F 54) (F 55) (F 56) (F 57) (F 58) (F 59) (n 9) (n 11) (n 12) (n 44) (n 45) (n 46) (n 47) (n 48)) := hD
          have b_84 := bd_upd b_8 (Int32.toNatClampNeg v1) (x := z_83) (by omega) (by omega)
          have j_85 : J2 (F 39) (upd (F 20) (Int32.toNatClampNeg v1) z_83) := J2_pl j_22 (Int32.toNatClampNeg v1) (by have h_ := j_22 (Int32.toNatClampNeg v1); omega)
          have j_86 : J2 (F 36) (upd (F 20) (Int32.toNatClampNeg v1) z_83) := J2_pl j_23 (Int32.toNatClampNeg v1) (by have h_ := j_23 (Int32.toNatClampNeg v1); omega)
          have j_87 : J7 (F 24) (upd (F 20) (Int32.toNatClampNeg v1) z_83) := J7_pl j_27 (Int32.toNatClampNeg v1) (Or.inl hib)
          refine lv_goto (tgt := 147) hx hb dX10_gathers_129 (by decide) ?_
          exact W.vret hx hb hr (fun t ht hW => ⟨⟨((fun k => ([F 0, F 1, F 2, F 3, F 4, F 5, F 6, F 7, F 8, (fun _ => 0), F 10, (fun _ => 0), (fun _ => 0), F 13, F 14, F 15, F 16, F 17, F 18, f_34, upd (F 20) (Int32.toNatClampNeg v1) z_83, F 21, F 22, F 23, F 24, F 25, f_35, f_36, F 28, F 29, F 30, F 31, F 32, F 33, F 34, F 35, F 36, F 37, F 38, F 39, F 40, F 41, F 42, F 43, (fun _ => 0), (fun _ => 0), (fun _ => 0), (fun _ => 0), (fun _ => 0), F 49, F 50, F 51, F 52, F 53, F 54, F 55, F 56, F 57, F 58, F 59] : List (Nat → Int32)).getD k (fun _ => 0)), n), rfl, (Int.le_refl _), by rw [ht]; exact hP, hD, ⟨b_1, b_2, b_3, b_4, b_5, b_6, b_7, b_84, b_9, b_10, b_11, b_12, i_13, i_14, i_15, i_16, i_17, i_18, i_19, j_20, j_21, j_85, j_86, j_24, j_25, j_26, j_87, j_28, j_29⟩⟩, hS.F ht⟩) hS.2.2 dX10_gathers_147
      · simp only [i_lt, i_le, i_eq] at c_43
        refine lv_aload_n hx hb dX10_gathers_18 rfl (lv_at hl 3 rfl) ?_
        refine va_get (D := (dC, dI)) (ci := 10) (v := .ref (X 15)) (C := RX10) (T := TX10) (N := 60) hx hb hg gb_10 hown hK hP 0 rfl rfl 15 (by decide) (hg _ gm_fieldLink_RX10_51_ErrandGuildModel_giver_AI_) (fun _ h9 => h9) rfl dX10_gathers_19 ?_
        refine lv_iload hx hb dX10_gathers_22 (lv_at hl 0 rfl) ?_
        refine va_iald (f := F 15) hx hb hK hP 13 12 rfl rfl (vp_in_iff.mpr ⟨by omega, by omega⟩) dX10_gathers_24 ?_
        refine lv_topi (fun z_88 ez_88 => ?_)
        have qz_88 := congrArg Int32.toInt ez_88
        have bz_88 := bd_at b_5 ez_88
        refine lv_iload_n hx hb dX10_gathers_25 rfl (lv_at hl 4 rfl) ?_
        refine lv_icmp_ne (tgt := 104) hx hb dX10_gathers_26 (by decide) (fun c_89 => ?_) (fun c_89 => ?_)
        · simp only [i_lt, i_le, i_eq] at c_89
          obtain ⟨y_90, ey_90⟩ : ∃ q : Int32, q = x_33 + (1) := ⟨_, rfl⟩
          refine lv_iinc (v := y_90) (lv' := [(4, .int y_90), (3, .int x_32), (2, .int x_31), (0, .ref h0), (1, .int v1)]) hx hb dX10_gathers_104 hl (k := 0) rfl (by rw [ey_90]; rfl) (by decide) rfl (fun ls hl => ?_)
          have ty_90 : y_90.toInt = x_33.toInt + (1) := ar_add rfl ti_1 ey_90 (by omega)
          refine lv_goto (tgt := 9) hx hb dX10_gathers_107 (by decide) ?_
          exact ih_37 x_31 x_32 y_90 f_34 f_35 f_36  H locs ls (by omega) (by omega) (by omega) (by omega) hP hD hS (lv_sub hl [0, 1, 2, 3, 4] rfl)
        · simp only [i_lt, i_le, i_eq] at c_89
          refine lv_aload_n hx hb dX10_gathers_29 rfl (lv_at hl 3 rfl) ?_
          refine va_get (D := (dC, dI)) (ci := 10) (v := .ref (X 27)) (C := RX10) (T := TX10) (N := 60) hx hb hg gb_10 hown hK hP 0 rfl rfl 27 (by decide) (hg _ gm_fieldLink_RX10_87_ErrandGuildModel_isAwaited_AZ_) (fun _ h9 => h9) rfl dX10_gathers_30 ?_
          refine lv_iload hx hb dX10_gathers_33 (lv_at hl 0 rfl) ?_
          refine va_zald (f := f_36) hx hb hK hP 25 24 rfl rfl (vp_in_iff.mpr ⟨by omega, by omega⟩) dX10_gathers_35 ?_
          refine lv_topi (fun z_91 ez_91 => ?_)
          have qz_91 := congrArg Int32.toInt ez_91
          refine lv_if_ne (tgt := 42) hx hb dX10_gathers_36 (by decide) (fun c_92 => ?_) (fun c_92 => ?_)
          · simp only [i_lt, i_le, i_eq, ti_0] at c_92
            refine lv_aload_n hx hb dX10_gathers_42 rfl (lv_at hl 3 rfl) ?_
            refine va_get (D := (dC, dI)) (ci := 10) (v := .ref (X 27)) (C := RX10) (T := TX10) (N := 60) hx hb hg gb_10 hown hK hP 0 rfl rfl 27 (by decide) (hg _ gm_fieldLink_RX10_87_ErrandGuildModel_isAwaited_AZ_) (fun _ h9 => h9) rfl dX10_gathers_43 ?_
            refine lv_iload hx hb dX10_gathers_46 (lv_at hl 0 rfl) ?_
            refine lv_iconst (v := 0) hx hb dX10_gathers_48 (by decide) ?_
            refine va_zast (f := f_36) hx hb hK hP hD hS 25 24 rfl rfl (vp_in_iff.mpr ⟨by omega, by omega⟩) dX10_gathers_49 (fun H locs hP hD hS => ?_)
            have hP : va_P (dC, dI) vwCl (w10 h0 X C (F 0) (F 1) (F 2) (F 3) (F 4) (F 5) (F 6) (F 7) (F 8) (F 10) (F 13) (F 14) (F 15) (F 16) (F 17) (F 18) f_34 (F 20) (F 21) (F 22) (F 23) (F 24) (F 25) f_35 (upd f_36 (Int32.toNatClampNeg x_33) (vp_nar .boolean 0)) (F 28) (F 29) (F 30) (F 31) (F 32) (F 33) (F 34) (F 35) (F 36) (F 37) (F 38) (F 39) (F 40) (F 41) (F 42) (F 43) (F 49) (F 50) (F 51) (F 52) (F 53) (F 54) (F 55) (F 56) (F 57) (F 58) (F 59) (n 9) (n 11) (n 12) (n 44) (n 45) (n 46) (n 47) (n 48)) H := hP
            have hD : va_D A (w10 h0 X C (F 0) (F 1) (F 2) (F 3) (F 4) (F 5) (F 6) (F 7) (F 8) (F 10) (F 13) (F 14) (F 15) (F 16) (F 17) (F 18) f_34 (F 20) (F 21) (F 22) (F 23) (F 24) (F 25) f_35 (upd f_36 (Int32.toNatClampNeg x_33) (vp_nar .boolean 0)) (F 28) (F 29) (F 30) (F 31) (F 32) (F 33) (F 34) (F 35) (F 36) (F 37) (F 38) (F 39) (F 40) (F 41) (F 42) (F 43) (F 49) (F 50) (F 51) (F 52) (F 53) (F 54) (F 55) (F 56) (F 57) (F 58) (F 59) (n 9) (n 11) (n 12) (n 44) (n 45) (n 46) (n 47) (n 48)) := hD
            refine lv_aload_n hx hb dX10_gathers_50 rfl (lv_at hl 3 rfl) ?_
            refine va_get (D := (dC, dI)) (ci := 10) (v := .ref (X 26)) (C := RX10) (T := TX10) (N := 60) hx hb hg gb_10 hown hK hP 0 rfl rfl 26 (by decide) (hg _ gm_fieldLink_RX10_84_ErrandGuildModel_wasWaited_AZ_) (fun _ h9 => h9) rfl dX10_gathers_51 ?_
            refine lv_iload hx hb dX10_gathers_54 (lv_at hl 0 rfl) ?_
            refine lv_iconst (v := 1) hx hb dX10_gathers_56 (by decide) ?_
            refine va_zast (f := f_35) hx hb hK hP hD hS 24 23 rfl rfl (vp_in_iff.mpr ⟨by omega, by omega⟩) dX10_gathers_57 (fun H locs hP hD hS => ?_)
            have hP : va_P (dC, dI) vwCl (w10 h0 X C (F 0) (F 1) (F 2) (F 3) (F 4) (F 5) (F 6) (F 7) (F 8) (F 10) (F 13) (F 14) (F 15) (F 16) (F 17) (F 18) f_34 (F 20) (F 21) (F 22) (F 23) (F 24) (F 25) (upd f_35 (Int32.toNatClampNeg x_33) (vp_nar .boolean 1)) (upd f_36 (Int32.toNatClampNeg x_33) (vp_nar .boolean 0)) (F 28) (F 29) (F 30) (F 31) (F 32) (F 33) (F 34) (F 35) (F 36) (F 37) (F 38) (F 39) (F 40) (F 41) (F 42) (F 43) (F 49) (F 50) (F 51) (F 52) (F 53) (F 54) (F 55) (F 56) (F 57) (F 58) (F 59) (n 9) (n 11) (n 12) (n 44) (n 45) (n 46) (n 47) (n 48)) H := hP
            have hD : va_D A (w10 h0 X C (F 0) (F 1) (F 2) (F 3) (F 4) (F 5) (F 6) (F 7) (F 8) (F 10) (F 13) (F 14) (F 15) (F 16) (F 17) (F 18) f_34 (F 20) (F 21) (F 22) (F 23) (F 24) (F 25) (upd f_35 (Int32.toNatClampNeg x_33) (vp_nar .boolean 1)) (upd f_36 (Int32.toNatClampNeg x_33) (vp_nar .boolean 0)) (F 28) (F 29) (F 30) (F 31) (F 32) (F 33) (F 34) (F 35) (F 36) (F 37) (F 38) (F 39) (F 40) (F 41) (F 42) (F 43) (F 49) (F 50) (F 51) (F 52) (F 53) (F 54) (F 55) (F 56) (F 57) (F 58) (F 59) (n 9) (n 11) (n 12) (n 44) (n 45) (n 46) (n 47) (n 48)) := hD
            refine lv_aload_n hx hb dX10_gathers_58 rfl (lv_at hl 3 rfl) ?_
            refine va_get (D := (dC, dI)) (ci := 10) (v := .ref (X 13)) (C := RX10) (T := TX10) (N := 60) hx hb hg gb_10 hown hK hP 0 rfl rfl 13 (by decide) (hg _ gm_fieldLink_RX10_45_ErrandGuildModel_state_AI_) (fun _ h9 => h9) rfl dX10_gathers_59 ?_
            refine lv_iload hx hb dX10_gathers_62 (lv_at hl 0 rfl) ?_
            refine va_iald (f := F 13) hx hb hK hP 11 10 rfl rfl (vp_in_iff.mpr ⟨by omega, by omega⟩) dX10_gathers_64 ?_
            refine lv_topi (fun z_93 ez_93 => ?_)
            have qz_93 := congrArg Int32.toInt ez_93
            have bz_93 := bd_at b_3 ez_93
            refine lv_iconst (v := 3) hx hb dX10_gathers_65 (by decide) ?_
            refine lv_icmp_ne (tgt := 92) hx hb dX10_gathers_66 (by decide) (fun c_94 => ?_) (fun c_94 => ?_)
            · simp only [i_lt, i_le, i_eq, ti_3] at c_94
              refine lv_iload_n hx hb dX10_gathers_92 rfl (lv_at hl 2 rfl) ?_
              refine lv_iconst (v := -1) hx hb dX10_gathers_93 (by decide) ?_
              refine lv_icmp_ne (tgt := 100) hx hb dX10_gathers_94 (by decide) (fun c_95 => ?_) (fun c_95 => ?_)
              · simp only [i_lt, i_le, i_eq, ti_m1] at c_95
                refine lv_iload_n hx hb dX10_gathers_100 rfl (lv_at hl 1 rfl) ?_
                refine lv_iconst (v := 1) hx hb dX10_gathers_101 (by decide) ?_
                refine lv_iadd hx hb dX10_gathers_102 ?_
                refine lv_topi (fun z_96 ez_96 => ?_)
                have tz_96 : z_96.toInt = x_32.toInt + 1 := ar_add rfl ti_1 ez_96 (by omega)
                refine lv_istore_n (lv' := [(3, .int z_96), (4, .int x_33), (2, .int x_31), (0, .ref h0), (1, .int v1)]) hx hb dX10_gathers_103 rfl hl (by decide) rfl (fun ls hl => ?_)
                obtain ⟨y_97, ey_97⟩ : ∃ q : Int32, q = x_33 + (1) := ⟨_, rfl⟩
                refine lv_iinc (v := y_97) (lv' := [(4, .int y_97), (3, .int z_96), (2, .int x_31), (0, .ref h0), (1, .int v1)]) hx hb dX10_gathers_104 hl (k := 1) rfl (by rw [ey_97]; rfl) (by decide) rfl (fun ls hl => ?_)
                have ty_97 : y_97.toInt = x_33.toInt + (1) := ar_add rfl ti_1 ey_97 (by omega)
                refine lv_goto (tgt := 9) hx hb dX10_gathers_107 (by decide) ?_
                exact ih_37 x_31 z_96 y_97 f_34 (upd f_35 (Int32.toNatClampNeg x_33) (vp_nar .boolean 1)) (upd f_36 (Int32.toNatClampNeg x_33) (vp_nar .boolean 0))  H locs ls (by omega) (by omega) (by omega) (by omega) hP hD hS (lv_sub hl [0, 1, 2, 3, 4] rfl)
              · simp only [i_lt, i_le, i_eq, ti_m1] at c_95
                refine lv_iload hx hb dX10_gathers_97 (lv_at hl 0 rfl) ?_
                refine lv_istore_n (lv' := [(2, .int x_33), (4, .int x_33), (3, .int x_32), (0, .ref h0), (1, .int v1)]) hx hb dX10_gathers_99 rfl hl (by decide) rfl (fun ls hl => ?_)
                refine lv_iload_n hx hb dX10_gathers_100 rfl (lv_at hl 2 rfl) ?_
                refine lv_iconst (v := 1) hx hb dX10_gathers_101 (by decide) ?_
                refine lv_iadd hx hb dX10_gathers_102 ?_
                refine lv_topi (fun z_98 ez_98 => ?_)
                have tz_98 : z_98.toInt = x_32.toInt + 1 := ar_add rfl ti_1 ez_98 (by omega)
                refine lv_istore_n (lv' := [(3, .int z_98), (2, .int x_33), (4, .int x_33), (0, .ref h0), (1, .int v1)]) hx hb dX10_gathers_103 rfl hl (by decide) rfl (fun ls hl => ?_)
                obtain ⟨y_99, ey_99⟩ : ∃ q : Int32, q = x_33 + (1) := ⟨_, rfl⟩
                refine lv_iinc (v := y_99) (lv' := [(4, .int y_99), (3, .int z_98), (2, .int x_33), (0, .ref h0), (1, .int v1)]) hx hb dX10_gathers_104 hl (k := 2) rfl (by rw [ey_99]; rfl) (by decide) rfl (fun ls hl => ?_)
                have ty_99 : y_99.toInt = x_33.toInt + (1) := ar_add rfl ti_1 ey_99 (by omega)
                refine lv_goto (tgt := 9) hx hb dX10_gathers_107 (by decide) ?_
                exact ih_37 x_33 z_98 y_99 f_34 (upd f_35 (Int32.toNatClampNeg x_33) (vp_nar .boolean 1)) (upd f_36 (Int32.toNatClampNeg x_33) (vp_nar .boolean 0))  H locs ls (by omega) (by omega) (by omega) (by omega) hP hD hS (lv_sub hl [0, 1, 2, 3, 4] rfl)
            · simp only [i_lt, i_le, i_eq, ti_3] at c_94
              refine lv_aload_n hx hb dX10_gathers_69 rfl (lv_at hl 3 rfl) ?_
              refine va_get (D := (dC, dI)) (ci := 10) (v := .ref (X 19)) (C := RX10) (T := TX10) (N := 60) hx hb hg gb_10 hown hK hP 0 rfl rfl 19 (by decide) (hg _ gm_fieldLink_RX10_63_ErrandGuildModel_sum_AI_) (fun _ h9 => h9) rfl dX10_gathers_70 ?_
              refine lv_iload_n hx hb dX10_gathers_73 rfl (lv_at hl 4 rfl) ?_
              refine lv_aload_n hx hb dX10_gathers_74 rfl (lv_at hl 3 rfl) ?_
              refine va_get (D := (dC, dI)) (ci := 10) (v := .ref (X 19)) (C := RX10) (T := TX10) (N := 60) hx hb hg gb_10 hown hK hP 0 rfl rfl 19 (by decide) (hg _ gm_fieldLink_RX10_63_ErrandGuildModel_sum_AI_) (fun _ h9 => h9) rfl dX10_gathers_75 ?_
              refine lv_iload_n hx hb dX10_gathers_78 rfl (lv_at hl 4 rfl) ?_
              refine va_iald (f := f_34) hx hb hK hP 17 16 rfl rfl (vp_in_iff.mpr ⟨by omega, by omega⟩) dX10_gathers_79 ?_
              refine lv_topi (fun z_100 ez_100 => ?_)
              have qz_100 := congrArg Int32.toInt ez_100
              refine lv_aload_n hx hb dX10_gathers_80 rfl (lv_at hl 3 rfl) ?_
              refine va_get (D := (dC, dI)) (ci := 10) (v := .ref (X 19)) (C := RX10) (T := TX10) (N := 60) hx hb hg gb_10 hown hK hP 0 rfl rfl 19 (by decide) (hg _ gm_fieldLink_RX10_63_ErrandGuildModel_sum_AI_) (fun _ h9 => h9) rfl dX10_gathers_81 ?_
              refine lv_iload hx hb dX10_gathers_84 (lv_at hl 0 rfl) ?_
              refine va_iald (f := f_34) hx hb hK hP 17 16 rfl rfl (vp_in_iff.mpr ⟨by omega, by omega⟩) dX10_gathers_86 ?_
              refine lv_topi (fun z_101 ez_101 => ?_)
              have qz_101 := congrArg Int32.toInt ez_101
              refine lv_iadd hx hb dX10_gathers_87 ?_
              refine lv_topi (fun z_102 ez_102 => ?_)
              refine va_iast (f := f_34) hx hb hK hP hD hS 17 16 rfl rfl (vp_in_iff.mpr ⟨by omega, by omega⟩) dX10_gathers_88 (fun H locs hP hD hS => ?_)
              have hP : va_P (dC, dI) vwCl (w10 h0 X C (F 0) (F 1) (F 2) (F 3) (F 4) (F 5) (F 6) (F 7) (F 8) (F 10) (F 13) (F 14) (F 15) (F 16) (F 17) (F 18) (upd f_34 (Int32.toNatClampNeg v1) z_102) (F 20) (F 21) (F 22) (F 23) (F 24) (F 25) (upd f_35 (Int32.toNatClampNeg x_33) (vp_nar .boolean 1)) (upd f_36 (Int32.toNatClampNeg x_33) (vp_nar .boolean 0)) (F 28) (F 29) (F 30) (F 31) (F 32) (F 33) (F 34) (F 35) (F 36) (F 37) (F 38) (F 39) (F 40) (F 41) (F 42) (F 43) (F 49) (F 50) (F 51) (F 52) (F 53) (F 54) (F 55) (F 56) (F 57) (F 58) (F 59) (n 9) (n 11) (n 12) (n 44) (n 45) (n 46) (n 47) (n 48)) H := hP
              have hD : va_D A (w10 h0 X C (F 0) (F 1) (F 2) (F 3) (F 4) (F 5) (F 6) (F 7) (F 8) (F 10) (F 13) (F 14) (F 15) (F 16) (F 17) (F 18) (upd f_34 (Int32.toNatClampNeg v1) z_102) (F 20) (F 21) (F 22) (F 23) (F 24) (F 25) (upd f_35 (Int32.toNatClampNeg x_33) (vp_nar .boolean 1)) (upd f_36 (Int32.toNatClampNeg x_33) (vp_nar .boolean 0)) (F 28) (F 29) (F 30) (F 31) (F 32) (F 33) (F 34) (F 35) (F 36) (F 37) (F 38) (F 39) (F 40) (F 41) (F 42) (F 43) (F 49) (F 50) (F 51) (F 52) (F 53) (F 54) (F 55) (F 56) (F 57) (F 58) (F 59) (n 9) (n 11) (n 12) (n 44) (n 45) (n 46) (n 47) (n 48)) := hD
              refine lv_goto (tgt := 104) hx hb dX10_gathers_89 (by decide) ?_
              obtain ⟨y_103, ey_103⟩ : ∃ q : Int32, q = x_33 + (1) := ⟨_, rfl⟩
              refine lv_iinc (v := y_103) (lv' := [(4, .int y_103), (3, .int x_32), (2, .int x_31), (0, .ref h0), (1, .int v1)]) hx hb dX10_gathers_104 hl (k := 0) rfl (by rw [ey_103]; rfl) (by decide) rfl (fun ls hl => ?_)
              have ty_103 : y_103.toInt = x_33.toInt + (1) := ar_add rfl ti_1 ey_103 (by omega)
              refine lv_goto (tgt := 9) hx hb dX10_gathers_107 (by decide) ?_
              exact ih_37 x_31 x_32 y_103 (upd f_34 (Int32.toNatClampNeg v1) z_102) (upd f_35 (Int32.toNatClampNeg x_33) (vp_nar .boolean 1)) (upd f_36 (Int32.toNatClampNeg x_33) (vp_nar .boolean 0))  H locs ls (by omega) (by omega) (by omega) (by omega) hP hD hS (lv_sub hl [0, 1, 2, 3, 4] rfl)
          · simp only [i_lt, i_le, i_eq, ti_0] at c_92
            refine lv_goto (tgt := 104) hx hb dX10_gathers_39 (by decide) ?_
            obtain ⟨y_104, ey_104⟩ : ∃ q : Int32, q = x_33 + (1) := ⟨_, rfl⟩
            refine lv_iinc (v := y_104) (lv' := [(4, .int y_104), (3, .int x_32), (2, .int x_31), (0, .ref h0), (1, .int v1)]) hx hb dX10_gathers_104 hl (k := 0) rfl (by rw [ey_104]; rfl) (by decide) rfl (fun ls hl => ?_)
            have ty_104 : y_104.toInt = x_33.toInt + (1) := ar_add rfl ti_1 ey_104 (by omega)
            refine lv_goto (tgt := 9) hx hb dX10_gathers_107 (by decide) ?_
            exact ih_37 x_31 x_32 y_104 f_34 f_35 f_36  H locs ls (by omega) (by omega) (by omega) (by omega) hP hD hS (lv_sub hl [0, 1, 2, 3, 4] rfl)
  exact L9 _ (-1) (0) z_30 (F 19) (F 26) (F 27)  _ _ _ (Nat.lt_succ_self _) (by have t_0 := ti_m1; have t_1 := ti_0; omega) (by have t_0 := ti_m1; have t_1 := ti_0; omega) (by have t_0 := ti_m1; have t_1 := ti_0; omega) hP hD hS (lv_sub hl [0, 1, 2, 3, 4] rfl)

set_option maxHeartbeats 8000000 in
set_option maxRecDepth 100000 in
theorem c_X10_writes (l : Launch) (dC : Nat → ClassId) (dI : Nat → Nat → Nat) (kp : Int) (h0 : Nat) (X : Nat → Nat) (C : Nat → ClassId) (F : Nat → Nat → Int32) (n : Nat → Int32) (v1 : Int32) (v2 : Int32) (v3 : Int32) (sz : Nat) (hI : I10 kp F n) (hr : 0 ≤ v1.toInt ∧ v1.toInt < 200) (hs : 0 ≤ v2.toInt ∧ v2.toInt < 8) : Met l yX10_writes (.code yX10_writes cX10_writes 5 (some .boolean) :: gw) ({ frames := 1, cells := 0, slots := 0, locals := 23 }) (va_Pc [.ref h0, .int v1, .int v2, .int v3] (fun U => U.heap.size = sz ∧ va_P (dC, dI) vwCl (w10 h0 X C (F 0) (F 1) (F 2) (F 3) (F 4) (F 5) (F 6) (F 7) (F 8) (F 10) (F 13) (F 14) (F 15) (F 16) (F 17) (F 18) (F 19) (F 20) (F 21) (F 22) (F 23) (F 24) (F 25) (F 26) (F 27) (F 28) (F 29) (F 30) (F 31) (F 32) (F 33) (F 34) (F 35) (F 36) (F 37) (F 38) (F 39) (F 40) (F 41) (F 42) (F 43) (F 49) (F 50) (F 51) (F 52) (F 53) (F 54) (F 55) (F 56) (F 57) (F 58) (F 59) (n 9) (n 11) (n 12) (n 44) (n 45) (n 46) (n 47) (n 48)) U.heap ∧ va_K (dC, dI) vwCl (t10 C) U ∧ va_D (fun _ => True) (w10 h0 X C (F 0) (F 1) (F 2) (F 3) (F 4) (F 5) (F 6) (F 7) (F 8) (F 10) (F 13) (F 14) (F 15) (F 16) (F 17) (F 18) (F 19) (F 20) (F 21) (F 22) (F 23) (F 24) (F 25) (F 26) (F 27) (F 28) (F 29) (F 30) (F 31) (F 32) (F 33) (F 34) (F 35) (F 36) (F 37) (F 38) (F 39) (F 40) (F 41) (F 42) (F 43) (F 49) (F 50) (F 51) (F 52) (F 53) (F 54) (F 55) (F 56) (F 57) (F 58) (F 59) (n 9) (n 11) (n 12) (n 44) (n 45) (n 46) (n 47) (n 48)) ∧ nx U)) (va_Qi (fun (r : Int32) (u : (Nat → Nat → Int32) × (Nat → Int32)) => (r = 1 ∧ (u.1 13 (Int32.toNatClampNeg v1)).toInt = (F 13 (Int32.toNatClampNeg v1)).toInt ∧ (u.1 20 (Int32.toNatClampNeg v1)).toInt = (F 20 (Int32.toNatClampNeg v1)).toInt ∧ (u.1 24 (Int32.toNatClampNeg v1)).toInt = (F 24 (Int32.toNatClampNeg v1)).toInt ∧ (n 11).toInt ≤ (u.2 11).toInt) ∨ (r = 0 ∧ (u.1 13 (Int32.toNatClampNeg v1)).toInt = (F 13 (Int32.toNatClampNeg v1)).toInt ∧ (u.1 20 (Int32.toNatClampNeg v1)).toInt = (F 20 (Int32.toNatClampNeg v1)).toInt ∧ (u.1 24 (Int32.toNatClampNeg v1)).toInt = (F 24 (Int32.toNatClampNeg v1)).toInt ∧ (n 11).toInt ≤ (u.2 11).toInt)) (fun u t => va_P (dC, dI) vwCl (w10 h0 X C (u.1 0) (u.1 1) (u.1 2) (u.1 3) (u.1 4) (u.1 5) (u.1 6) (u.1 7) (u.1 8) (u.1 10) (u.1 13) (u.1 14) (u.1 15) (u.1 16) (u.1 17) (u.1 18) (u.1 19) (u.1 20) (u.1 21) (u.1 22) (u.1 23) (u.1 24) (u.1 25) (u.1 26) (u.1 27) (u.1 28) (u.1 29) (u.1 30) (u.1 31) (u.1 32) (u.1 33) (u.1 34) (u.1 35) (u.1 36) (u.1 37) (u.1 38) (u.1 39) (u.1 40) (u.1 41) (u.1 42) (u.1 43) (u.1 49) (u.1 50) (u.1 51) (u.1 52) (u.1 53) (u.1 54) (u.1 55) (u.1 56) (u.1 57) (u.1 58) (u.1 59) (u.2 9) (u.2 11) (u.2 12) (u.2 44) (u.2 45) (u.2 46) (u.2 47) (u.2 48)) t.heap ∧ va_D (va_A (w10 h0 X C (F 0) (F 1) (F 2) (F 3) (F 4) (F 5) (F 6) (F 7) (F 8) (F 10) (F 13) (F 14) (F 15) (F 16) (F 17) (F 18) (F 19) (F 20) (F 21) (F 22) (F 23) (F 24) (F 25) (F 26) (F 27) (F 28) (F 29) (F 30) (F 31) (F 32) (F 33) (F 34) (F 35) (F 36) (F 37) (F 38) (F 39) (F 40) (F 41) (F 42) (F 43) (F 49) (F 50) (F 51) (F 52) (F 53) (F 54) (F 55) (F 56) (F 57) (F 58) (F 59) (n 9) (n 11) (n 12) (n 44) (n 45) (n 46) (n 47) (n 48)) sz) (w10 h0 X C (u.1 0) (u.1 1) (u.1 2) (u.1 3) (u.1 4) (u.1 5) (u.1 6) (u.1 7) (u.1 8) (u.1 10) (u.1 13) (u.1 14) (u.1 15) (u.1 16) (u.1 17) (u.1 18) (u.1 19) (u.1 20) (u.1 21) (u.1 22) (u.1 23) (u.1 24) (u.1 25) (u.1 26) (u.1 27) (u.1 28) (u.1 29) (u.1 30) (u.1 31) (u.1 32) (u.1 33) (u.1 34) (u.1 35) (u.1 36) (u.1 37) (u.1 38) (u.1 39) (u.1 40) (u.1 41) (u.1 42) (u.1 43) (u.1 49) (u.1 50) (u.1 51) (u.1 52) (u.1 53) (u.1 54) (u.1 55) (u.1 56) (u.1 57) (u.1 58) (u.1 59) (u.2 9) (u.2 11) (u.2 12) (u.2 44) (u.2 45) (u.2 46) (u.2 47) (u.2 48)) ∧ I10 kp u.1 u.2) (va_A (w10 h0 X C (F 0) (F 1) (F 2) (F 3) (F 4) (F 5) (F 6) (F 7) (F 8) (F 10) (F 13) (F 14) (F 15) (F 16) (F 17) (F 18) (F 19) (F 20) (F 21) (F 22) (F 23) (F 24) (F 25) (F 26) (F 27) (F 28) (F 29) (F 30) (F 31) (F 32) (F 33) (F 34) (F 35) (F 36) (F 37) (F 38) (F 39) (F 40) (F 41) (F 42) (F 43) (F 49) (F 50) (F 51) (F 52) (F 53) (F 54) (F 55) (F 56) (F 57) (F 58) (F 59) (n 9) (n 11) (n 12) (n 44) (n 45) (n 46) (n 47) (n 48)) sz)) 0 0 (va_A (w10 h0 X C (F 0) (F 1) (F 2) (F 3) (F 4) (F 5) (F 6) (F 7) (F 8) (F 10) (F 13) (F 14) (F 15) (F 16) (F 17) (F 18) (F 19) (F 20) (F 21) (F 22) (F 23) (F 24) (F 25) (F 26) (F 27) (F 28) (F 29) (F 30) (F 31) (F 32) (F 33) (F 34) (F 35) (F 36) (F 37) (F 38) (F 39) (F 40) (F 41) (F 42) (F 43) (F 49) (F 50) (F 51) (F 52) (F 53) (F 54) (F 55) (F 56) (F 57) (F 58) (F 59) (n 9) (n 11) (n 12) (n 44) (n 45) (n 46) (n 47) (n 48)) sz) := by
  refine Met.ofW (cc := cX10_writes) (maxL := 5) (ret := (some .boolean)) (by decide) rfl ?_
  intro p e s m args below meth c s₁ B hml hv
  obtain ⟨rfl, hsz, hP, hK, hD0, hN⟩ := hv
  have hx := B.exec
  have hb := B.bytes
  have hr := B.returns
  have hts := atoms_spec (ws := .code yX10_writes cX10_writes 5 (some .boolean) :: gw) B.pre
  have hg : ∀ w ∈ gw, w.before _ s = true := fun w h => hts w (List.mem_cons_of_mem _ h)
  have hown : s.vm.findClass RX10 = some m.cls := findClass_of_methodNamed B.named
  have hlocks := B.notSynchronized
  subst hsz
  have hD := hD0.self (sz := s.heap.size)
  generalize hAe : va_A (w10 h0 X C (F 0) (F 1) (F 2) (F 3) (F 4) (F 5) (F 6) (F 7) (F 8) (F 10) (F 13) (F 14) (F 15) (F 16) (F 17) (F 18) (F 19) (F 20) (F 21) (F 22) (F 23) (F 24) (F 25) (F 26) (F 27) (F 28) (F 29) (F 30) (F 31) (F 32) (F 33) (F 34) (F 35) (F 36) (F 37) (F 38) (F 39) (F 40) (F 41) (F 42) (F 43) (F 49) (F 50) (F 51) (F 52) (F 53) (F 54) (F 55) (F 56) (F 57) (F 58) (F 59) (n 9) (n 11) (n 12) (n 44) (n 45) (n 46) (n 47) (n 48)) s.heap.size = A at hD ⊢
  have hA : ∀ q : Nat, s.heap.size ≤ q → A q := fun q h => by rw [← hAe]; exact Or.inr h
  have hS : va_S A s.heap s.heap [] := va_S.rf
  have hP : va_P (dC, dI) vwCl (w10 h0 X C (F 0) (F 1) (F 2) (F 3) (F 4) (F 5) (F 6) (F 7) (F 8) (F 10) (F 13) (F 14) (F 15) (F 16) (F 17) (F 18) (F 19) (F 20) (F 21) (F 22) (F 23) (F 24) (F 25) (F 26) (F 27) (F 28) (F 29) (F 30) (F 31) (F 32) (F 33) (F 34) (F 35) (F 36) (F 37) (F 38) (F 39) (F 40) (F 41) (F 42) (F 43) (F 49) (F 50) (F 51) (F 52) (F 53) (F 54) (F 55) (F 56) (F 57) (F 58) (F 59) (n 9) (n 11) (n 12) (n 44) (n 45) (n 46) (n 47) (n 48)) s.heap := hP
  have hl := lv_entry ([.ref h0, .int v1, .int v2, .int v3]) (n := 5) (Nat.le_of_ble_eq_true rfl)
  rw [lg_entry_eq]
  generalize (lg_sl ([.ref h0, .int v1, .int v2, .int v3]) ++ List.replicate (5 - (lg_sl ([.ref h0, .int v1, .int v2, .int v3])).length) Slot.unset).toArray = ls at hl ⊢
  have hl : lv_has ls 5 [(0, .ref h0), (1, .int v1), (2, .int v2), (3, .int v3)] := hl
  obtain ⟨b_1, b_2, b_3, b_4, b_5, b_6, b_7, b_8, b_9, b_10, b_11, b_12, i_13, i_14, i_15, i_16, i_17, i_18, i_19, j_20, j_21, j_22, j_23, j_24, j_25, j_26, j_27, j_28, j_29⟩ := id hI
  refine lv_aload_n hx hb dX10_writes_0 rfl (lv_at hl 0 rfl) ?_
  refine va_get (D := (dC, dI)) (ci := 10) (v := .ref (X 0)) (C := RX10) (T := TX10) (N := 60) hx hb hg gb_10 hown hK hP 0 rfl rfl 0 (by decide) (hg _ gm_fieldLink_RX10_7_ErrandGuildModel_manner_AI_) (fun _ h9 => h9) rfl dX10_writes_1 ?_
  refine lv_iload_n hx hb dX10_writes_4 rfl (lv_at hl 2 rfl) ?_
  refine va_iald (f := F 0) hx hb hK hP 1 0 rfl rfl (vp_in_iff.mpr ⟨by omega, by omega⟩) dX10_writes_5 ?_
  refine lv_topi (fun z_30 ez_30 => ?_)
  have qz_30 := congrArg Int32.toInt ez_30
  refine lv_iconst (v := 3) hx hb dX10_writes_6 (by decide) ?_
  refine lv_icmp_ne (tgt := 36) hx hb dX10_writes_7 (by decide) (fun c_31 => ?_) (fun c_31 => ?_)
  · simp only [i_lt, i_le, i_eq, ti_3] at c_31
    refine lv_bipush (v := 8) hx hb dX10_writes_36 (by decide) ?_
    refine lv_aload_n hx hb dX10_writes_38 rfl (lv_at hl 0 rfl) ?_
    refine va_get (D := (dC, dI)) (ci := 10) (v := .ref (X 0)) (C := RX10) (T := TX10) (N := 60) hx hb hg gb_10 hown hK hP 0 rfl rfl 0 (by decide) (hg _ gm_fieldLink_RX10_7_ErrandGuildModel_manner_AI_) (fun _ h9 => h9) rfl dX10_writes_39 ?_
    refine lv_iload_n hx hb dX10_writes_42 rfl (lv_at hl 2 rfl) ?_
    refine va_iald (f := F 0) hx hb hK hP 1 0 rfl rfl (vp_in_iff.mpr ⟨by omega, by omega⟩) dX10_writes_43 ?_
    refine lv_topi (fun z_32 ez_32 => ?_)
    obtain rfl : z_30 = z_32 := ez_30.trans ez_32.symm
    refine lv_iconst (v := 2) hx hb dX10_writes_44 (by decide) ?_
    refine lv_icmp_ne (tgt := 57) hx hb dX10_writes_45 (by decide) (fun c_33 => ?_) (fun c_33 => ?_)
    · simp only [i_lt, i_le, i_eq, ti_2] at c_33
      refine lv_iload_n hx hb dX10_writes_57 rfl (lv_at hl 1 rfl) ?_
      refine lv_imul hx hb dX10_writes_58 ?_
      refine lv_topi (fun z_34 ez_34 => ?_)
      have tz_34 : z_34.toInt = 8 * v1.toInt := ar_mul ti_8 rfl ez_34 (by omega)
      refine lv_iload_n hx hb dX10_writes_59 rfl (lv_at hl 2 rfl) ?_
      refine lv_iadd hx hb dX10_writes_60 ?_
      refine lv_topi (fun z_35 ez_35 => ?_)
      have tz_35 : z_35.toInt = z_34.toInt + v2.toInt := ar_add rfl rfl ez_35 (by omega)
      refine lv_istore (lv' := [(4, .int z_35), (0, .ref h0), (1, .int v1), (2, .int v2), (3, .int v3)]) hx hb dX10_writes_61 hl (by decide) rfl (fun ls hl => ?_)
      refine lv_aload_n hx hb dX10_writes_63 rfl (lv_at hl 1 rfl) ?_
      refine va_get (D := (dC, dI)) (ci := 10) (v := .ref (X 34)) (C := RX10) (T := TX10) (N := 60) hx hb hg gb_10 hown hK hP 0 rfl rfl 34 (by decide) (hg _ gm_fieldLink_RX10_108_ErrandGuildModel_wrote_AI_) (fun _ h9 => h9) rfl dX10_writes_64 ?_
      refine lv_iload hx hb dX10_writes_67 (lv_at hl 0 rfl) ?_
      refine lv_iload_n hx hb dX10_writes_69 rfl (lv_at hl 4 rfl) ?_
      refine va_iast (f := F 34) hx hb hK hP hD hS 32 31 rfl rfl (vp_in_iff.mpr ⟨by omega, by omega⟩) dX10_writes_70 (fun H locs hP hD hS => ?_)
      have hP : va_P (dC, dI) vwCl (w10 h0 X C (F 0) (F 1) (F 2) (F 3) (F 4) (F 5) (F 6) (F 7) (F 8) (F 10) (F 13) (F 14) (F 15) (F 16) (F 17) (F 18) (F 19) (F 20) (F 21) (F 22) (F 23) (F 24) (F 25) (F 26) (F 27) (F 28) (F 29) (F 30) (F 31) (F 32) (F 33) (upd (F 34) (Int32.toNatClampNeg z_35) v3) (F 35) (F 36) (F 37) (F 38) (F 39) (F 40) (F 41) (F 42) (F 43) (F 49) (F 50) (F 51) (F 52) (F 53) (F 54) (F 55) (F 56) (F 57) (F 58) (F 59) (n 9) (n 11) (n 12) (n 44) (n 45) (n 46) (n 47) (n 48)) H := hP
      have hD : va_D A (w10 h0 X C (F 0) (F 1) (F 2) (F 3) (F 4) (F 5) (F 6) (F 7) (F 8) (F 10) (F 13) (F 14) (F 15) (F 16) (F 17) (F 18) (F 19) (F 20) (F 21) (F 22) (F 23) (F 24) (F 25) (F 26) (F 27) (F 28) (F 29) (F 30) (F 31) (F 32) (F 33) (upd (F 34) (Int32.toNatClampNeg z_35) v3) (F 35) (F 36) (F 37) (F 38) (F 39) (F 40) (F 41) (F 42) (F 43) (F 49) (F 50) (F 51) (F 52) (F 53) (F 54) (F 55) (F 56) (F 57) (F 58) (F 59) (n 9) (n 11) (n 12) (n 44) (n 45) (n 46) (n 47) (n 48)) := hD
      refine lv_aload_n hx hb dX10_writes_71 rfl (lv_at hl 1 rfl) ?_
      refine va_get (D := (dC, dI)) (ci := 10) (v := .ref (X 35)) (C := RX10) (T := TX10) (N := 60) hx hb hg gb_10 hown hK hP 0 rfl rfl 35 (by decide) (hg _ gm_fieldLink_RX10_111_ErrandGuildModel_hasWritten_AZ_) (fun _ h9 => h9) rfl dX10_writes_72 ?_
      refine lv_iload hx hb dX10_writes_75 (lv_at hl 0 rfl) ?_
      refine lv_iconst (v := 1) hx hb dX10_writes_77 (by decide) ?_
      refine va_zast (f := F 35) hx hb hK hP hD hS 33 32 rfl rfl (vp_in_iff.mpr ⟨by omega, by omega⟩) dX10_writes_78 (fun H locs hP hD hS => ?_)
      have hP : va_P (dC, dI) vwCl (w10 h0 X C (F 0) (F 1) (F 2) (F 3) (F 4) (F 5) (F 6) (F 7) (F 8) (F 10) (F 13) (F 14) (F 15) (F 16) (F 17) (F 18) (F 19) (F 20) (F 21) (F 22) (F 23) (F 24) (F 25) (F 26) (F 27) (F 28) (F 29) (F 30) (F 31) (F 32) (F 33) (upd (F 34) (Int32.toNatClampNeg z_35) v3) (upd (F 35) (Int32.toNatClampNeg z_35) (vp_nar .boolean 1)) (F 36) (F 37) (F 38) (F 39) (F 40) (F 41) (F 42) (F 43) (F 49) (F 50) (F 51) (F 52) (F 53) (F 54) (F 55) (F 56) (F 57) (F 58) (F 59) (n 9) (n 11) (n 12) (n 44) (n 45) (n 46) (n 47) (n 48)) H := hP
      have hD : va_D A (w10 h0 X C (F 0) (F 1) (F 2) (F 3) (F 4) (F 5) (F 6) (F 7) (F 8) (F 10) (F 13) (F 14) (F 15) (F 16) (F 17) (F 18) (F 19) (F 20) (F 21) (F 22) (F 23) (F 24) (F 25) (F 26) (F 27) (F 28) (F 29) (F 30) (F 31) (F 32) (F 33) (upd (F 34) (Int32.toNatClampNeg z_35) v3) (upd (F 35) (Int32.toNatClampNeg z_35) (vp_nar .boolean 1)) (F 36) (F 37) (F 38) (F 39) (F 40) (F 41) (F 42) (F 43) (F 49) (F 50) (F 51) (F 52) (F 53) (F 54) (F 55) (F 56) (F 57) (F 58) (F 59) (n 9) (n 11) (n 12) (n 44) (n 45) (n 46) (n 47) (n 48)) := hD
      refine lv_iconst (v := 1) hx hb dX10_writes_79 (by decide) ?_
      exact W.zret (v := 1) hx hb hr rfl (fun t ht hW => ⟨⟨1, ((fun k => ([F 0, F 1, F 2, F 3, F 4, F 5, F 6, F 7, F 8, (fun _ => 0), F 10, (fun _ => 0), (fun _ => 0), F 13, F 14, F 15, F 16, F 17, F 18, F 19, F 20, F 21, F 22, F 23, F 24, F 25, F 26, F 27, F 28, F 29, F 30, F 31, F 32, F 33, upd (F 34) (Int32.toNatClampNeg z_35) v3, upd (F 35) (Int32.toNatClampNeg z_35) (vp_nar .boolean 1), F 36, F 37, F 38, F 39, F 40, F 41, F 42, F 43, (fun _ => 0), (fun _ => 0), (fun _ => 0), (fun _ => 0), (fun _ => 0), F 49, F 50, F 51, F 52, F 53, F 54, F 55, F 56, F 57, F 58, F 59] : List (Nat → Int32)).getD k (fun _ => 0)), n), rfl, (Or.inl ⟨rfl, ⟨rfl, rfl, rfl, Int.le_refl _⟩⟩), by rw [ht]; exact hP, hD, ⟨b_1, b_2, b_3, b_4, b_5, b_6, b_7, b_8, b_9, b_10, b_11, b_12, i_13, i_14, i_15, i_16, i_17, i_18, i_19, j_20, j_21, j_22, j_23, j_24, j_25, j_26, j_27, j_28, j_29⟩⟩, hS.F ht⟩) hS.2.2 dX10_writes_80
    · simp only [i_lt, i_le, i_eq, ti_2] at c_33
      refine lv_aload_n hx hb dX10_writes_48 rfl (lv_at hl 0 rfl) ?_
      refine va_get (D := (dC, dI)) (ci := 10) (v := .ref (X 16)) (C := RX10) (T := TX10) (N := 60) hx hb hg gb_10 hown hK hP 0 rfl rfl 16 (by decide) (hg _ gm_fieldLink_RX10_54_ErrandGuildModel_root_AI_) (fun _ h9 => h9) rfl dX10_writes_49 ?_
      refine lv_iload_n hx hb dX10_writes_52 rfl (lv_at hl 1 rfl) ?_
      refine va_iald (f := F 16) hx hb hK hP 14 13 rfl rfl (vp_in_iff.mpr ⟨by omega, by omega⟩) dX10_writes_53 ?_
      refine lv_topi (fun z_36 ez_36 => ?_)
      have qz_36 := congrArg Int32.toInt ez_36
      have bz_36 := bd_at b_6 ez_36
      refine lv_goto (tgt := 58) hx hb dX10_writes_54 (by decide) ?_
      refine lv_imul hx hb dX10_writes_58 ?_
      refine lv_topi (fun z_37 ez_37 => ?_)
      have tz_37 : z_37.toInt = 8 * z_36.toInt := ar_mul ti_8 rfl ez_37 (by omega)
      refine lv_iload_n hx hb dX10_writes_59 rfl (lv_at hl 2 rfl) ?_
      refine lv_iadd hx hb dX10_writes_60 ?_
      refine lv_topi (fun z_38 ez_38 => ?_)
      have tz_38 : z_38.toInt = z_37.toInt + v2.toInt := ar_add rfl rfl ez_38 (by omega)
      refine lv_istore (lv' := [(4, .int z_38), (0, .ref h0), (1, .int v1), (2, .int v2), (3, .int v3)]) hx hb dX10_writes_61 hl (by decide) rfl (fun ls hl => ?_)
      refine lv_aload_n hx hb dX10_writes_63 rfl (lv_at hl 1 rfl) ?_
      refine va_get (D := (dC, dI)) (ci := 10) (v := .ref (X 34)) (C := RX10) (T := TX10) (N := 60) hx hb hg gb_10 hown hK hP 0 rfl rfl 34 (by decide) (hg _ gm_fieldLink_RX10_108_ErrandGuildModel_wrote_AI_) (fun _ h9 => h9) rfl dX10_writes_64 ?_
      refine lv_iload hx hb dX10_writes_67 (lv_at hl 0 rfl) ?_
      refine lv_iload_n hx hb dX10_writes_69 rfl (lv_at hl 4 rfl) ?_
      refine va_iast (f := F 34) hx hb hK hP hD hS 32 31 rfl rfl (vp_in_iff.mpr ⟨by omega, by omega⟩) dX10_writes_70 (fun H locs hP hD hS => ?_)
      have hP : va_P (dC, dI) vwCl (w10 h0 X C (F 0) (F 1) (F 2) (F 3) (F 4) (F 5) (F 6) (F 7) (F 8) (F 10) (F 13) (F 14) (F 15) (F 16) (F 17) (F 18) (F 19) (F 20) (F 21) (F 22) (F 23) (F 24) (F 25) (F 26) (F 27) (F 28) (F 29) (F 30) (F 31) (F 32) (F 33) (upd (F 34) (Int32.toNatClampNeg z_38) v3) (F 35) (F 36) (F 37) (F 38) (F 39) (F 40) (F 41) (F 42) (F 43) (F 49) (F 50) (F 51) (F 52) (F 53) (F 54) (F 55) (F 56) (F 57) (F 58) (F 59) (n 9) (n 11) (n 12) (n 44) (n 45) (n 46) (n 47) (n 48)) H := hP
      have hD : va_D A (w10 h0 X C (F 0) (F 1) (F 2) (F 3) (F 4) (F 5) (F 6) (F 7) (F 8) (F 10) (F 13) (F 14) (F 15) (F 16) (F 17) (F 18) (F 19) (F 20) (F 21) (F 22) (F 23) (F 24) (F 25) (F 26) (F 27) (F 28) (F 29) (F 30) (F 31) (F 32) (F 33) (upd (F 34) (Int32.toNatClampNeg z_38) v3) (F 35) (F 36) (F 37) (F 38) (F 39) (F 40) (F 41) (F 42) (F 43) (F 49) (F 50) (F 51) (F 52) (F 53) (F 54) (F 55) (F 56) (F 57) (F 58) (F 59) (n 9) (n 11) (n 12) (n 44) (n 45) (n 46) (n 47) (n 48)) := hD
      refine lv_aload_n hx hb dX10_writes_71 rfl (lv_at hl 1 rfl) ?_
      refine va_get (D := (dC, dI)) (ci := 10) (v := .ref (X 35)) (C := RX10) (T := TX10) (N := 60) hx hb hg gb_10 hown hK hP 0 rfl rfl 35 (by decide) (hg _ gm_fieldLink_RX10_111_ErrandGuildModel_hasWritten_AZ_) (fun _ h9 => h9) rfl dX10_writes_72 ?_
      refine lv_iload hx hb dX10_writes_75 (lv_at hl 0 rfl) ?_
      refine lv_iconst (v := 1) hx hb dX10_writes_77 (by decide) ?_
      refine va_zast (f := F 35) hx hb hK hP hD hS 33 32 rfl rfl (vp_in_iff.mpr ⟨by omega, by omega⟩) dX10_writes_78 (fun H locs hP hD hS => ?_)
      have hP : va_P (dC, dI) vwCl (w10 h0 X C (F 0) (F 1) (F 2) (F 3) (F 4) (F 5) (F 6) (F 7) (F 8) (F 10) (F 13) (F 14) (F 15) (F 16) (F 17) (F 18) (F 19) (F 20) (F 21) (F 22) (F 23) (F 24) (F 25) (F 26) (F 27) (F 28) (F 29) (F 30) (F 31) (F 32) (F 33) (upd (F 34) (Int32.toNatClampNeg z_38) v3) (upd (F 35) (Int32.toNatClampNeg z_38) (vp_nar .boolean 1)) (F 36) (F 37) (F 38) (F 39) (F 40) (F 41) (F 42) (F 43) (F 49) (F 50) (F 51) (F 52) (F 53) (F 54) (F 55) (F 56) (F 57) (F 58) (F 59) (n 9) (n 11) (n 12) (n 44) (n 45) (n 46) (n 47) (n 48)) H := hP
      have hD : va_D A (w10 h0 X C (F 0) (F 1) (F 2) (F 3) (F 4) (F 5) (F 6) (F 7) (F 8) (F 10) (F 13) (F 14) (F 15) (F 16) (F 17) (F 18) (F 19) (F 20) (F 21) (F 22) (F 23) (F 24) (F 25) (F 26) (F 27) (F 28) (F 29) (F 30) (F 31) (F 32) (F 33) (upd (F 34) (Int32.toNatClampNeg z_38) v3) (upd (F 35) (Int32.toNatClampNeg z_38) (vp_nar .boolean 1)) (F 36) (F 37) (F 38) (F 39) (F 40) (F 41) (F 42) (F 43) (F 49) (F 50) (F 51) (F 52) (F 53) (F 54) (F 55) (F 56) (F 57) (F 58) (F 59) (n 9) (n 11) (n 12) (n 44) (n 45) (n 46) (n 47) (n 48)) := hD
      refine lv_iconst (v := 1) hx hb dX10_writes_79 (by decide) ?_
      exact W.zret (v := 1) hx hb hr rfl (fun t ht hW => ⟨⟨1, ((fun k => ([F 0, F 1, F 2, F 3, F 4, F 5, F 6, F 7, F 8, (fun _ => 0), F 10, (fun _ => 0), (fun _ => 0), F 13, F 14, F 15, F 16, F 17, F 18, F 19, F 20, F 21, F 22, F 23, F 24, F 25, F 26, F 27, F 28, F 29, F 30, F 31, F 32, F 33, upd (F 34) (Int32.toNatClampNeg z_38) v3, upd (F 35) (Int32.toNatClampNeg z_38) (vp_nar .boolean 1), F 36, F 37, F 38, F 39, F 40, F 41, F 42, F 43, (fun _ => 0), (fun _ => 0), (fun _ => 0), (fun _ => 0), (fun _ => 0), F 49, F 50, F 51, F 52, F 53, F 54, F 55, F 56, F 57, F 58, F 59] : List (Nat → Int32)).getD k (fun _ => 0)), n), rfl, (Or.inl ⟨rfl, ⟨rfl, rfl, rfl, Int.le_refl _⟩⟩), by rw [ht]; exact hP, hD, ⟨b_1, b_2, b_3, b_4, b_5, b_6, b_7, b_8, b_9, b_10, b_11, b_12, i_13, i_14, i_15, i_16, i_17, i_18, i_19, j_20, j_21, j_22, j_23, j_24, j_25, j_26, j_27, j_28, j_29⟩⟩, hS.F ht⟩) hS.2.2 dX10_writes_80
  · simp only [i_lt, i_le, i_eq, ti_3] at c_31
    refine lv_aload_n hx hb dX10_writes_10 rfl (lv_at hl 0 rfl) ?_
    refine lv_iload_n hx hb dX10_writes_11 rfl (lv_at hl 1 rfl) ?_
    refine lv_iload_n hx hb dX10_writes_12 rfl (lv_at hl 2 rfl) ?_
    have hFc := free_all hD hS hA
    refine va_calli (va_runV (As := [.int v1, .int v2]) (rest := []) ⟨hx, hb, hml, hown, hg⟩ (c_X10_binding l dC dI kp h0 X C F n v1 v2 s.heap.size ⟨b_1, b_2, b_3, b_4, b_5, b_6, b_7, b_8, b_9, b_10, b_11, b_12, i_13, i_14, i_15, i_16, i_17, i_18, i_19, j_20, j_21, j_22, j_23, j_24, j_25, j_26, j_27, j_28, j_29⟩ (by omega)) (cwV 2 hg (gw_V gm_methodLink_RX10_208_yX10_binding gm_instanceMethod_yX10_binding gm_selects_RX10_yX10_binding_yX10_binding gm_initialized_RX10 gm_code_yX10_binding_cX10_binding_4_some_int_) rfl rfl rfl (by decide +kernel) ⟨Nat.le_of_ble_eq_true rfl, Nat.le_of_ble_eq_true rfl⟩) ⟨fun a U g mk q => by obtain ⟨q0, q1, qP, qK, qD, qN⟩ := q; exact ⟨q0, q1, qP, va_K.moved (u := U) (U := U.calling g mk a) (Vm.Alike.refl U.vm) qK, qD, nx_same (u := U) (U := U.calling g mk a) rfl qN⟩, va_recv hK hP (ci := 10) (q0 := 0) rfl rfl, fun U hU hW => ⟨rfl, by rw [hU], by rw [hU]; exact hP, va_K.moved hW.alike hK, hD.weaken (fun _ _ _ _ => trivial), nx_warm hW hN⟩⟩ rfl rfl hl.1 rfl (lv_room (Nat.le_of_ble_eq_true rfl)) dX10_writes_13 ⟨Nat.le_of_ble_eq_true rfl, Nat.le_of_ble_eq_true rfl⟩) hS (fun q _ h => hFc q h) hFc (fun r_39 u_40 t H1 locs ht hvm hw hB hz1 hk1 hS => ?_)
    obtain ⟨hP, hD⟩ := hB
    rw [ht] at hP
    have hD := hD.weaken (fun k q _ h => hFc _ h)
    generalize H1 = H at hP hS ⊢
    have hP : va_P (dC, dI) vwCl (w10 h0 X C (F 0) (F 1) (F 2) (F 3) (F 4) (F 5) (F 6) (F 7) (F 8) (F 10) (F 13) (F 14) (F 15) (F 16) (F 17) (F 18) (F 19) (F 20) (F 21) (F 22) (F 23) (F 24) (F 25) (F 26) (F 27) (F 28) (F 29) (F 30) (F 31) (F 32) (F 33) (F 34) (F 35) (F 36) (F 37) (F 38) (F 39) (F 40) (F 41) (F 42) (F 43) (F 49) (F 50) (F 51) (F 52) (F 53) (F 54) (F 55) (F 56) (F 57) (F 58) (F 59) (n 9) (n 11) (n 12) (n 44) (n 45) (n 46) (n 47) (n 48)) H := hP
    have hD : va_D A (w10 h0 X C (F 0) (F 1) (F 2) (F 3) (F 4) (F 5) (F 6) (F 7) (F 8) (F 10) (F 13) (F 14) (F 15) (F 16) (F 17) (F 18) (F 19) (F 20) (F 21) (F 22) (F 23) (F 24) (F 25) (F 26) (F 27) (F 28) (F 29) (F 30) (F 31) (F 32) (F 33) (F 34) (F 35) (F 36) (F 37) (F 38) (F 39) (F 40) (F 41) (F 42) (F 43) (F 49) (F 50) (F 51) (F 52) (F 53) (F 54) (F 55) (F 56) (F 57) (F 58) (F 59) (n 9) (n 11) (n 12) (n 44) (n 45) (n 46) (n 47) (n 48)) := hD
    have w_41 : -1 ≤ r_39.toInt ∧ r_39.toInt < 4800 := hw
    try simp only [upd_eq] at w_41
    refine lv_istore (lv' := [(4, .int r_39), (0, .ref h0), (1, .int v1), (2, .int v2), (3, .int v3)]) hx hb dX10_writes_16 hl (by decide) rfl (fun ls hl => ?_)
    refine lv_iload hx hb dX10_writes_18 (lv_at hl 0 rfl) ?_
    refine lv_iconst (v := -1) hx hb dX10_writes_20 (by decide) ?_
    refine lv_icmp_ne (tgt := 26) hx hb dX10_writes_21 (by decide) (fun c_42 => ?_) (fun c_42 => ?_)
    · simp only [i_lt, i_le, i_eq, ti_m1] at c_42
      refine lv_aload_n hx hb dX10_writes_26 rfl (lv_at hl 1 rfl) ?_
      refine va_get (D := (dC, dI)) (ci := 10) (v := .ref (X 38)) (C := RX10) (T := TX10) (N := 60) hx hb hg gb_10 hown hK hP 0 rfl rfl 38 (by decide) (hg _ gm_fieldLink_RX10_120_ErrandGuildModel_bindValue_AI_) (fun _ h9 => h9) rfl dX10_writes_27 ?_
      refine lv_iload hx hb dX10_writes_30 (lv_at hl 0 rfl) ?_
      refine lv_iload_n hx hb dX10_writes_32 rfl (lv_at hl 4 rfl) ?_
      refine va_iast (f := F 38) hx hb hK hP hD hS 36 35 rfl rfl (vp_in_iff.mpr ⟨by omega, by omega⟩) dX10_writes_33 (fun H locs hP hD hS => ?_)
      have hP : va_P (dC, dI) vwCl (w10 h0 X C (F 0) (F 1) (F 2) (F 3) (F 4) (F 5) (F 6) (F 7) (F 8) (F 10) (F 13) (F 14) (F 15) (F 16) (F 17) (F 18) (F 19) (F 20) (F 21) (F 22) (F 23) (F 24) (F 25) (F 26) (F 27) (F 28) (F 29) (F 30) (F 31) (F 32) (F 33) (F 34) (F 35) (F 36) (F 37) (upd (F 38) (Int32.toNatClampNeg r_39) v3) (F 39) (F 40) (F 41) (F 42) (F 43) (F 49) (F 50) (F 51) (F 52) (F 53) (F 54) (F 55) (F 56) (F 57) (F 58) (F 59) (n 9) (n 11) (n 12) (n 44) (n 45) (n 46) (n 47) (n 48)) H := hP
      have hD : va_D A (w10 h0 X C (F 0) (F 1) (F 2) (F 3) (F 4) (F 5) (F 6) (F 7) (F 8) (F 10) (F 13) (F 14) (F 15) (F 16) (F 17) (F 18) (F 19) (F 20) (F 21) (F 22) (F 23) (F 24) (F 25) (F 26) (F 27) (F 28) (F 29) (F 30) (F 31) (F 32) (F 33) (F 34) (F 35) (F 36) (F 37) (upd (F 38) (Int32.toNatClampNeg r_39) v3) (F 39) (F 40) (F 41) (F 42) (F 43) (F 49) (F 50) (F 51) (F 52) (F 53) (F 54) (F 55) (F 56) (F 57) (F 58) (F 59) (n 9) (n 11) (n 12) (n 44) (n 45) (n 46) (n 47) (n 48)) := hD
      refine lv_iconst (v := 1) hx hb dX10_writes_34 (by decide) ?_
      exact W.zret (v := 1) hx hb hr rfl (fun t ht hW => ⟨⟨1, ((fun k => ([F 0, F 1, F 2, F 3, F 4, F 5, F 6, F 7, F 8, (fun _ => 0), F 10, (fun _ => 0), (fun _ => 0), F 13, F 14, F 15, F 16, F 17, F 18, F 19, F 20, F 21, F 22, F 23, F 24, F 25, F 26, F 27, F 28, F 29, F 30, F 31, F 32, F 33, F 34, F 35, F 36, F 37, upd (F 38) (Int32.toNatClampNeg r_39) v3, F 39, F 40, F 41, F 42, F 43, (fun _ => 0), (fun _ => 0), (fun _ => 0), (fun _ => 0), (fun _ => 0), F 49, F 50, F 51, F 52, F 53, F 54, F 55, F 56, F 57, F 58, F 59] : List (Nat → Int32)).getD k (fun _ => 0)), n), rfl, (Or.inl ⟨rfl, ⟨rfl, rfl, rfl, Int.le_refl _⟩⟩), by rw [ht]; exact hP, hD, ⟨b_1, b_2, b_3, b_4, b_5, b_6, b_7, b_8, b_9, b_10, b_11, b_12, i_13, i_14, i_15, i_16, i_17, i_18, i_19, j_20, j_21, j_22, j_23, j_24, j_25, j_26, j_27, j_28, j_29⟩⟩, hS.F ht⟩) hS.2.2 dX10_writes_35
    · simp only [i_lt, i_le, i_eq, ti_m1] at c_42
      refine lv_iconst (v := 0) hx hb dX10_writes_24 (by decide) ?_
      exact W.zret (v := 0) hx hb hr rfl (fun t ht hW => ⟨⟨0, (F, n), rfl, (Or.inr ⟨rfl, ⟨rfl, rfl, rfl, Int.le_refl _⟩⟩), by rw [ht]; exact hP, hD, ⟨b_1, b_2, b_3, b_4, b_5, b_6, b_7, b_8, b_9, b_10, b_11, b_12, i_13, i_14, i_15, i_16, i_17, i_18, i_19, j_20, j_21, j_22, j_23, j_24, j_25, j_26, j_27, j_28, j_29⟩⟩, hS.F ht⟩) hS.2.2 dX10_writes_25

set_option maxHeartbeats 8000000 in
set_option maxRecDepth 100000 in
theorem c_X10_adds (l : Launch) (dC : Nat → ClassId) (dI : Nat → Nat → Nat) (kp : Int) (h0 : Nat) (X : Nat → Nat) (C : Nat → ClassId) (F : Nat → Nat → Int32) (n : Nat → Int32) (v1 : Int32) (v2 : Int32) (sz : Nat) (hI : I10 kp F n) (hr : 0 ≤ v1.toInt ∧ v1.toInt < 200) (hs : 0 ≤ v2.toInt ∧ v2.toInt < 8) (hkp : kp ≤ 2000000000) : Met l yX10_adds (.code yX10_adds cX10_adds 4 none :: gw) ({ frames := 2, cells := 0, slots := 0, locals := 47 }) (va_Pc [.ref h0, .int v1, .int v2] (fun U => U.heap.size = sz ∧ va_P (dC, dI) vwCl (w10 h0 X C (F 0) (F 1) (F 2) (F 3) (F 4) (F 5) (F 6) (F 7) (F 8) (F 10) (F 13) (F 14) (F 15) (F 16) (F 17) (F 18) (F 19) (F 20) (F 21) (F 22) (F 23) (F 24) (F 25) (F 26) (F 27) (F 28) (F 29) (F 30) (F 31) (F 32) (F 33) (F 34) (F 35) (F 36) (F 37) (F 38) (F 39) (F 40) (F 41) (F 42) (F 43) (F 49) (F 50) (F 51) (F 52) (F 53) (F 54) (F 55) (F 56) (F 57) (F 58) (F 59) (n 9) (n 11) (n 12) (n 44) (n 45) (n 46) (n 47) (n 48)) U.heap ∧ va_K (dC, dI) vwCl (t10 C) U ∧ va_D (fun _ => True) (w10 h0 X C (F 0) (F 1) (F 2) (F 3) (F 4) (F 5) (F 6) (F 7) (F 8) (F 10) (F 13) (F 14) (F 15) (F 16) (F 17) (F 18) (F 19) (F 20) (F 21) (F 22) (F 23) (F 24) (F 25) (F 26) (F 27) (F 28) (F 29) (F 30) (F 31) (F 32) (F 33) (F 34) (F 35) (F 36) (F 37) (F 38) (F 39) (F 40) (F 41) (F 42) (F 43) (F 49) (F 50) (F 51) (F 52) (F 53) (F 54) (F 55) (F 56) (F 57) (F 58) (F 59) (n 9) (n 11) (n 12) (n 44) (n 45) (n 46) (n 47) (n 48)) ∧ nx U)) (va_Qv (fun (u : (Nat → Nat → Int32) × (Nat → Int32)) => (u.1 13 (Int32.toNatClampNeg v1)).toInt = (F 13 (Int32.toNatClampNeg v1)).toInt ∧ (u.1 20 (Int32.toNatClampNeg v1)).toInt = (F 20 (Int32.toNatClampNeg v1)).toInt ∧ (u.1 24 (Int32.toNatClampNeg v1)).toInt = (F 24 (Int32.toNatClampNeg v1)).toInt ∧ (n 11).toInt ≤ (u.2 11).toInt) (fun u t => va_P (dC, dI) vwCl (w10 h0 X C (u.1 0) (u.1 1) (u.1 2) (u.1 3) (u.1 4) (u.1 5) (u.1 6) (u.1 7) (u.1 8) (u.1 10) (u.1 13) (u.1 14) (u.1 15) (u.1 16) (u.1 17) (u.1 18) (u.1 19) (u.1 20) (u.1 21) (u.1 22) (u.1 23) (u.1 24) (u.1 25) (u.1 26) (u.1 27) (u.1 28) (u.1 29) (u.1 30) (u.1 31) (u.1 32) (u.1 33) (u.1 34) (u.1 35) (u.1 36) (u.1 37) (u.1 38) (u.1 39) (u.1 40) (u.1 41) (u.1 42) (u.1 43) (u.1 49) (u.1 50) (u.1 51) (u.1 52) (u.1 53) (u.1 54) (u.1 55) (u.1 56) (u.1 57) (u.1 58) (u.1 59) (u.2 9) (u.2 11) (u.2 12) (u.2 44) (u.2 45) (u.2 46) (u.2 47) (u.2 48)) t.heap ∧ va_D (va_A (w10 h0 X C (F 0) (F 1) (F 2) (F 3) (F 4) (F 5) (F 6) (F 7) (F 8) (F 10) (F 13) (F 14) (F 15) (F 16) (F 17) (F 18) (F 19) (F 20) (F 21) (F 22) (F 23) (F 24) (F 25) (F 26) (F 27) (F 28) (F 29) (F 30) (F 31) (F 32) (F 33) (F 34) (F 35) (F 36) (F 37) (F 38) (F 39) (F 40) (F 41) (F 42) (F 43) (F 49) (F 50) (F 51) (F 52) (F 53) (F 54) (F 55) (F 56) (F 57) (F 58) (F 59) (n 9) (n 11) (n 12) (n 44) (n 45) (n 46) (n 47) (n 48)) sz) (w10 h0 X C (u.1 0) (u.1 1) (u.1 2) (u.1 3) (u.1 4) (u.1 5) (u.1 6) (u.1 7) (u.1 8) (u.1 10) (u.1 13) (u.1 14) (u.1 15) (u.1 16) (u.1 17) (u.1 18) (u.1 19) (u.1 20) (u.1 21) (u.1 22) (u.1 23) (u.1 24) (u.1 25) (u.1 26) (u.1 27) (u.1 28) (u.1 29) (u.1 30) (u.1 31) (u.1 32) (u.1 33) (u.1 34) (u.1 35) (u.1 36) (u.1 37) (u.1 38) (u.1 39) (u.1 40) (u.1 41) (u.1 42) (u.1 43) (u.1 49) (u.1 50) (u.1 51) (u.1 52) (u.1 53) (u.1 54) (u.1 55) (u.1 56) (u.1 57) (u.1 58) (u.1 59) (u.2 9) (u.2 11) (u.2 12) (u.2 44) (u.2 45) (u.2 46) (u.2 47) (u.2 48)) ∧ I10 (kp + 1) u.1 u.2) (va_A (w10 h0 X C (F 0) (F 1) (F 2) (F 3) (F 4) (F 5) (F 6) (F 7) (F 8) (F 10) (F 13) (F 14) (F 15) (F 16) (F 17) (F 18) (F 19) (F 20) (F 21) (F 22) (F 23) (F 24) (F 25) (F 26) (F 27) (F 28) (F 29) (F 30) (F 31) (F 32) (F 33) (F 34) (F 35) (F 36) (F 37) (F 38) (F 39) (F 40) (F 41) (F 42) (F 43) (F 49) (F 50) (F 51) (F 52) (F 53) (F 54) (F 55) (F 56) (F 57) (F 58) (F 59) (n 9) (n 11) (n 12) (n 44) (n 45) (n 46) (n 47) (n 48)) sz)) 0 0 (va_A (w10 h0 X C (F 0) (F 1) (F 2) (F 3) (F 4) (F 5) (F 6) (F 7) (F 8) (F 10) (F 13) (F 14) (F 15) (F 16) (F 17) (F 18) (F 19) (F 20) (F 21) (F 22) (F 23) (F 24) (F 25) (F 26) (F 27) (F 28) (F 29) (F 30) (F 31) (F 32) (F 33) (F 34) (F 35) (F 36) (F 37) (F 38) (F 39) (F 40) (F 41) (F 42) (F 43) (F 49) (F 50) (F 51) (F 52) (F 53) (F 54) (F 55) (F 56) (F 57) (F 58) (F 59) (n 9) (n 11) (n 12) (n 44) (n 45) (n 46) (n 47) (n 48)) sz) := by
  refine Met.ofW (cc := cX10_adds) (maxL := 4) (ret := none) (by decide) rfl ?_
  intro p e s m args below meth c s₁ B hml hv
  obtain ⟨rfl, hsz, hP, hK, hD0, hN⟩ := hv
  have hx := B.exec
  have hb := B.bytes
  have hr := B.returns
  have hts := atoms_spec (ws := .code yX10_adds cX10_adds 4 none :: gw) B.pre
  have hg : ∀ w ∈ gw, w.before _ s = true := fun w h => hts w (List.mem_cons_of_mem _ h)
  have hown : s.vm.findClass RX10 = some m.cls := findClass_of_methodNamed B.named
  have hlocks := B.notSynchronized
  subst hsz
  have hD := hD0.self (sz := s.heap.size)
  generalize hAe : va_A (w10 h0 X C (F 0) (F 1) (F 2) (F 3) (F 4) (F 5) (F 6) (F 7) (F 8) (F 10) (F 13) (F 14) (F 15) (F 16) (F 17) (F 18) (F 19) (F 20) (F 21) (F 22) (F 23) (F 24) (F 25) (F 26) (F 27) (F 28) (F 29) (F 30) (F 31) (F 32) (F 33) (F 34) (F 35) (F 36) (F 37) (F 38) (F 39) (F 40) (F 41) (F 42) (F 43) (F 49) (F 50) (F 51) (F 52) (F 53) (F 54) (F 55) (F 56) (F 57) (F 58) (F 59) (n 9) (n 11) (n 12) (n 44) (n 45) (n 46) (n 47) (n 48)) s.heap.size = A at hD ⊢
  have hA : ∀ q : Nat, s.heap.size ≤ q → A q := fun q h => by rw [← hAe]; exact Or.inr h
  have hS : va_S A s.heap s.heap [] := va_S.rf
  have hP : va_P (dC, dI) vwCl (w10 h0 X C (F 0) (F 1) (F 2) (F 3) (F 4) (F 5) (F 6) (F 7) (F 8) (F 10) (F 13) (F 14) (F 15) (F 16) (F 17) (F 18) (F 19) (F 20) (F 21) (F 22) (F 23) (F 24) (F 25) (F 26) (F 27) (F 28) (F 29) (F 30) (F 31) (F 32) (F 33) (F 34) (F 35) (F 36) (F 37) (F 38) (F 39) (F 40) (F 41) (F 42) (F 43) (F 49) (F 50) (F 51) (F 52) (F 53) (F 54) (F 55) (F 56) (F 57) (F 58) (F 59) (n 9) (n 11) (n 12) (n 44) (n 45) (n 46) (n 47) (n 48)) s.heap := hP
  have hl := lv_entry ([.ref h0, .int v1, .int v2]) (n := 4) (Nat.le_of_ble_eq_true rfl)
  rw [lg_entry_eq]
  generalize (lg_sl ([.ref h0, .int v1, .int v2]) ++ List.replicate (4 - (lg_sl ([.ref h0, .int v1, .int v2])).length) Slot.unset).toArray = ls at hl ⊢
  have hl : lv_has ls 4 [(0, .ref h0), (1, .int v1), (2, .int v2)] := hl
  obtain ⟨b_1, b_2, b_3, b_4, b_5, b_6, b_7, b_8, b_9, b_10, b_11, b_12, i_13, i_14, i_15, i_16, i_17, i_18, i_19, j_20, j_21, j_22, j_23, j_24, j_25, j_26, j_27, j_28, j_29⟩ := id hI
  refine lv_aload_n hx hb dX10_adds_0 rfl (lv_at hl 0 rfl) ?_
  refine lv_iload_n hx hb dX10_adds_1 rfl (lv_at hl 1 rfl) ?_
  refine lv_iload_n hx hb dX10_adds_2 rfl (lv_at hl 2 rfl) ?_
  have hFc := free_all hD hS hA
  refine va_calli (va_runV (As := [.int v1, .int v2]) (rest := []) ⟨hx, hb, hml, hown, hg⟩ (c_X10_reads l dC dI kp h0 X C F n v1 v2 s.heap.size ⟨b_1, b_2, b_3, b_4, b_5, b_6, b_7, b_8, b_9, b_10, b_11, b_12, i_13, i_14, i_15, i_16, i_17, i_18, i_19, j_20, j_21, j_22, j_23, j_24, j_25, j_26, j_27, j_28, j_29⟩ (by omega) (by omega)) (cwV 2 hg (gw_V gm_methodLink_RX10_201_yX10_reads gm_instanceMethod_yX10_reads gm_selects_RX10_yX10_reads_yX10_reads gm_initialized_RX10 gm_code_yX10_reads_cX10_reads_5_some_int_) rfl rfl rfl (by decide +kernel) ⟨Nat.le_of_ble_eq_true rfl, Nat.le_of_ble_eq_true rfl⟩) ⟨fun a U g mk q => by obtain ⟨q0, q1, qP, qK, qD, qN⟩ := q; exact ⟨q0, q1, qP, va_K.moved (u := U) (U := U.calling g mk a) (Vm.Alike.refl U.vm) qK, qD, nx_same (u := U) (U := U.calling g mk a) rfl qN⟩, va_recv hK hP (ci := 10) (q0 := 0) rfl rfl, fun U hU hW => ⟨rfl, by rw [hU], by rw [hU]; exact hP, va_K.moved hW.alike hK, hD.weaken (fun _ _ _ _ => trivial), nx_warm hW hN⟩⟩ rfl rfl hl.1 rfl (lv_room (Nat.le_of_ble_eq_true rfl)) dX10_adds_3 ⟨Nat.le_of_ble_eq_true rfl, Nat.le_of_ble_eq_true rfl⟩) hS (fun q _ h => hFc q h) hFc (fun r_30 u_31 t H1 locs ht hvm hw hB hz1 hk1 hS => ?_)
  obtain ⟨hP, hD⟩ := hB
  rw [ht] at hP
  have hD := hD.weaken (fun k q _ h => hFc _ h)
  generalize H1 = H at hP hS ⊢
  have hP : va_P (dC, dI) vwCl (w10 h0 X C (F 0) (F 1) (F 2) (F 3) (F 4) (F 5) (F 6) (F 7) (F 8) (F 10) (F 13) (F 14) (F 15) (F 16) (F 17) (F 18) (F 19) (F 20) (F 21) (F 22) (F 23) (F 24) (F 25) (F 26) (F 27) (F 28) (F 29) (F 30) (F 31) (F 32) (F 33) (F 34) (F 35) (F 36) (F 37) (F 38) (F 39) (F 40) (F 41) (F 42) (F 43) (F 49) (F 50) (F 51) (F 52) (F 53) (F 54) (F 55) (F 56) (F 57) (F 58) (F 59) (n 9) (n 11) (n 12) (n 44) (n 45) (n 46) (n 47) (n 48)) H := hP
  have hD : va_D A (w10 h0 X C (F 0) (F 1) (F 2) (F 3) (F 4) (F 5) (F 6) (F 7) (F 8) (F 10) (F 13) (F 14) (F 15) (F 16) (F 17) (F 18) (F 19) (F 20) (F 21) (F 22) (F 23) (F 24) (F 25) (F 26) (F 27) (F 28) (F 29) (F 30) (F 31) (F 32) (F 33) (F 34) (F 35) (F 36) (F 37) (F 38) (F 39) (F 40) (F 41) (F 42) (F 43) (F 49) (F 50) (F 51) (F 52) (F 53) (F 54) (F 55) (F 56) (F 57) (F 58) (F 59) (n 9) (n 11) (n 12) (n 44) (n 45) (n 46) (n 47) (n 48)) := hD
  refine lv_istore_n (lv' := [(3, .int r_30), (0, .ref h0), (1, .int v1), (2, .int v2)]) hx hb dX10_adds_6 rfl hl (by decide) rfl (fun ls hl => ?_)
  refine lv_aload_n hx hb dX10_adds_7 rfl (lv_at hl 1 rfl) ?_
  refine va_get (D := (dC, dI)) (ci := 10) (v := .ref (X 19)) (C := RX10) (T := TX10) (N := 60) hx hb hg gb_10 hown hK hP 0 rfl rfl 19 (by decide) (hg _ gm_fieldLink_RX10_63_ErrandGuildModel_sum_AI_) (fun _ h9 => h9) rfl dX10_adds_8 ?_
  refine lv_iload_n hx hb dX10_adds_11 rfl (lv_at hl 2 rfl) ?_
  refine lv_aload_n hx hb dX10_adds_12 rfl (lv_at hl 1 rfl) ?_
  refine va_get (D := (dC, dI)) (ci := 10) (v := .ref (X 19)) (C := RX10) (T := TX10) (N := 60) hx hb hg gb_10 hown hK hP 0 rfl rfl 19 (by decide) (hg _ gm_fieldLink_RX10_63_ErrandGuildModel_sum_AI_) (fun _ h9 => h9) rfl dX10_adds_13 ?_
  refine lv_iload_n hx hb dX10_adds_16 rfl (lv_at hl 2 rfl) ?_
  refine va_iald (f := F 19) hx hb hK hP 17 16 rfl rfl (vp_in_iff.mpr ⟨by omega, by omega⟩) dX10_adds_17 ?_
  refine lv_topi (fun z_33 ez_33 => ?_)
  have qz_33 := congrArg Int32.toInt ez_33
  refine lv_iload_n hx hb dX10_adds_18 rfl (lv_at hl 0 rfl) ?_
  refine lv_iadd hx hb dX10_adds_19 ?_
  refine lv_topi (fun z_34 ez_34 => ?_)
  refine va_iast (f := F 19) hx hb hK hP hD hS 17 16 rfl rfl (vp_in_iff.mpr ⟨by omega, by omega⟩) dX10_adds_20 (fun H locs hP hD hS => ?_)
  have hP : va_P (dC, dI) vwCl (w10 h0 X C (F 0) (F 1) (F 2) (F 3) (F 4) (F 5) (F 6) (F 7) (F 8) (F 10) (F 13) (F 14) (F 15) (F 16) (F 17) (F 18) (upd (F 19) (Int32.toNatClampNeg v1) z_34) (F 20) (F 21) (F 22) (F 23) (F 24) (F 25) (F 26) (F 27) (F 28) (F 29) (F 30) (F 31) (F 32) (F 33) (F 34) (F 35) (F 36) (F 37) (F 38) (F 39) (F 40) (F 41) (F 42) (F 43) (F 49) (F 50) (F 51) (F 52) (F 53) (F 54) (F 55) (F 56) (F 57) (F 58) (F 59) (n 9) (n 11) (n 12) (n 44) (n 45) (n 46) (n 47) (n 48)) H := hP
  have hD : va_D A (w10 h0 X C (F 0) (F 1) (F 2) (F 3) (F 4) (F 5) (F 6) (F 7) (F 8) (F 10) (F 13) (F 14) (F 15) (F 16) (F 17) (F 18) (upd (F 19) (Int32.toNatClampNeg v1) z_34) (F 20) (F 21) (F 22) (F 23) (F 24) (F 25) (F 26) (F 27) (F 28) (F 29) (F 30) (F 31) (F 32) (F 33) (F 34) (F 35) (F 36) (F 37) (F 38) (F 39) (F 40) (F 41) (F 42) (F 43) (F 49) (F 50) (F 51) (F 52) (F 53) (F 54) (F 55) (F 56) (F 57) (F 58) (F 59) (n 9) (n 11) (n 12) (n 44) (n 45) (n 46) (n 47) (n 48)) := hD
  refine lv_aload_n hx hb dX10_adds_21 rfl (lv_at hl 1 rfl) ?_
  refine va_get (D := (dC, dI)) (ci := 10) (v := .int (n 45)) (C := RX10) (T := TX10) (N := 60) hx hb hg gb_10 hown hK hP 0 rfl rfl 45 (by decide) (hg _ gm_fieldLink_RX10_189_ErrandGuildModel_seenMany_I_) (fun _ h9 => h9) rfl dX10_adds_22 ?_
  refine lv_sipush (v := 1000) hx hb dX10_adds_25 (by decide) ?_
  refine lv_icmp_ge (tgt := 76) hx hb dX10_adds_28 (by decide) (fun c_35 => ?_) (fun c_35 => ?_)
  · simp only [i_lt, i_le, i_eq, ti_1000] at c_35
    refine lv_aload_n hx hb dX10_adds_76 rfl (lv_at hl 1 rfl) ?_
    refine lv_aload_n hx hb dX10_adds_77 rfl (lv_at hl 1 rfl) ?_
    refine va_get (D := (dC, dI)) (ci := 10) (v := .int (n 45)) (C := RX10) (T := TX10) (N := 60) hx hb hg gb_10 hown hK hP 0 rfl rfl 45 (by decide) (hg _ gm_fieldLink_RX10_189_ErrandGuildModel_seenMany_I_) (fun _ h9 => h9) rfl dX10_adds_78 ?_
    refine lv_iconst (v := 1) hx hb dX10_adds_81 (by decide) ?_
    refine lv_iadd hx hb dX10_adds_82 ?_
    refine lv_topi (fun z_36 ez_36 => ?_)
    have tz_36 : z_36.toInt = (n 45).toInt + 1 := ar_add rfl ti_1 ez_36 (by omega)
    refine va_put (D := (dC, dI)) (ci := 10) (v := .int z_36) (ty := .int) (C := RX10) (T := TX10) (N := 60) hx hb hg gb_10 tyX10 tyX10_ok nmX10 hown hK hP hD hS 0 rfl rfl 45 (by decide) (hg _ gm_fieldLink_RX10_189_ErrandGuildModel_seenMany_I_) (fun _ h9 => h9) rfl (by decide +kernel) rfl rfl (Nat.le_of_ble_eq_true rfl) dX10_adds_83 (fun H locs hP hD hS => ?_)
    have hP : va_P (dC, dI) vwCl (w10 h0 X C (F 0) (F 1) (F 2) (F 3) (F 4) (F 5) (F 6) (F 7) (F 8) (F 10) (F 13) (F 14) (F 15) (F 16) (F 17) (F 18) (upd (F 19) (Int32.toNatClampNeg v1) z_34) (F 20) (F 21) (F 22) (F 23) (F 24) (F 25) (F 26) (F 27) (F 28) (F 29) (F 30) (F 31) (F 32) (F 33) (F 34) (F 35) (F 36) (F 37) (F 38) (F 39) (F 40) (F 41) (F 42) (F 43) (F 49) (F 50) (F 51) (F 52) (F 53) (F 54) (F 55) (F 56) (F 57) (F 58) (F 59) (n 9) (n 11) (n 12) (n 44) z_36 (n 46) (n 47) (n 48)) H := hP
    have hD : va_D A (w10 h0 X C (F 0) (F 1) (F 2) (F 3) (F 4) (F 5) (F 6) (F 7) (F 8) (F 10) (F 13) (F 14) (F 15) (F 16) (F 17) (F 18) (upd (F 19) (Int32.toNatClampNeg v1) z_34) (F 20) (F 21) (F 22) (F 23) (F 24) (F 25) (F 26) (F 27) (F 28) (F 29) (F 30) (F 31) (F 32) (F 33) (F 34) (F 35) (F 36) (F 37) (F 38) (F 39) (F 40) (F 41) (F 42) (F 43) (F 49) (F 50) (F 51) (F 52) (F 53) (F 54) (F 55) (F 56) (F 57) (F 58) (F 59) (n 9) (n 11) (n 12) (n 44) z_36 (n 46) (n 47) (n 48)) := hD
    have i_38 : 0 ≤ (n 44).toInt ∧ (n 44).toInt ≤ (kp + 1) := by omega
    have i_39 : 0 ≤ (n 48).toInt ∧ (n 48).toInt ≤ (kp + 1) := by omega
    have i_37 : 0 ≤ z_36.toInt ∧ z_36.toInt ≤ (kp + 1) := by omega
    exact W.vret hx hb hr (fun t ht hW => ⟨⟨((fun k => ([F 0, F 1, F 2, F 3, F 4, F 5, F 6, F 7, F 8, (fun _ => 0), F 10, (fun _ => 0), (fun _ => 0), F 13, F 14, F 15, F 16, F 17, F 18, upd (F 19) (Int32.toNatClampNeg v1) z_34, F 20, F 21, F 22, F 23, F 24, F 25, F 26, F 27, F 28, F 29, F 30, F 31, F 32, F 33, F 34, F 35, F 36, F 37, F 38, F 39, F 40, F 41, F 42, F 43, (fun _ => 0), (fun _ => 0), (fun _ => 0), (fun _ => 0), (fun _ => 0), F 49, F 50, F 51, F 52, F 53, F 54, F 55, F 56, F 57, F 58, F 59] : List (Nat → Int32)).getD k (fun _ => 0)), (fun k => ([0, 0, 0, 0, 0, 0, 0, 0, 0, n 9, 0, n 11, n 12, 0, 0, 0, 0, 0, 0, 0, 0, 0, 0, 0, 0, 0, 0, 0, 0, 0, 0, 0, 0, 0, 0, 0, 0, 0, 0, 0, 0, 0, 0, 0, n 44, z_36, n 46, n 47, n 48, 0, 0, 0, 0, 0, 0, 0, 0, 0, 0, 0] : List Int32).getD k 0)), rfl, ⟨rfl, rfl, rfl, Int.le_refl _⟩, by rw [ht]; exact hP, hD, ⟨b_1, b_2, b_3, b_4, b_5, b_6, b_7, b_8, b_9, b_10, b_11, b_12, i_13, i_14, i_38, i_37, i_17, i_18, i_39, j_20, j_21, j_22, j_23, j_24, j_25, j_26, j_27, j_28, j_29⟩⟩, hS.F ht⟩) hS.2.2 dX10_adds_86
  · simp only [i_lt, i_le, i_eq, ti_1000] at c_35
    refine lv_aload_n hx hb dX10_adds_31 rfl (lv_at hl 1 rfl) ?_
    refine va_get (D := (dC, dI)) (ci := 10) (v := .ref (X 49)) (C := RX10) (T := TX10) (N := 60) hx hb hg gb_10 hown hK hP 0 rfl rfl 49 (by decide) (hg _ gm_fieldLink_RX10_138_ErrandGuildModel_seenRun_AI_) (fun _ h9 => h9) rfl dX10_adds_32 ?_
    refine lv_aload_n hx hb dX10_adds_35 rfl (lv_at hl 1 rfl) ?_
    refine va_get (D := (dC, dI)) (ci := 10) (v := .int (n 45)) (C := RX10) (T := TX10) (N := 60) hx hb hg gb_10 hown hK hP 0 rfl rfl 45 (by decide) (hg _ gm_fieldLink_RX10_189_ErrandGuildModel_seenMany_I_) (fun _ h9 => h9) rfl dX10_adds_36 ?_
    refine lv_iload_n hx hb dX10_adds_39 rfl (lv_at hl 2 rfl) ?_
    refine va_iast (f := F 49) hx hb hK hP hD hS 42 41 rfl rfl (vp_in_iff.mpr ⟨by omega, by omega⟩) dX10_adds_40 (fun H locs hP hD hS => ?_)
    have hP : va_P (dC, dI) vwCl (w10 h0 X C (F 0) (F 1) (F 2) (F 3) (F 4) (F 5) (F 6) (F 7) (F 8) (F 10) (F 13) (F 14) (F 15) (F 16) (F 17) (F 18) (upd (F 19) (Int32.toNatClampNeg v1) z_34) (F 20) (F 21) (F 22) (F 23) (F 24) (F 25) (F 26) (F 27) (F 28) (F 29) (F 30) (F 31) (F 32) (F 33) (F 34) (F 35) (F 36) (F 37) (F 38) (F 39) (F 40) (F 41) (F 42) (F 43) (upd (F 49) (Int32.toNatClampNeg (n 45)) v1) (F 50) (F 51) (F 52) (F 53) (F 54) (F 55) (F 56) (F 57) (F 58) (F 59) (n 9) (n 11) (n 12) (n 44) (n 45) (n 46) (n 47) (n 48)) H := hP
    have hD : va_D A (w10 h0 X C (F 0) (F 1) (F 2) (F 3) (F 4) (F 5) (F 6) (F 7) (F 8) (F 10) (F 13) (F 14) (F 15) (F 16) (F 17) (F 18) (upd (F 19) (Int32.toNatClampNeg v1) z_34) (F 20) (F 21) (F 22) (F 23) (F 24) (F 25) (F 26) (F 27) (F 28) (F 29) (F 30) (F 31) (F 32) (F 33) (F 34) (F 35) (F 36) (F 37) (F 38) (F 39) (F 40) (F 41) (F 42) (F 43) (upd (F 49) (Int32.toNatClampNeg (n 45)) v1) (F 50) (F 51) (F 52) (F 53) (F 54) (F 55) (F 56) (F 57) (F 58) (F 59) (n 9) (n 11) (n 12) (n 44) (n 45) (n 46) (n 47) (n 48)) := hD
    refine lv_aload_n hx hb dX10_adds_41 rfl (lv_at hl 1 rfl) ?_
    refine va_get (D := (dC, dI)) (ci := 10) (v := .ref (X 50)) (C := RX10) (T := TX10) (N := 60) hx hb hg gb_10 hown hK hP 0 rfl rfl 50 (by decide) (hg _ gm_fieldLink_RX10_141_ErrandGuildModel_seenSlot_AI_) (fun _ h9 => h9) rfl dX10_adds_42 ?_
    refine lv_aload_n hx hb dX10_adds_45 rfl (lv_at hl 1 rfl) ?_
    refine va_get (D := (dC, dI)) (ci := 10) (v := .int (n 45)) (C := RX10) (T := TX10) (N := 60) hx hb hg gb_10 hown hK hP 0 rfl rfl 45 (by decide) (hg _ gm_fieldLink_RX10_189_ErrandGuildModel_seenMany_I_) (fun _ h9 => h9) rfl dX10_adds_46 ?_
    refine lv_iload_n hx hb dX10_adds_49 rfl (lv_at hl 3 rfl) ?_
    refine va_iast (f := F 50) hx hb hK hP hD hS 43 42 rfl rfl (vp_in_iff.mpr ⟨by omega, by omega⟩) dX10_adds_50 (fun H locs hP hD hS => ?_)
    have hP : va_P (dC, dI) vwCl (w10 h0 X C (F 0) (F 1) (F 2) (F 3) (F 4) (F 5) (F 6) (F 7) (F 8) (F 10) (F 13) (F 14) (F 15) (F 16) (F 17) (F 18) (upd (F 19) (Int32.toNatClampNeg v1) z_34) (F 20) (F 21) (F 22) (F 23) (F 24) (F 25) (F 26) (F 27) (F 28) (F 29) (F 30) (F 31) (F 32) (F 33) (F 34) (F 35) (F 36) (F 37) (F 38) (F 39) (F 40) (F 41) (F 42) (F 43) (upd (F 49) (Int32.toNatClampNeg (n 45)) v1) (upd (F 50) (Int32.toNatClampNeg (n 45)) v2) (F 51) (F 52) (F 53) (F 54) (F 55) (F 56) (F 57) (F 58) (F 59) (n 9) (n 11) (n 12) (n 44) (n 45) (n 46) (n 47) (n 48)) H := hP
    have hD : va_D A (w10 h0 X C (F 0) (F 1) (F 2) (F 3) (F 4) (F 5) (F 6) (F 7) (F 8) (F 10) (F 13) (F 14) (F 15) (F 16) (F 17) (F 18) (upd (F 19) (Int32.toNatClampNeg v1) z_34) (F 20) (F 21) (F 22) (F 23) (F 24) (F 25) (F 26) (F 27) (F 28) (F 29) (F 30) (F 31) (F 32) (F 33) (F 34) (F 35) (F 36) (F 37) (F 38) (F 39) (F 40) (F 41) (F 42) (F 43) (upd (F 49) (Int32.toNatClampNeg (n 45)) v1) (upd (F 50) (Int32.toNatClampNeg (n 45)) v2) (F 51) (F 52) (F 53) (F 54) (F 55) (F 56) (F 57) (F 58) (F 59) (n 9) (n 11) (n 12) (n 44) (n 45) (n 46) (n 47) (n 48)) := hD
    refine lv_aload_n hx hb dX10_adds_51 rfl (lv_at hl 1 rfl) ?_
    refine va_get (D := (dC, dI)) (ci := 10) (v := .ref (X 51)) (C := RX10) (T := TX10) (N := 60) hx hb hg gb_10 hown hK hP 0 rfl rfl 51 (by decide) (hg _ gm_fieldLink_RX10_144_ErrandGuildModel_seenValue_AI_) (fun _ h9 => h9) rfl dX10_adds_52 ?_
    refine lv_aload_n hx hb dX10_adds_55 rfl (lv_at hl 1 rfl) ?_
    refine va_get (D := (dC, dI)) (ci := 10) (v := .int (n 45)) (C := RX10) (T := TX10) (N := 60) hx hb hg gb_10 hown hK hP 0 rfl rfl 45 (by decide) (hg _ gm_fieldLink_RX10_189_ErrandGuildModel_seenMany_I_) (fun _ h9 => h9) rfl dX10_adds_56 ?_
    refine lv_iload_n hx hb dX10_adds_59 rfl (lv_at hl 0 rfl) ?_
    refine va_iast (f := F 51) hx hb hK hP hD hS 44 43 rfl rfl (vp_in_iff.mpr ⟨by omega, by omega⟩) dX10_adds_60 (fun H locs hP hD hS => ?_)
    have hP : va_P (dC, dI) vwCl (w10 h0 X C (F 0) (F 1) (F 2) (F 3) (F 4) (F 5) (F 6) (F 7) (F 8) (F 10) (F 13) (F 14) (F 15) (F 16) (F 17) (F 18) (upd (F 19) (Int32.toNatClampNeg v1) z_34) (F 20) (F 21) (F 22) (F 23) (F 24) (F 25) (F 26) (F 27) (F 28) (F 29) (F 30) (F 31) (F 32) (F 33) (F 34) (F 35) (F 36) (F 37) (F 38) (F 39) (F 40) (F 41) (F 42) (F 43) (upd (F 49) (Int32.toNatClampNeg (n 45)) v1) (upd (F 50) (Int32.toNatClampNeg (n 45)) v2) (upd (F 51) (Int32.toNatClampNeg (n 45)) r_30) (F 52) (F 53) (F 54) (F 55) (F 56) (F 57) (F 58) (F 59) (n 9) (n 11) (n 12) (n 44) (n 45) (n 46) (n 47) (n 48)) H := hP
    have hD : va_D A (w10 h0 X C (F 0) (F 1) (F 2) (F 3) (F 4) (F 5) (F 6) (F 7) (F 8) (F 10) (F 13) (F 14) (F 15) (F 16) (F 17) (F 18) (upd (F 19) (Int32.toNatClampNeg v1) z_34) (F 20) (F 21) (F 22) (F 23) (F 24) (F 25) (F 26) (F 27) (F 28) (F 29) (F 30) (F 31) (F 32) (F 33) (F 34) (F 35) (F 36) (F 37) (F 38) (F 39) (F 40) (F 41) (F 42) (F 43) (upd (F 49) (Int32.toNatClampNeg (n 45)) v1) (upd (F 50) (Int32.toNatClampNeg (n 45)) v2) (upd (F 51) (Int32.toNatClampNeg (n 45)) r_30) (F 52) (F 53) (F 54) (F 55) (F 56) (F 57) (F 58) (F 59) (n 9) (n 11) (n 12) (n 44) (n 45) (n 46) (n 47) (n 48)) := hD
    refine lv_aload_n hx hb dX10_adds_61 rfl (lv_at hl 1 rfl) ?_
    refine va_get (D := (dC, dI)) (ci := 10) (v := .ref (X 52)) (C := RX10) (T := TX10) (N := 60) hx hb hg gb_10 hown hK hP 0 rfl rfl 52 (by decide) (hg _ gm_fieldLink_RX10_147_ErrandGuildModel_seenStep_AI_) (fun _ h9 => h9) rfl dX10_adds_62 ?_
    refine lv_aload_n hx hb dX10_adds_65 rfl (lv_at hl 1 rfl) ?_
    refine va_get (D := (dC, dI)) (ci := 10) (v := .int (n 45)) (C := RX10) (T := TX10) (N := 60) hx hb hg gb_10 hown hK hP 0 rfl rfl 45 (by decide) (hg _ gm_fieldLink_RX10_189_ErrandGuildModel_seenMany_I_) (fun _ h9 => h9) rfl dX10_adds_66 ?_
    refine lv_aload_n hx hb dX10_adds_69 rfl (lv_at hl 1 rfl) ?_
    refine va_get (D := (dC, dI)) (ci := 10) (v := .ref (X 20)) (C := RX10) (T := TX10) (N := 60) hx hb hg gb_10 hown hK hP 0 rfl rfl 20 (by decide) (hg _ gm_fieldLink_RX10_66_ErrandGuildModel_place_AI_) (fun _ h9 => h9) rfl dX10_adds_70 ?_
    refine lv_iload_n hx hb dX10_adds_73 rfl (lv_at hl 2 rfl) ?_
    refine va_iald (f := F 20) hx hb hK hP 18 17 rfl rfl (vp_in_iff.mpr ⟨by omega, by omega⟩) dX10_adds_74 ?_
    refine lv_topi (fun z_40 ez_40 => ?_)
    have qz_40 := congrArg Int32.toInt ez_40
    have bz_40 := bd_at b_8 ez_40
    refine va_iast (f := F 52) hx hb hK hP hD hS 45 44 rfl rfl (vp_in_iff.mpr ⟨by omega, by omega⟩) dX10_adds_75 (fun H locs hP hD hS => ?_)
    have hP : va_P (dC, dI) vwCl (w10 h0 X C (F 0) (F 1) (F 2) (F 3) (F 4) (F 5) (F 6) (F 7) (F 8) (F 10) (F 13) (F 14) (F 15) (F 16) (F 17) (F 18) (upd (F 19) (Int32.toNatClampNeg v1) z_34) (F 20) (F 21) (F 22) (F 23) (F 24) (F 25) (F 26) (F 27) (F 28) (F 29) (F 30) (F 31) (F 32) (F 33) (F 34) (F 35) (F 36) (F 37) (F 38) (F 39) (F 40) (F 41) (F 42) (F 43) (upd (F 49) (Int32.toNatClampNeg (n 45)) v1) (upd (F 50) (Int32.toNatClampNeg (n 45)) v2) (upd (F 51) (Int32.toNatClampNeg (n 45)) r_30) (upd (F 52) (Int32.toNatClampNeg (n 45)) z_40) (F 53) (F 54) (F 55) (F 56) (F 57) (F 58) (F 59) (n 9) (n 11) (n 12) (n 44) (n 45) (n 46) (n 47) (n 48)) H := hP
    have hD : va_D A (w10 h0 X C (F 0) (F 1) (F 2) (F 3) (F 4) (F 5) (F 6) (F 7) (F 8) (F 10) (F 13) (F 14) (F 15) (F 16) (F 17) (F 18) (upd (F 19) (Int32.toNatClampNeg v1) z_34) (F 20) (F 21) (F 22) (F 23) (F 24) (F 25) (F 26) (F 27) (F 28) (F 29) (F 30) (F 31) (F 32) (F 33) (F 34) (F 35) (F 36) (F 37) (F 38) (F 39) (F 40) (F 41) (F 42) (F 43) (upd (F 49) (Int32.toNatClampNeg (n 45)) v1) (upd (F 50) (Int32.toNatClampNeg (n 45)) v2) (upd (F 51) (Int32.toNatClampNeg (n 45)) r_30) (upd (F 52) (Int32.toNatClampNeg (n 45)) z_40) (F 53) (F 54) (F 55) (F 56) (F 57) (F 58) (F 59) (n 9) (n 11) (n 12) (n 44) (n 45) (n 46) (n 47) (n 48)) := hD
    refine lv_aload_n hx hb dX10_adds_76 rfl (lv_at hl 1 rfl) ?_
    refine lv_aload_n hx hb dX10_adds_77 rfl (lv_at hl 1 rfl) ?_
    refine va_get (D := (dC, dI)) (ci := 10) (v := .int (n 45)) (C := RX10) (T := TX10) (N := 60) hx hb hg gb_10 hown hK hP 0 rfl rfl 45 (by decide) (hg _ gm_fieldLink_RX10_189_ErrandGuildModel_seenMany_I_) (fun _ h9 => h9) rfl dX10_adds_78 ?_
    refine lv_iconst (v := 1) hx hb dX10_adds_81 (by decide) ?_
    refine lv_iadd hx hb dX10_adds_82 ?_
    refine lv_topi (fun z_41 ez_41 => ?_)
    have tz_41 : z_41.toInt = (n 45).toInt + 1 := ar_add rfl ti_1 ez_41 (by omega)
    refine va_put (D := (dC, dI)) (ci := 10) (v := .int z_41) (ty := .int) (C := RX10) (T := TX10) (N := 60) hx hb hg gb_10 tyX10 tyX10_ok nmX10 hown hK hP hD hS 0 rfl rfl 45 (by decide) (hg _ gm_fieldLink_RX10_189_ErrandGuildModel_seenMany_I_) (fun _ h9 => h9) rfl (by decide +kernel) rfl rfl (Nat.le_of_ble_eq_true rfl) dX10_adds_83 (fun H locs hP hD hS => ?_)
    have hP : va_P (dC, dI) vwCl (w10 h0 X C (F 0) (F 1) (F 2) (F 3) (F 4) (F 5) (F 6) (F 7) (F 8) (F 10) (F 13) (F 14) (F 15) (F 16) (F 17) (F 18) (upd (F 19) (Int32.toNatClampNeg v1) z_34) (F 20) (F 21) (F 22) (F 23) (F 24) (F 25) (F 26) (F 27) (F 28) (F 29) (F 30) (F 31) (F 32) (F 33) (F 34) (F 35) (F 36) (F 37) (F 38) (F 39) (F 40) (F 41) (F 42) (F 43) (upd (F 49) (Int32.toNatClampNeg (n 45)) v1) (upd (F 50) (Int32.toNatClampNeg (n 45)) v2) (upd (F 51) (Int32.toNatClampNeg (n 45)) r_30) (upd (F 52) (Int32.toNatClampNeg (n 45)) z_40) (F 53) (F 54) (F 55) (F 56) (F 57) (F 58) (F 59) (n 9) (n 11) (n 12) (n 44) z_41 (n 46) (n 47) (n 48)) H := hP
    have hD : va_D A (w10 h0 X C (F 0) (F 1) (F 2) (F 3) (F 4) (F 5) (F 6) (F 7) (F 8) (F 10) (F 13) (F 14) (F 15) (F 16) (F 17) (F 18) (upd (F 19) (Int32.toNatClampNeg v1) z_34) (F 20) (F 21) (F 22) (F 23) (F 24) (F 25) (F 26) (F 27) (F 28) (F 29) (F 30) (F 31) (F 32) (F 33) (F 34) (F 35) (F 36) (F 37) (F 38) (F 39) (F 40) (F 41) (F 42) (F 43) (upd (F 49) (Int32.toNatClampNeg (n 45)) v1) (upd (F 50) (Int32.toNatClampNeg (n 45)) v2) (upd (F 51) (Int32.toNatClampNeg (n 45)) r_30) (upd (F 52) (Int32.toNatClampNeg (n 45)) z_40) (F 53) (F 54) (F 55) (F 56) (F 57) (F 58) (F 59) (n 9) (n 11) (n 12) (n 44) z_41 (n 46) (n 47) (n 48)) := hD
    have i_43 : 0 ≤ (n 44).toInt ∧ (n 44).toInt ≤ (kp + 1) := by omega
    have i_44 : 0 ≤ (n 48).toInt ∧ (n 48).toInt ≤ (kp + 1) := by omega
    have i_42 : 0 ≤ z_41.toInt ∧ z_41.toInt ≤ (kp + 1) := by omega
    exact W.vret hx hb hr (fun t ht hW => ⟨⟨((fun k => ([F 0, F 1, F 2, F 3, F 4, F 5, F 6, F 7, F 8, (fun _ => 0), F 10, (fun _ => 0), (fun _ => 0), F 13, F 14, F 15, F 16, F 17, F 18, upd (F 19) (Int32.toNatClampNeg v1) z_34, F 20, F 21, F 22, F 23, F 24, F 25, F 26, F 27, F 28, F 29, F 30, F 31, F 32, F 33, F 34, F 35, F 36, F 37, F 38, F 39, F 40, F 41, F 42, F 43, (fun _ => 0), (fun _ => 0), (fun _ => 0), (fun _ => 0), (fun _ => 0), upd (F 49) (Int32.toNatClampNeg (n 45)) v1, upd (F 50) (Int32.toNatClampNeg (n 45)) v2, upd (F 51) (Int32.toNatClampNeg (n 45)) r_30, upd (F 52) (Int32.toNatClampNeg (n 45)) z_40, F 53, F 54, F 55, F 56, F 57, F 58, F 59] : List (Nat → Int32)).getD k (fun _ => 0)), (fun k => ([0, 0, 0, 0, 0, 0, 0, 0, 0, n 9, 0, n 11, n 12, 0, 0, 0, 0, 0, 0, 0, 0, 0, 0, 0, 0, 0, 0, 0, 0, 0, 0, 0, 0, 0, 0, 0, 0, 0, 0, 0, 0, 0, 0, 0, n 44, z_41, n 46, n 47, n 48, 0, 0, 0, 0, 0, 0, 0, 0, 0, 0, 0] : List Int32).getD k 0)), rfl, ⟨rfl, rfl, rfl, Int.le_refl _⟩, by rw [ht]; exact hP, hD, ⟨b_1, b_2, b_3, b_4, b_5, b_6, b_7, b_8, b_9, b_10, b_11, b_12, i_13, i_14, i_43, i_42, i_17, i_18, i_44, j_20, j_21, j_22, j_23, j_24, j_25, j_26, j_27, j_28, j_29⟩⟩, hS.F ht⟩) hS.2.2 dX10_adds_86

set_option maxHeartbeats 8000000 in
set_option maxRecDepth 100000 in
theorem c_X10_frees (l : Launch) (dC : Nat → ClassId) (dI : Nat → Nat → Nat) (kp : Int) (h0 : Nat) (X : Nat → Nat) (C : Nat → ClassId) (F : Nat → Nat → Int32) (n : Nat → Int32) (v1 : Int32) (v2 : Int32) (sz : Nat) (hI : I10 kp F n) (hr : 0 ≤ v1.toInt ∧ v1.toInt < 200) : Met l yX10_frees (.code yX10_frees cX10_frees 3 (some .boolean) :: gw) ({ frames := 0, cells := 0, slots := 0, locals := 0 }) (va_Pc [.ref h0, .int v1, .int v2] (fun U => U.heap.size = sz ∧ va_P (dC, dI) vwCl (w10 h0 X C (F 0) (F 1) (F 2) (F 3) (F 4) (F 5) (F 6) (F 7) (F 8) (F 10) (F 13) (F 14) (F 15) (F 16) (F 17) (F 18) (F 19) (F 20) (F 21) (F 22) (F 23) (F 24) (F 25) (F 26) (F 27) (F 28) (F 29) (F 30) (F 31) (F 32) (F 33) (F 34) (F 35) (F 36) (F 37) (F 38) (F 39) (F 40) (F 41) (F 42) (F 43) (F 49) (F 50) (F 51) (F 52) (F 53) (F 54) (F 55) (F 56) (F 57) (F 58) (F 59) (n 9) (n 11) (n 12) (n 44) (n 45) (n 46) (n 47) (n 48)) U.heap ∧ va_K (dC, dI) vwCl (t10 C) U ∧ va_D (fun _ => True) (w10 h0 X C (F 0) (F 1) (F 2) (F 3) (F 4) (F 5) (F 6) (F 7) (F 8) (F 10) (F 13) (F 14) (F 15) (F 16) (F 17) (F 18) (F 19) (F 20) (F 21) (F 22) (F 23) (F 24) (F 25) (F 26) (F 27) (F 28) (F 29) (F 30) (F 31) (F 32) (F 33) (F 34) (F 35) (F 36) (F 37) (F 38) (F 39) (F 40) (F 41) (F 42) (F 43) (F 49) (F 50) (F 51) (F 52) (F 53) (F 54) (F 55) (F 56) (F 57) (F 58) (F 59) (n 9) (n 11) (n 12) (n 44) (n 45) (n 46) (n 47) (n 48)) ∧ nx U)) (va_Qi (fun (r : Int32) (u : (Nat → Nat → Int32) × (Nat → Int32)) => (r = 1 ∧ (u.1 13 (Int32.toNatClampNeg v1)).toInt = (F 13 (Int32.toNatClampNeg v1)).toInt ∧ (u.1 20 (Int32.toNatClampNeg v1)).toInt = (F 20 (Int32.toNatClampNeg v1)).toInt ∧ (u.1 24 (Int32.toNatClampNeg v1)).toInt = (F 24 (Int32.toNatClampNeg v1)).toInt ∧ (n 11).toInt ≤ (u.2 11).toInt) ∨ (r = 0 ∧ (u.1 13 (Int32.toNatClampNeg v1)).toInt = (F 13 (Int32.toNatClampNeg v1)).toInt ∧ (u.1 20 (Int32.toNatClampNeg v1)).toInt = (F 20 (Int32.toNatClampNeg v1)).toInt ∧ (u.1 24 (Int32.toNatClampNeg v1)).toInt = (F 24 (Int32.toNatClampNeg v1)).toInt ∧ (n 11).toInt ≤ (u.2 11).toInt)) (fun u t => va_P (dC, dI) vwCl (w10 h0 X C (u.1 0) (u.1 1) (u.1 2) (u.1 3) (u.1 4) (u.1 5) (u.1 6) (u.1 7) (u.1 8) (u.1 10) (u.1 13) (u.1 14) (u.1 15) (u.1 16) (u.1 17) (u.1 18) (u.1 19) (u.1 20) (u.1 21) (u.1 22) (u.1 23) (u.1 24) (u.1 25) (u.1 26) (u.1 27) (u.1 28) (u.1 29) (u.1 30) (u.1 31) (u.1 32) (u.1 33) (u.1 34) (u.1 35) (u.1 36) (u.1 37) (u.1 38) (u.1 39) (u.1 40) (u.1 41) (u.1 42) (u.1 43) (u.1 49) (u.1 50) (u.1 51) (u.1 52) (u.1 53) (u.1 54) (u.1 55) (u.1 56) (u.1 57) (u.1 58) (u.1 59) (u.2 9) (u.2 11) (u.2 12) (u.2 44) (u.2 45) (u.2 46) (u.2 47) (u.2 48)) t.heap ∧ va_D (va_A (w10 h0 X C (F 0) (F 1) (F 2) (F 3) (F 4) (F 5) (F 6) (F 7) (F 8) (F 10) (F 13) (F 14) (F 15) (F 16) (F 17) (F 18) (F 19) (F 20) (F 21) (F 22) (F 23) (F 24) (F 25) (F 26) (F 27) (F 28) (F 29) (F 30) (F 31) (F 32) (F 33) (F 34) (F 35) (F 36) (F 37) (F 38) (F 39) (F 40) (F 41) (F 42) (F 43) (F 49) (F 50) (F 51) (F 52) (F 53) (F 54) (F 55) (F 56) (F 57) (F 58) (F 59) (n 9) (n 11) (n 12) (n 44) (n 45) (n 46) (n 47) (n 48)) sz) (w10 h0 X C (u.1 0) (u.1 1) (u.1 2) (u.1 3) (u.1 4) (u.1 5) (u.1 6) (u.1 7) (u.1 8) (u.1 10) (u.1 13) (u.1 14) (u.1 15) (u.1 16) (u.1 17) (u.1 18) (u.1 19) (u.1 20) (u.1 21) (u.1 22) (u.1 23) (u.1 24) (u.1 25) (u.1 26) (u.1 27) (u.1 28) (u.1 29) (u.1 30) (u.1 31) (u.1 32) (u.1 33) (u.1 34) (u.1 35) (u.1 36) (u.1 37) (u.1 38) (u.1 39) (u.1 40) (u.1 41) (u.1 42) (u.1 43) (u.1 49) (u.1 50) (u.1 51) (u.1 52) (u.1 53) (u.1 54) (u.1 55) (u.1 56) (u.1 57) (u.1 58) (u.1 59) (u.2 9) (u.2 11) (u.2 12) (u.2 44) (u.2 45) (u.2 46) (u.2 47) (u.2 48)) ∧ I10 kp u.1 u.2) (va_A (w10 h0 X C (F 0) (F 1) (F 2) (F 3) (F 4) (F 5) (F 6) (F 7) (F 8) (F 10) (F 13) (F 14) (F 15) (F 16) (F 17) (F 18) (F 19) (F 20) (F 21) (F 22) (F 23) (F 24) (F 25) (F 26) (F 27) (F 28) (F 29) (F 30) (F 31) (F 32) (F 33) (F 34) (F 35) (F 36) (F 37) (F 38) (F 39) (F 40) (F 41) (F 42) (F 43) (F 49) (F 50) (F 51) (F 52) (F 53) (F 54) (F 55) (F 56) (F 57) (F 58) (F 59) (n 9) (n 11) (n 12) (n 44) (n 45) (n 46) (n 47) (n 48)) sz)) 0 0 (va_A (w10 h0 X C (F 0) (F 1) (F 2) (F 3) (F 4) (F 5) (F 6) (F 7) (F 8) (F 10) (F 13) (F 14) (F 15) (F 16) (F 17) (F 18) (F 19) (F 20) (F 21) (F 22) (F 23) (F 24) (F 25) (F 26) (F 27) (F 28) (F 29) (F 30) (F 31) (F 32) (F 33) (F 34) (F 35) (F 36) (F 37) (F 38) (F 39) (F 40) (F 41) (F 42) (F 43) (F 49) (F 50) (F 51) (F 52) (F 53) (F 54) (F 55) (F 56) (F 57) (F 58) (F 59) (n 9) (n 11) (n 12) (n 44) (n 45) (n 46) (n 47) (n 48)) sz) := by
  refine Met.ofW (cc := cX10_frees) (maxL := 3) (ret := (some .boolean)) (by decide) rfl ?_
  intro p e s m args below meth c s₁ B hml hv
  obtain ⟨rfl, hsz, hP, hK, hD0, hN⟩ := hv
  have hx := B.exec
  have hb := B.bytes
  have hr := B.returns
  have hts := atoms_spec (ws := .code yX10_frees cX10_frees 3 (some .boolean) :: gw) B.pre
  have hg : ∀ w ∈ gw, w.before _ s = true := fun w h => hts w (List.mem_cons_of_mem _ h)
  have hown : s.vm.findClass RX10 = some m.cls := findClass_of_methodNamed B.named
  have hlocks := B.notSynchronized
  subst hsz
  have hD := hD0.self (sz := s.heap.size)
  generalize hAe : va_A (w10 h0 X C (F 0) (F 1) (F 2) (F 3) (F 4) (F 5) (F 6) (F 7) (F 8) (F 10) (F 13) (F 14) (F 15) (F 16) (F 17) (F 18) (F 19) (F 20) (F 21) (F 22) (F 23) (F 24) (F 25) (F 26) (F 27) (F 28) (F 29) (F 30) (F 31) (F 32) (F 33) (F 34) (F 35) (F 36) (F 37) (F 38) (F 39) (F 40) (F 41) (F 42) (F 43) (F 49) (F 50) (F 51) (F 52) (F 53) (F 54) (F 55) (F 56) (F 57) (F 58) (F 59) (n 9) (n 11) (n 12) (n 44) (n 45) (n 46) (n 47) (n 48)) s.heap.size = A at hD ⊢
  have hA : ∀ q : Nat, s.heap.size ≤ q → A q := fun q h => by rw [← hAe]; exact Or.inr h
  have hS : va_S A s.heap s.heap [] := va_S.rf
  have hP : va_P (dC, dI) vwCl (w10 h0 X C (F 0) (F 1) (F 2) (F 3) (F 4) (F 5) (F 6) (F 7) (F 8) (F 10) (F 13) (F 14) (F 15) (F 16) (F 17) (F 18) (F 19) (F 20) (F 21) (F 22) (F 23) (F 24) (F 25) (F 26) (F 27) (F 28) (F 29) (F 30) (F 31) (F 32) (F 33) (F 34) (F 35) (F 36) (F 37) (F 38) (F 39) (F 40) (F 41) (F 42) (F 43) (F 49) (F 50) (F 51) (F 52) (F 53) (F 54) (F 55) (F 56) (F 57) (F 58) (F 59) (n 9) (n 11) (n 12) (n 44) (n 45) (n 46) (n 47) (n 48)) s.heap := hP
  have hl := lv_entry ([.ref h0, .int v1, .int v2]) (n := 3) (Nat.le_of_ble_eq_true rfl)
  rw [lg_entry_eq]
  generalize (lg_sl ([.ref h0, .int v1, .int v2]) ++ List.replicate (3 - (lg_sl ([.ref h0, .int v1, .int v2])).length) Slot.unset).toArray = ls at hl ⊢
  have hl : lv_has ls 3 [(0, .ref h0), (1, .int v1), (2, .int v2)] := hl
  obtain ⟨b_1, b_2, b_3, b_4, b_5, b_6, b_7, b_8, b_9, b_10, b_11, b_12, i_13, i_14, i_15, i_16, i_17, i_18, i_19, j_20, j_21, j_22, j_23, j_24, j_25, j_26, j_27, j_28, j_29⟩ := id hI
  have p36 := b_10 (Int32.toNatClampNeg v1)
  refine lv_aload_n hx hb dX10_frees_0 rfl (lv_at hl 0 rfl) ?_
  refine va_get (D := (dC, dI)) (ci := 10) (v := .ref (X 36)) (C := RX10) (T := TX10) (N := 60) hx hb hg gb_10 hown hK hP 0 rfl rfl 36 (by decide) (hg _ gm_fieldLink_RX10_114_ErrandGuildModel_bindMany_AI_) (fun _ h9 => h9) rfl dX10_frees_1 ?_
  refine lv_iload_n hx hb dX10_frees_4 rfl (lv_at hl 1 rfl) ?_
  refine va_iald (f := F 36) hx hb hK hP 34 33 rfl rfl (vp_in_iff.mpr ⟨by omega, by omega⟩) dX10_frees_5 ?_
  refine lv_topi (fun z_30 ez_30 => ?_)
  have qz_30 := congrArg Int32.toInt ez_30
  have bz_30 := bd_at b_10 ez_30
  refine lv_if_eq (tgt := 31) hx hb dX10_frees_6 (by decide) (fun c_31 => ?_) (fun c_31 => ?_)
  · simp only [i_lt, i_le, i_eq, ti_0] at c_31
    refine lv_iconst (v := 0) hx hb dX10_frees_31 (by decide) ?_
    exact W.zret (v := 0) hx hb hr rfl (fun t ht hW => ⟨⟨0, (F, n), rfl, (Or.inr ⟨rfl, ⟨rfl, rfl, rfl, Int.le_refl _⟩⟩), by rw [ht]; exact hP, hD, ⟨b_1, b_2, b_3, b_4, b_5, b_6, b_7, b_8, b_9, b_10, b_11, b_12, i_13, i_14, i_15, i_16, i_17, i_18, i_19, j_20, j_21, j_22, j_23, j_24, j_25, j_26, j_27, j_28, j_29⟩⟩, hS.F ht⟩) hS.2.2 dX10_frees_32
  · simp only [i_lt, i_le, i_eq, ti_0] at c_31
    refine lv_aload_n hx hb dX10_frees_9 rfl (lv_at hl 0 rfl) ?_
    refine va_get (D := (dC, dI)) (ci := 10) (v := .ref (X 37)) (C := RX10) (T := TX10) (N := 60) hx hb hg gb_10 hown hK hP 0 rfl rfl 37 (by decide) (hg _ gm_fieldLink_RX10_117_ErrandGuildModel_bindSlot_AI_) (fun _ h9 => h9) rfl dX10_frees_10 ?_
    refine lv_bipush (v := 24) hx hb dX10_frees_13 (by decide) ?_
    refine lv_iload_n hx hb dX10_frees_15 rfl (lv_at hl 1 rfl) ?_
    refine lv_imul hx hb dX10_frees_16 ?_
    refine lv_topi (fun z_32 ez_32 => ?_)
    have tz_32 : z_32.toInt = 24 * v1.toInt := ar_mul ti_24 rfl ez_32 (by omega)
    refine lv_aload_n hx hb dX10_frees_17 rfl (lv_at hl 0 rfl) ?_
    refine va_get (D := (dC, dI)) (ci := 10) (v := .ref (X 36)) (C := RX10) (T := TX10) (N := 60) hx hb hg gb_10 hown hK hP 0 rfl rfl 36 (by decide) (hg _ gm_fieldLink_RX10_114_ErrandGuildModel_bindMany_AI_) (fun _ h9 => h9) rfl dX10_frees_18 ?_
    refine lv_iload_n hx hb dX10_frees_21 rfl (lv_at hl 1 rfl) ?_
    refine va_iald (f := F 36) hx hb hK hP 34 33 rfl rfl (vp_in_iff.mpr ⟨by omega, by omega⟩) dX10_frees_22 ?_
    refine lv_topi (fun z_33 ez_33 => ?_)
    obtain rfl : z_30 = z_33 := ez_30.trans ez_33.symm
    refine lv_iadd hx hb dX10_frees_23 ?_
    refine lv_topi (fun z_34 ez_34 => ?_)
    have tz_34 : z_34.toInt = z_32.toInt + z_30.toInt := ar_add rfl rfl ez_34 (by omega)
    refine lv_iconst (v := 1) hx hb dX10_frees_24 (by decide) ?_
    refine lv_isub hx hb dX10_frees_25 ?_
    refine lv_topi (fun z_35 ez_35 => ?_)
    have tz_35 : z_35.toInt = z_34.toInt - 1 := ar_sub rfl ti_1 ez_35 (by omega)
    refine va_iald (f := F 37) hx hb hK hP 35 34 rfl rfl (vp_in_iff.mpr ⟨by omega, by omega⟩) dX10_frees_26 ?_
    refine lv_topi (fun z_36 ez_36 => ?_)
    have qz_36 := congrArg Int32.toInt ez_36
    refine lv_iload_n hx hb dX10_frees_27 rfl (lv_at hl 2 rfl) ?_
    refine lv_icmp_eq (tgt := 33) hx hb dX10_frees_28 (by decide) (fun c_37 => ?_) (fun c_37 => ?_)
    · simp only [i_lt, i_le, i_eq] at c_37
      refine lv_aload_n hx hb dX10_frees_33 rfl (lv_at hl 0 rfl) ?_
      refine va_get (D := (dC, dI)) (ci := 10) (v := .ref (X 36)) (C := RX10) (T := TX10) (N := 60) hx hb hg gb_10 hown hK hP 0 rfl rfl 36 (by decide) (hg _ gm_fieldLink_RX10_114_ErrandGuildModel_bindMany_AI_) (fun _ h9 => h9) rfl dX10_frees_34 ?_
      refine lv_iload_n hx hb dX10_frees_37 rfl (lv_at hl 1 rfl) ?_
      refine lv_aload_n hx hb dX10_frees_38 rfl (lv_at hl 0 rfl) ?_
      refine va_get (D := (dC, dI)) (ci := 10) (v := .ref (X 36)) (C := RX10) (T := TX10) (N := 60) hx hb hg gb_10 hown hK hP 0 rfl rfl 36 (by decide) (hg _ gm_fieldLink_RX10_114_ErrandGuildModel_bindMany_AI_) (fun _ h9 => h9) rfl dX10_frees_39 ?_
      refine lv_iload_n hx hb dX10_frees_42 rfl (lv_at hl 1 rfl) ?_
      refine va_iald (f := F 36) hx hb hK hP 34 33 rfl rfl (vp_in_iff.mpr ⟨by omega, by omega⟩) dX10_frees_43 ?_
      refine lv_topi (fun z_38 ez_38 => ?_)
      obtain rfl : z_30 = z_38 := ez_30.trans ez_38.symm
      refine lv_iconst (v := 1) hx hb dX10_frees_44 (by decide) ?_
      refine lv_isub hx hb dX10_frees_45 ?_
      refine lv_topi (fun z_39 ez_39 => ?_)
      have tz_39 : z_39.toInt = z_30.toInt - 1 := ar_sub rfl ti_1 ez_39 (by omega)
      refine va_iast (f := F 36) hx hb hK hP hD hS 34 33 rfl rfl (vp_in_iff.mpr ⟨by omega, by omega⟩) dX10_frees_46 (fun H locs hP hD hS => ?_)
      have hP : va_P (dC, dI) vwCl (w10 h0 X C (F 0) (F 1) (F 2) (F 3) (F 4) (F 5) (F 6) (F 7) (F 8) (F 10) (F 13) (F 14) (F 15) (F 16) (F 17) (F 18) (F 19) (F 20) (F 21) (F 22) (F 23) (F 24) (F 25) (F 26) (F 27) (F 28) (F 29) (F 30) (F 31) (F 32) (F 33) (F 34) (F 35) (upd (F 36) (Int32.toNatClampNeg v1) z_39) (F 37) (F 38) (F 39) (F 40) (F 41) (F 42) (F 43) (F 49) (F 50) (F 51) (F 52) (F 53) (F 54) (F 55) (F 56) (F 57) (F 58) (F 59) (n 9) (n 11) (n 12) (n 44) (n 45) (n 46) (n 47) (n 48)) H := hP
      have hD : va_D A (w10 h0 X C (F 0) (F 1) (F 2) (F 3) (F 4) (F 5) (F 6) (F 7) (F 8) (F 10) (F 13) (F 14) (F 15) (F 16) (F 17) (F 18) (F 19) (F 20) (F 21) (F 22) (F 23) (F 24) (F 25) (F 26) (F 27) (F 28) (F 29) (F 30) (F 31) (F 32) (F 33) (F 34) (F 35) (upd (F 36) (Int32.toNatClampNeg v1) z_39) (F 37) (F 38) (F 39) (F 40) (F 41) (F 42) (F 43) (F 49) (F 50) (F 51) (F 52) (F 53) (F 54) (F 55) (F 56) (F 57) (F 58) (F 59) (n 9) (n 11) (n 12) (n 44) (n 45) (n 46) (n 47) (n 48)) := hD
      have b_40 := bd_upd b_10 (Int32.toNatClampNeg v1) (x := z_39) (by omega) (by omega)
      have j_41 : J2 (upd (F 36) (Int32.toNatClampNeg v1) z_39) (F 20) := J2_tm j_23 (Int32.toNatClampNeg v1) (by have h_ := j_23 (Int32.toNatClampNeg v1); omega)
      have j_42 : J5 (F 39) (upd (F 36) (Int32.toNatClampNeg v1) z_39) (F 41) (F 43) (F 42) := J5_bm j_25 (Int32.toNatClampNeg v1) (Or.inl (by omega))
      refine lv_iconst (v := 1) hx hb dX10_frees_47 (by decide) ?_
      exact W.zret (v := 1) hx hb hr rfl (fun t ht hW => ⟨⟨1, ((fun k => ([F 0, F 1, F 2, F 3, F 4, F 5, F 6, F 7, F 8, (fun _ => 0), F 10, (fun _ => 0), (fun _ => 0), F 13, F 14, F 15, F 16, F 17, F 18, F 19, F 20, F 21, F 22, F 23, F 24, F 25, F 26, F 27, F 28, F 29, F 30, F 31, F 32, F 33, F 34, F 35, upd (F 36) (Int32.toNatClampNeg v1) z_39, F 37, F 38, F 39, F 40, F 41, F 42, F 43, (fun _ => 0), (fun _ => 0), (fun _ => 0), (fun _ => 0), (fun _ => 0), F 49, F 50, F 51, F 52, F 53, F 54, F 55, F 56, F 57, F 58, F 59] : List (Nat → Int32)).getD k (fun _ => 0)), n), rfl, (Or.inl ⟨rfl, ⟨rfl, rfl, rfl, Int.le_refl _⟩⟩), by rw [ht]; exact hP, hD, ⟨b_1, b_2, b_3, b_4, b_5, b_6, b_7, b_8, b_9, b_40, b_11, b_12, i_13, i_14, i_15, i_16, i_17, i_18, i_19, j_20, j_21, j_22, j_41, j_24, j_42, j_26, j_27, j_28, j_29⟩⟩, hS.F ht⟩) hS.2.2 dX10_frees_48
    · simp only [i_lt, i_le, i_eq] at c_37
      refine lv_iconst (v := 0) hx hb dX10_frees_31 (by decide) ?_
      exact W.zret (v := 0) hx hb hr rfl (fun t ht hW => ⟨⟨0, (F, n), rfl, (Or.inr ⟨rfl, ⟨rfl, rfl, rfl, Int.le_refl _⟩⟩), by rw [ht]; exact hP, hD, ⟨b_1, b_2, b_3, b_4, b_5, b_6, b_7, b_8, b_9, b_10, b_11, b_12, i_13, i_14, i_15, i_16, i_17, i_18, i_19, j_20, j_21, j_22, j_23, j_24, j_25, j_26, j_27, j_28, j_29⟩⟩, hS.F ht⟩) hS.2.2 dX10_frees_32

set_option maxHeartbeats 8000000 in
set_option maxRecDepth 100000 in
theorem c_X10_hands (l : Launch) (dC : Nat → ClassId) (dI : Nat → Nat → Nat) (kp : Int) (h0 : Nat) (X : Nat → Nat) (C : Nat → ClassId) (F : Nat → Nat → Int32) (n : Nat → Int32) (v1 : Int32) (v2 : Int32) (v3 : Int32) (sz : Nat) (hI : I10 kp F n) (hr : 0 ≤ v1.toInt ∧ v1.toInt < 200) (hrn : v1.toInt < (n 11).toInt) (hs1 : (F 13 (Int32.toNatClampNeg v1)).toInt = 1) (hib : (F 24 (Int32.toNatClampNeg v1)).toInt = 0) (he : 0 ≤ v2.toInt ∧ v2.toInt < 8) : Met l yX10_hands (.code yX10_hands cX10_hands 5 (some .boolean) :: gw) ({ frames := 3, cells := 0, slots := 0, locals := 72 }) (va_Pc [.ref h0, .int v1, .int v2, .int v3] (fun U => U.heap.size = sz ∧ va_P (dC, dI) vwCl (w10 h0 X C (F 0) (F 1) (F 2) (F 3) (F 4) (F 5) (F 6) (F 7) (F 8) (F 10) (F 13) (F 14) (F 15) (F 16) (F 17) (F 18) (F 19) (F 20) (F 21) (F 22) (F 23) (F 24) (F 25) (F 26) (F 27) (F 28) (F 29) (F 30) (F 31) (F 32) (F 33) (F 34) (F 35) (F 36) (F 37) (F 38) (F 39) (F 40) (F 41) (F 42) (F 43) (F 49) (F 50) (F 51) (F 52) (F 53) (F 54) (F 55) (F 56) (F 57) (F 58) (F 59) (n 9) (n 11) (n 12) (n 44) (n 45) (n 46) (n 47) (n 48)) U.heap ∧ va_K (dC, dI) vwCl (t10 C) U ∧ va_D (fun _ => True) (w10 h0 X C (F 0) (F 1) (F 2) (F 3) (F 4) (F 5) (F 6) (F 7) (F 8) (F 10) (F 13) (F 14) (F 15) (F 16) (F 17) (F 18) (F 19) (F 20) (F 21) (F 22) (F 23) (F 24) (F 25) (F 26) (F 27) (F 28) (F 29) (F 30) (F 31) (F 32) (F 33) (F 34) (F 35) (F 36) (F 37) (F 38) (F 39) (F 40) (F 41) (F 42) (F 43) (F 49) (F 50) (F 51) (F 52) (F 53) (F 54) (F 55) (F 56) (F 57) (F 58) (F 59) (n 9) (n 11) (n 12) (n 44) (n 45) (n 46) (n 47) (n 48)) ∧ nx U)) (va_Qi (fun (r : Int32) (u : (Nat → Nat → Int32) × (Nat → Int32)) => (r = 1 ∧ (u.1 13 (Int32.toNatClampNeg v1)).toInt = (F 13 (Int32.toNatClampNeg v1)).toInt ∧ (u.1 20 (Int32.toNatClampNeg v1)).toInt = (F 20 (Int32.toNatClampNeg v1)).toInt ∧ (u.1 24 (Int32.toNatClampNeg v1)).toInt = (F 24 (Int32.toNatClampNeg v1)).toInt ∧ (n 11).toInt ≤ (u.2 11).toInt) ∨ (r = 0 ∧ (n 11).toInt ≤ (u.2 11).toInt)) (fun u t => va_P (dC, dI) vwCl (w10 h0 X C (u.1 0) (u.1 1) (u.1 2) (u.1 3) (u.1 4) (u.1 5) (u.1 6) (u.1 7) (u.1 8) (u.1 10) (u.1 13) (u.1 14) (u.1 15) (u.1 16) (u.1 17) (u.1 18) (u.1 19) (u.1 20) (u.1 21) (u.1 22) (u.1 23) (u.1 24) (u.1 25) (u.1 26) (u.1 27) (u.1 28) (u.1 29) (u.1 30) (u.1 31) (u.1 32) (u.1 33) (u.1 34) (u.1 35) (u.1 36) (u.1 37) (u.1 38) (u.1 39) (u.1 40) (u.1 41) (u.1 42) (u.1 43) (u.1 49) (u.1 50) (u.1 51) (u.1 52) (u.1 53) (u.1 54) (u.1 55) (u.1 56) (u.1 57) (u.1 58) (u.1 59) (u.2 9) (u.2 11) (u.2 12) (u.2 44) (u.2 45) (u.2 46) (u.2 47) (u.2 48)) t.heap ∧ va_D (va_A (w10 h0 X C (F 0) (F 1) (F 2) (F 3) (F 4) (F 5) (F 6) (F 7) (F 8) (F 10) (F 13) (F 14) (F 15) (F 16) (F 17) (F 18) (F 19) (F 20) (F 21) (F 22) (F 23) (F 24) (F 25) (F 26) (F 27) (F 28) (F 29) (F 30) (F 31) (F 32) (F 33) (F 34) (F 35) (F 36) (F 37) (F 38) (F 39) (F 40) (F 41) (F 42) (F 43) (F 49) (F 50) (F 51) (F 52) (F 53) (F 54) (F 55) (F 56) (F 57) (F 58) (F 59) (n 9) (n 11) (n 12) (n 44) (n 45) (n 46) (n 47) (n 48)) sz) (w10 h0 X C (u.1 0) (u.1 1) (u.1 2) (u.1 3) (u.1 4) (u.1 5) (u.1 6) (u.1 7) (u.1 8) (u.1 10) (u.1 13) (u.1 14) (u.1 15) (u.1 16) (u.1 17) (u.1 18) (u.1 19) (u.1 20) (u.1 21) (u.1 22) (u.1 23) (u.1 24) (u.1 25) (u.1 26) (u.1 27) (u.1 28) (u.1 29) (u.1 30) (u.1 31) (u.1 32) (u.1 33) (u.1 34) (u.1 35) (u.1 36) (u.1 37) (u.1 38) (u.1 39) (u.1 40) (u.1 41) (u.1 42) (u.1 43) (u.1 49) (u.1 50) (u.1 51) (u.1 52) (u.1 53) (u.1 54) (u.1 55) (u.1 56) (u.1 57) (u.1 58) (u.1 59) (u.2 9) (u.2 11) (u.2 12) (u.2 44) (u.2 45) (u.2 46) (u.2 47) (u.2 48)) ∧ I10 kp u.1 u.2) (va_A (w10 h0 X C (F 0) (F 1) (F 2) (F 3) (F 4) (F 5) (F 6) (F 7) (F 8) (F 10) (F 13) (F 14) (F 15) (F 16) (F 17) (F 18) (F 19) (F 20) (F 21) (F 22) (F 23) (F 24) (F 25) (F 26) (F 27) (F 28) (F 29) (F 30) (F 31) (F 32) (F 33) (F 34) (F 35) (F 36) (F 37) (F 38) (F 39) (F 40) (F 41) (F 42) (F 43) (F 49) (F 50) (F 51) (F 52) (F 53) (F 54) (F 55) (F 56) (F 57) (F 58) (F 59) (n 9) (n 11) (n 12) (n 44) (n 45) (n 46) (n 47) (n 48)) sz)) 0 0 (va_A (w10 h0 X C (F 0) (F 1) (F 2) (F 3) (F 4) (F 5) (F 6) (F 7) (F 8) (F 10) (F 13) (F 14) (F 15) (F 16) (F 17) (F 18) (F 19) (F 20) (F 21) (F 22) (F 23) (F 24) (F 25) (F 26) (F 27) (F 28) (F 29) (F 30) (F 31) (F 32) (F 33) (F 34) (F 35) (F 36) (F 37) (F 38) (F 39) (F 40) (F 41) (F 42) (F 43) (F 49) (F 50) (F 51) (F 52) (F 53) (F 54) (F 55) (F 56) (F 57) (F 58) (F 59) (n 9) (n 11) (n 12) (n 44) (n 45) (n 46) (n 47) (n 48)) sz) := by
  refine Met.ofW (cc := cX10_hands) (maxL := 5) (ret := (some .boolean)) (by decide) rfl ?_
  intro p e s m args below meth c s₁ B hml hv
  obtain ⟨rfl, hsz, hP, hK, hD0, hN⟩ := hv
  have hx := B.exec
  have hb := B.bytes
  have hr := B.returns
  have hts := atoms_spec (ws := .code yX10_hands cX10_hands 5 (some .boolean) :: gw) B.pre
  have hg : ∀ w ∈ gw, w.before _ s = true := fun w h => hts w (List.mem_cons_of_mem _ h)
  have hown : s.vm.findClass RX10 = some m.cls := findClass_of_methodNamed B.named
  have hlocks := B.notSynchronized
  subst hsz
  have hD := hD0.self (sz := s.heap.size)
  generalize hAe : va_A (w10 h0 X C (F 0) (F 1) (F 2) (F 3) (F 4) (F 5) (F 6) (F 7) (F 8) (F 10) (F 13) (F 14) (F 15) (F 16) (F 17) (F 18) (F 19) (F 20) (F 21) (F 22) (F 23) (F 24) (F 25) (F 26) (F 27) (F 28) (F 29) (F 30) (F 31) (F 32) (F 33) (F 34) (F 35) (F 36) (F 37) (F 38) (F 39) (F 40) (F 41) (F 42) (F 43) (F 49) (F 50) (F 51) (F 52) (F 53) (F 54) (F 55) (F 56) (F 57) (F 58) (F 59) (n 9) (n 11) (n 12) (n 44) (n 45) (n 46) (n 47) (n 48)) s.heap.size = A at hD ⊢
  have hA : ∀ q : Nat, s.heap.size ≤ q → A q := fun q h => by rw [← hAe]; exact Or.inr h
  have hS : va_S A s.heap s.heap [] := va_S.rf
  have hP : va_P (dC, dI) vwCl (w10 h0 X C (F 0) (F 1) (F 2) (F 3) (F 4) (F 5) (F 6) (F 7) (F 8) (F 10) (F 13) (F 14) (F 15) (F 16) (F 17) (F 18) (F 19) (F 20) (F 21) (F 22) (F 23) (F 24) (F 25) (F 26) (F 27) (F 28) (F 29) (F 30) (F 31) (F 32) (F 33) (F 34) (F 35) (F 36) (F 37) (F 38) (F 39) (F 40) (F 41) (F 42) (F 43) (F 49) (F 50) (F 51) (F 52) (F 53) (F 54) (F 55) (F 56) (F 57) (F 58) (F 59) (n 9) (n 11) (n 12) (n 44) (n 45) (n 46) (n 47) (n 48)) s.heap := hP
  have hl := lv_entry ([.ref h0, .int v1, .int v2, .int v3]) (n := 5) (Nat.le_of_ble_eq_true rfl)
  rw [lg_entry_eq]
  generalize (lg_sl ([.ref h0, .int v1, .int v2, .int v3]) ++ List.replicate (5 - (lg_sl ([.ref h0, .int v1, .int v2, .int v3])).length) Slot.unset).toArray = ls at hl ⊢
  have hl : lv_has ls 5 [(0, .ref h0), (1, .int v1), (2, .int v2), (3, .int v3)] := hl
  obtain ⟨b_1, b_2, b_3, b_4, b_5, b_6, b_7, b_8, b_9, b_10, b_11, b_12, i_13, i_14, i_15, i_16, i_17, i_18, i_19, j_20, j_21, j_22, j_23, j_24, j_25, j_26, j_27, j_28, j_29⟩ := id hI
  refine lv_aload_n hx hb dX10_hands_0 rfl (lv_at hl 0 rfl) ?_
  refine va_get (D := (dC, dI)) (ci := 10) (v := .ref (X 17)) (C := RX10) (T := TX10) (N := 60) hx hb hg gb_10 hown hK hP 0 rfl rfl 17 (by decide) (hg _ gm_fieldLink_RX10_57_ErrandGuildModel_depth_AI_) (fun _ h9 => h9) rfl dX10_hands_1 ?_
  refine lv_iload_n hx hb dX10_hands_4 rfl (lv_at hl 1 rfl) ?_
  refine va_iald (f := F 17) hx hb hK hP 15 14 rfl rfl (vp_in_iff.mpr ⟨by omega, by omega⟩) dX10_hands_5 ?_
  refine lv_topi (fun z_30 ez_30 => ?_)
  have qz_30 := congrArg Int32.toInt ez_30
  refine lv_bipush (v := 6) hx hb dX10_hands_6 (by decide) ?_
  refine lv_icmp_ne (tgt := 22) hx hb dX10_hands_8 (by decide) (fun c_31 => ?_) (fun c_31 => ?_)
  · simp only [i_lt, i_le, i_eq, ti_6] at c_31
    refine lv_aload_n hx hb dX10_hands_22 rfl (lv_at hl 0 rfl) ?_
    refine va_get (D := (dC, dI)) (ci := 10) (v := .int (n 11)) (C := RX10) (T := TX10) (N := 60) hx hb hg gb_10 hown hK hP 0 rfl rfl 11 (by decide) (hg _ gm_fieldLink_RX10_176_ErrandGuildModel_runs_I_) (fun _ h9 => h9) rfl dX10_hands_23 ?_
    refine lv_sipush (v := 200) hx hb dX10_hands_26 (by decide) ?_
    refine lv_icmp_ne (tgt := 43) hx hb dX10_hands_29 (by decide) (fun c_32 => ?_) (fun c_32 => ?_)
    · simp only [i_lt, i_le, i_eq, ti_200] at c_32
      refine lv_aload_n hx hb dX10_hands_43 rfl (lv_at hl 0 rfl) ?_
      refine lv_iload_n hx hb dX10_hands_44 rfl (lv_at hl 2 rfl) ?_
      refine lv_iload_n hx hb dX10_hands_45 rfl (lv_at hl 1 rfl) ?_
      have hFc := free_all hD hS hA
      refine va_calli (va_runV (As := [.int v2, .int v1]) (rest := []) ⟨hx, hb, hml, hown, hg⟩ (c_X10_comes l dC dI kp h0 X C F n v2 v1 s.heap.size ⟨b_1, b_2, b_3, b_4, b_5, b_6, b_7, b_8, b_9, b_10, b_11, b_12, i_13, i_14, i_15, i_16, i_17, i_18, i_19, j_20, j_21, j_22, j_23, j_24, j_25, j_26, j_27, j_28, j_29⟩ (by omega) (by show -1 ≤ v1.toInt ∧ v1.toInt < ((n 11)).toInt; omega) (by show ((n 11)).toInt < 200; omega)) (cwV 2 hg (gw_V gm_methodLink_RX10_205_yX10_comes gm_instanceMethod_yX10_comes gm_selects_RX10_yX10_comes_yX10_comes gm_initialized_RX10 gm_code_yX10_comes_cX10_comes_5_some_int_) rfl rfl rfl (by decide +kernel) ⟨Nat.le_of_ble_eq_true rfl, Nat.le_of_ble_eq_true rfl⟩) ⟨fun a U g mk q => by obtain ⟨q0, q1, qP, qK, qD, qN⟩ := q; exact ⟨q0, q1, qP, va_K.moved (u := U) (U := U.calling g mk a) (Vm.Alike.refl U.vm) qK, qD, nx_same (u := U) (U := U.calling g mk a) rfl qN⟩, va_recv hK hP (ci := 10) (q0 := 0) rfl rfl, fun U hU hW => ⟨rfl, by rw [hU], by rw [hU]; exact hP, va_K.moved hW.alike hK, hD.weaken (fun _ _ _ _ => trivial), nx_warm hW hN⟩⟩ rfl rfl hl.1 rfl (lv_room (Nat.le_of_ble_eq_true rfl)) dX10_hands_46 ⟨Nat.le_of_ble_eq_true rfl, Nat.le_of_ble_eq_true rfl⟩) hS (fun q _ h => hFc q h) hFc (fun r_33 u_34 t H1 locs ht hvm hw hB hz1 hk1 hS => ?_)
      obtain ⟨F_35, n_36⟩ := u_34
      obtain ⟨hP, hD, hI_37⟩ := hB
      have hI_37 : I10 kp F_35 n_36 := hI_37
      obtain ⟨b_38, b_39, b_40, b_41, b_42, b_43, b_44, b_45, b_46, b_47, b_48, b_49, i_50, i_51, i_52, i_53, i_54, i_55, i_56, j_57, j_58, j_59, j_60, j_61, j_62, j_63, j_64, j_65, j_66⟩ := id hI_37
      rw [ht] at hP
      have hD := hD.weaken (fun k q _ h => hFc _ h)
      generalize H1 = H at hP hS ⊢
      have hP : va_P (dC, dI) vwCl (w10 h0 X C (F_35 0) (F_35 1) (F_35 2) (F_35 3) (F_35 4) (F_35 5) (F_35 6) (F_35 7) (F_35 8) (F_35 10) (F_35 13) (F_35 14) (F_35 15) (F_35 16) (F_35 17) (F_35 18) (F_35 19) (F_35 20) (F_35 21) (F_35 22) (F_35 23) (F_35 24) (F_35 25) (F_35 26) (F_35 27) (F_35 28) (F_35 29) (F_35 30) (F_35 31) (F_35 32) (F_35 33) (F_35 34) (F_35 35) (F_35 36) (F_35 37) (F_35 38) (F_35 39) (F_35 40) (F_35 41) (F_35 42) (F_35 43) (F_35 49) (F_35 50) (F_35 51) (F_35 52) (F_35 53) (F_35 54) (F_35 55) (F_35 56) (F_35 57) (F_35 58) (F_35 59) (n_36 9) (n_36 11) (n_36 12) (n_36 44) (n_36 45) (n_36 46) (n_36 47) (n_36 48)) H := hP
      have hD : va_D A (w10 h0 X C (F_35 0) (F_35 1) (F_35 2) (F_35 3) (F_35 4) (F_35 5) (F_35 6) (F_35 7) (F_35 8) (F_35 10) (F_35 13) (F_35 14) (F_35 15) (F_35 16) (F_35 17) (F_35 18) (F_35 19) (F_35 20) (F_35 21) (F_35 22) (F_35 23) (F_35 24) (F_35 25) (F_35 26) (F_35 27) (F_35 28) (F_35 29) (F_35 30) (F_35 31) (F_35 32) (F_35 33) (F_35 34) (F_35 35) (F_35 36) (F_35 37) (F_35 38) (F_35 39) (F_35 40) (F_35 41) (F_35 42) (F_35 43) (F_35 49) (F_35 50) (F_35 51) (F_35 52) (F_35 53) (F_35 54) (F_35 55) (F_35 56) (F_35 57) (F_35 58) (F_35 59) (n_36 9) (n_36 11) (n_36 12) (n_36 44) (n_36 45) (n_36 46) (n_36 47) (n_36 48)) := hD
      have w_67 : 0 ≤ r_33.toInt ∧ r_33.toInt < 200 ∧ (∀ j : Nat, (j : Int) < ((n 11)).toInt → (F_35 13 j).toInt = ((F 13) j).toInt ∧ (F_35 20 j).toInt = ((F 20) j).toInt ∧ (F_35 24 j).toInt = ((F 24) j).toInt) ∧ (n_36 11).toInt = ((n 11)).toInt + 1 := hw
      try simp only [upd_eq] at w_67
      have pw := w_67.2.2.1 (Int32.toNatClampNeg v1) (by have ce := cl_eq v1; omega)
      refine lv_istore (lv' := [(4, .int r_33), (0, .ref h0), (1, .int v1), (2, .int v2), (3, .int v3)]) hx hb dX10_hands_49 hl (by decide) rfl (fun ls hl => ?_)
      refine lv_aload_n hx hb dX10_hands_51 rfl (lv_at hl 1 rfl) ?_
      refine va_get (D := (dC, dI)) (ci := 10) (v := .ref (X 27)) (C := RX10) (T := TX10) (N := 60) hx hb hg gb_10 hown hK hP 0 rfl rfl 27 (by decide) (hg _ gm_fieldLink_RX10_87_ErrandGuildModel_isAwaited_AZ_) (fun _ h9 => h9) rfl dX10_hands_52 ?_
      refine lv_iload hx hb dX10_hands_55 (lv_at hl 0 rfl) ?_
      refine lv_iload_n hx hb dX10_hands_57 rfl (lv_at hl 4 rfl) ?_
      refine va_zast (f := F_35 27) hx hb hK hP hD hS 25 24 rfl rfl (vp_in_iff.mpr ⟨by omega, by omega⟩) dX10_hands_58 (fun H locs hP hD hS => ?_)
      have hP : va_P (dC, dI) vwCl (w10 h0 X C (F_35 0) (F_35 1) (F_35 2) (F_35 3) (F_35 4) (F_35 5) (F_35 6) (F_35 7) (F_35 8) (F_35 10) (F_35 13) (F_35 14) (F_35 15) (F_35 16) (F_35 17) (F_35 18) (F_35 19) (F_35 20) (F_35 21) (F_35 22) (F_35 23) (F_35 24) (F_35 25) (F_35 26) (upd (F_35 27) (Int32.toNatClampNeg r_33) (vp_nar .boolean v3)) (F_35 28) (F_35 29) (F_35 30) (F_35 31) (F_35 32) (F_35 33) (F_35 34) (F_35 35) (F_35 36) (F_35 37) (F_35 38) (F_35 39) (F_35 40) (F_35 41) (F_35 42) (F_35 43) (F_35 49) (F_35 50) (F_35 51) (F_35 52) (F_35 53) (F_35 54) (F_35 55) (F_35 56) (F_35 57) (F_35 58) (F_35 59) (n_36 9) (n_36 11) (n_36 12) (n_36 44) (n_36 45) (n_36 46) (n_36 47) (n_36 48)) H := hP
      have hD : va_D A (w10 h0 X C (F_35 0) (F_35 1) (F_35 2) (F_35 3) (F_35 4) (F_35 5) (F_35 6) (F_35 7) (F_35 8) (F_35 10) (F_35 13) (F_35 14) (F_35 15) (F_35 16) (F_35 17) (F_35 18) (F_35 19) (F_35 20) (F_35 21) (F_35 22) (F_35 23) (F_35 24) (F_35 25) (F_35 26) (upd (F_35 27) (Int32.toNatClampNeg r_33) (vp_nar .boolean v3)) (F_35 28) (F_35 29) (F_35 30) (F_35 31) (F_35 32) (F_35 33) (F_35 34) (F_35 35) (F_35 36) (F_35 37) (F_35 38) (F_35 39) (F_35 40) (F_35 41) (F_35 42) (F_35 43) (F_35 49) (F_35 50) (F_35 51) (F_35 52) (F_35 53) (F_35 54) (F_35 55) (F_35 56) (F_35 57) (F_35 58) (F_35 59) (n_36 9) (n_36 11) (n_36 12) (n_36 44) (n_36 45) (n_36 46) (n_36 47) (n_36 48)) := hD
      refine lv_iconst (v := 1) hx hb dX10_hands_59 (by decide) ?_
      exact W.zret (v := 1) hx hb hr rfl (fun t ht hW => ⟨⟨1, ((fun k => ([F_35 0, F_35 1, F_35 2, F_35 3, F_35 4, F_35 5, F_35 6, F_35 7, F_35 8, (fun _ => 0), F_35 10, (fun _ => 0), (fun _ => 0), F_35 13, F_35 14, F_35 15, F_35 16, F_35 17, F_35 18, F_35 19, F_35 20, F_35 21, F_35 22, F_35 23, F_35 24, F_35 25, F_35 26, upd (F_35 27) (Int32.toNatClampNeg r_33) (vp_nar .boolean v3), F_35 28, F_35 29, F_35 30, F_35 31, F_35 32, F_35 33, F_35 34, F_35 35, F_35 36, F_35 37, F_35 38, F_35 39, F_35 40, F_35 41, F_35 42, F_35 43, (fun _ => 0), (fun _ => 0), (fun _ => 0), (fun _ => 0), (fun _ => 0), F_35 49, F_35 50, F_35 51, F_35 52, F_35 53, F_35 54, F_35 55, F_35 56, F_35 57, F_35 58, F_35 59] : List (Nat → Int32)).getD k (fun _ => 0)), n_36), rfl, (Or.inl ⟨rfl, by show ((F_35 13) (Int32.toNatClampNeg v1)).toInt = (F 13 (Int32.toNatClampNeg v1)).toInt ∧ ((F_35 20) (Int32.toNatClampNeg v1)).toInt = (F 20 (Int32.toNatClampNeg v1)).toInt ∧ ((F_35 24) (Int32.toNatClampNeg v1)).toInt = (F 24 (Int32.toNatClampNeg v1)).toInt ∧ (n 11).toInt ≤ ((n_36 11)).toInt; omega⟩), by rw [ht]; exact hP, hD, ⟨b_38, b_39, b_40, b_41, b_42, b_43, b_44, b_45, b_46, b_47, b_48, b_49, i_50, i_51, i_52, i_53, i_54, i_55, i_56, j_57, j_58, j_59, j_60, j_61, j_62, j_63, j_64, j_65, j_66⟩⟩, hS.F ht⟩) hS.2.2 dX10_hands_60
    · simp only [i_lt, i_le, i_eq, ti_200] at c_32
      refine lv_aload_n hx hb dX10_hands_32 rfl (lv_at hl 0 rfl) ?_
      refine lv_iload_n hx hb dX10_hands_33 rfl (lv_at hl 1 rfl) ?_
      refine lv_bipush (v := 7) hx hb dX10_hands_34 (by decide) ?_
      refine lv_iconst (v := -1) hx hb dX10_hands_36 (by decide) ?_
      refine lv_iconst (v := 0) hx hb dX10_hands_37 (by decide) ?_
      have hFc := free_all hD hS hA
      refine va_callv (va_runV (As := [.int v1, .int 7, .int (-1), .int 0]) (rest := []) ⟨hx, hb, hml, hown, hg⟩ (c_X10_fails l dC dI kp h0 X C F n v1 7 (-1) 0 s.heap.size ⟨b_1, b_2, b_3, b_4, b_5, b_6, b_7, b_8, b_9, b_10, b_11, b_12, i_13, i_14, i_15, i_16, i_17, i_18, i_19, j_20, j_21, j_22, j_23, j_24, j_25, j_26, j_27, j_28, j_29⟩ (by have t_0 := ti_7; have t_1 := ti_m1; have t_2 := ti_0; omega) (by have t_0 := ti_7; have t_1 := ti_m1; have t_2 := ti_0; show v1.toInt < ((n 11)).toInt; omega) (by have t_0 := ti_7; have t_1 := ti_m1; have t_2 := ti_0; show ((F 13) (Int32.toNatClampNeg v1)).toInt = 1; omega) (by have t_0 := ti_7; have t_1 := ti_m1; have t_2 := ti_0; show ((F 24) (Int32.toNatClampNeg v1)).toInt = 0; omega) (by have t_0 := ti_7; have t_1 := ti_m1; have t_2 := ti_0; omega)) (cwV 4 hg (gw_V gm_methodLink_RX10_225_yX10_fails gm_instanceMethod_yX10_fails gm_selects_RX10_yX10_fails_yX10_fails gm_initialized_RX10 gm_code_yX10_fails_cX10_fails_6_none) rfl rfl rfl (by decide +kernel) ⟨Nat.le_of_ble_eq_true rfl, Nat.le_of_ble_eq_true rfl⟩) ⟨fun a U g mk q => by obtain ⟨q0, q1, qP, qK, qD, qN⟩ := q; exact ⟨q0, q1, qP, va_K.moved (u := U) (U := U.calling g mk a) (Vm.Alike.refl U.vm) qK, qD, nx_same (u := U) (U := U.calling g mk a) rfl qN⟩, va_recv hK hP (ci := 10) (q0 := 0) rfl rfl, fun U hU hW => ⟨rfl, by rw [hU], by rw [hU]; exact hP, va_K.moved hW.alike hK, hD.weaken (fun _ _ _ _ => trivial), nx_warm hW hN⟩⟩ rfl rfl hl.1 rfl (lv_room (Nat.le_of_ble_eq_true rfl)) dX10_hands_38 ⟨Nat.le_of_ble_eq_true rfl, Nat.le_of_ble_eq_true rfl⟩) hS (fun q _ h => hFc q h) hFc (fun u_69 t H1 locs ht hvm hw hB hz1 hk1 hS => ?_)
      obtain ⟨F_70, n_71⟩ := u_69
      obtain ⟨hP, hD, hI_72⟩ := hB
      have hI_72 : I10 kp F_70 n_71 := hI_72
      obtain ⟨b_73, b_74, b_75, b_76, b_77, b_78, b_79, b_80, b_81, b_82, b_83, b_84, i_85, i_86, i_87, i_88, i_89, i_90, i_91, j_92, j_93, j_94, j_95, j_96, j_97, j_98, j_99, j_100, j_101⟩ := id hI_72
      rw [ht] at hP
      have hD := hD.weaken (fun k q _ h => hFc _ h)
      generalize H1 = H at hP hS ⊢
      have hP : va_P (dC, dI) vwCl (w10 h0 X C (F_70 0) (F_70 1) (F_70 2) (F_70 3) (F_70 4) (F_70 5) (F_70 6) (F_70 7) (F_70 8) (F_70 10) (F_70 13) (F_70 14) (F_70 15) (F_70 16) (F_70 17) (F_70 18) (F_70 19) (F_70 20) (F_70 21) (F_70 22) (F_70 23) (F_70 24) (F_70 25) (F_70 26) (F_70 27) (F_70 28) (F_70 29) (F_70 30) (F_70 31) (F_70 32) (F_70 33) (F_70 34) (F_70 35) (F_70 36) (F_70 37) (F_70 38) (F_70 39) (F_70 40) (F_70 41) (F_70 42) (F_70 43) (F_70 49) (F_70 50) (F_70 51) (F_70 52) (F_70 53) (F_70 54) (F_70 55) (F_70 56) (F_70 57) (F_70 58) (F_70 59) (n_71 9) (n_71 11) (n_71 12) (n_71 44) (n_71 45) (n_71 46) (n_71 47) (n_71 48)) H := hP
      have hD : va_D A (w10 h0 X C (F_70 0) (F_70 1) (F_70 2) (F_70 3) (F_70 4) (F_70 5) (F_70 6) (F_70 7) (F_70 8) (F_70 10) (F_70 13) (F_70 14) (F_70 15) (F_70 16) (F_70 17) (F_70 18) (F_70 19) (F_70 20) (F_70 21) (F_70 22) (F_70 23) (F_70 24) (F_70 25) (F_70 26) (F_70 27) (F_70 28) (F_70 29) (F_70 30) (F_70 31) (F_70 32) (F_70 33) (F_70 34) (F_70 35) (F_70 36) (F_70 37) (F_70 38) (F_70 39) (F_70 40) (F_70 41) (F_70 42) (F_70 43) (F_70 49) (F_70 50) (F_70 51) (F_70 52) (F_70 53) (F_70 54) (F_70 55) (F_70 56) (F_70 57) (F_70 58) (F_70 59) (n_71 9) (n_71 11) (n_71 12) (n_71 44) (n_71 45) (n_71 46) (n_71 47) (n_71 48)) := hD
      have w_102 : ((n 11)).toInt ≤ (n_71 11).toInt := hw
      try simp only [upd_eq] at w_102
      refine lv_iconst (v := 0) hx hb dX10_hands_41 (by decide) ?_
      exact W.zret (v := 0) hx hb hr rfl (fun t ht hW => ⟨⟨0, (F_70, n_71), rfl, (Or.inr ⟨rfl, by show (n 11).toInt ≤ ((n_71 11)).toInt; omega⟩), by rw [ht]; exact hP, hD, ⟨b_73, b_74, b_75, b_76, b_77, b_78, b_79, b_80, b_81, b_82, b_83, b_84, i_85, i_86, i_87, i_88, i_89, i_90, i_91, j_92, j_93, j_94, j_95, j_96, j_97, j_98, j_99, j_100, j_101⟩⟩, hS.F ht⟩) hS.2.2 dX10_hands_42
  · simp only [i_lt, i_le, i_eq, ti_6] at c_31
    refine lv_aload_n hx hb dX10_hands_11 rfl (lv_at hl 0 rfl) ?_
    refine lv_iload_n hx hb dX10_hands_12 rfl (lv_at hl 1 rfl) ?_
    refine lv_bipush (v := 6) hx hb dX10_hands_13 (by decide) ?_
    refine lv_iconst (v := -1) hx hb dX10_hands_15 (by decide) ?_
    refine lv_iconst (v := 0) hx hb dX10_hands_16 (by decide) ?_
    have hFc := free_all hD hS hA
    refine va_callv (va_runV (As := [.int v1, .int 6, .int (-1), .int 0]) (rest := []) ⟨hx, hb, hml, hown, hg⟩ (c_X10_fails l dC dI kp h0 X C F n v1 6 (-1) 0 s.heap.size ⟨b_1, b_2, b_3, b_4, b_5, b_6, b_7, b_8, b_9, b_10, b_11, b_12, i_13, i_14, i_15, i_16, i_17, i_18, i_19, j_20, j_21, j_22, j_23, j_24, j_25, j_26, j_27, j_28, j_29⟩ (by have t_0 := ti_6; have t_1 := ti_m1; have t_2 := ti_0; omega) (by have t_0 := ti_6; have t_1 := ti_m1; have t_2 := ti_0; show v1.toInt < ((n 11)).toInt; omega) (by have t_0 := ti_6; have t_1 := ti_m1; have t_2 := ti_0; show ((F 13) (Int32.toNatClampNeg v1)).toInt = 1; omega) (by have t_0 := ti_6; have t_1 := ti_m1; have t_2 := ti_0; show ((F 24) (Int32.toNatClampNeg v1)).toInt = 0; omega) (by have t_0 := ti_6; have t_1 := ti_m1; have t_2 := ti_0; omega)) (cwV 4 hg (gw_V gm_methodLink_RX10_225_yX10_fails gm_instanceMethod_yX10_fails gm_selects_RX10_yX10_fails_yX10_fails gm_initialized_RX10 gm_code_yX10_fails_cX10_fails_6_none) rfl rfl rfl (by decide +kernel) ⟨Nat.le_of_ble_eq_true rfl, Nat.le_of_ble_eq_true rfl⟩) ⟨fun a U g mk q => by obtain ⟨q0, q1, qP, qK, qD, qN⟩ := q; exact ⟨q0, q1, qP, va_K.moved (u := U) (U := U.calling g mk a) (Vm.Alike.refl U.vm) qK, qD, nx_same (u := U) (U := U.calling g mk a) rfl qN⟩, va_recv hK hP (ci := 10) (q0 := 0) rfl rfl, fun U hU hW => ⟨rfl, by rw [hU], by rw [hU]; exact hP, va_K.moved hW.alike hK, hD.weaken (fun _ _ _ _ => trivial), nx_warm hW hN⟩⟩ rfl rfl hl.1 rfl (lv_room (Nat.le_of_ble_eq_true rfl)) dX10_hands_17 ⟨Nat.le_of_ble_eq_true rfl, Nat.le_of_ble_eq_true rfl⟩) hS (fun q _ h => hFc q h) hFc (fun u_104 t H1 locs ht hvm hw hB hz1 hk1 hS => ?_)
    obtain ⟨F_105, n_106⟩ := u_104
    obtain ⟨hP, hD, hI_107⟩ := hB
    have hI_107 : I10 kp F_105 n_106 := hI_107
    obtain ⟨b_108, b_109, b_110, b_111, b_112, b_113, b_114, b_115, b_116, b_117, b_118, b_119, i_120, i_121, i_122, i_123, i_124, i_125, i_126, j_127, j_128, j_129, j_130, j_131, j_132, j_133, j_134, j_135, j_136⟩ := id hI_107
    rw [ht] at hP
    have hD := hD.weaken (fun k q _ h => hFc _ h)
    generalize H1 = H at hP hS ⊢
    have hP : va_P (dC, dI) vwCl (w10 h0 X C (F_105 0) (F_105 1) (F_105 2) (F_105 3) (F_105 4) (F_105 5) (F_105 6) (F_105 7) (F_105 8) (F_105 10) (F_105 13) (F_105 14) (F_105 15) (F_105 16) (F_105 17) (F_105 18) (F_105 19) (F_105 20) (F_105 21) (F_105 22) (F_105 23) (F_105 24) (F_105 25) (F_105 26) (F_105 27) (F_105 28) (F_105 29) (F_105 30) (F_105 31) (F_105 32) (F_105 33) (F_105 34) (F_105 35) (F_105 36) (F_105 37) (F_105 38) (F_105 39) (F_105 40) (F_105 41) (F_105 42) (F_105 43) (F_105 49) (F_105 50) (F_105 51) (F_105 52) (F_105 53) (F_105 54) (F_105 55) (F_105 56) (F_105 57) (F_105 58) (F_105 59) (n_106 9) (n_106 11) (n_106 12) (n_106 44) (n_106 45) (n_106 46) (n_106 47) (n_106 48)) H := hP
    have hD : va_D A (w10 h0 X C (F_105 0) (F_105 1) (F_105 2) (F_105 3) (F_105 4) (F_105 5) (F_105 6) (F_105 7) (F_105 8) (F_105 10) (F_105 13) (F_105 14) (F_105 15) (F_105 16) (F_105 17) (F_105 18) (F_105 19) (F_105 20) (F_105 21) (F_105 22) (F_105 23) (F_105 24) (F_105 25) (F_105 26) (F_105 27) (F_105 28) (F_105 29) (F_105 30) (F_105 31) (F_105 32) (F_105 33) (F_105 34) (F_105 35) (F_105 36) (F_105 37) (F_105 38) (F_105 39) (F_105 40) (F_105 41) (F_105 42) (F_105 43) (F_105 49) (F_105 50) (F_105 51) (F_105 52) (F_105 53) (F_105 54) (F_105 55) (F_105 56) (F_105 57) (F_105 58) (F_105 59) (n_106 9) (n_106 11) (n_106 12) (n_106 44) (n_106 45) (n_106 46) (n_106 47) (n_106 48)) := hD
    have w_137 : ((n 11)).toInt ≤ (n_106 11).toInt := hw
    try simp only [upd_eq] at w_137
    refine lv_iconst (v := 0) hx hb dX10_hands_20 (by decide) ?_
    exact W.zret (v := 0) hx hb hr rfl (fun t ht hW => ⟨⟨0, (F_105, n_106), rfl, (Or.inr ⟨rfl, by show (n 11).toInt ≤ ((n_106 11)).toInt; omega⟩), by rw [ht]; exact hP, hD, ⟨b_108, b_109, b_110, b_111, b_112, b_113, b_114, b_115, b_116, b_117, b_118, b_119, i_120, i_121, i_122, i_123, i_124, i_125, i_126, j_127, j_128, j_129, j_130, j_131, j_132, j_133, j_134, j_135, j_136⟩⟩, hS.F ht⟩) hS.2.2 dX10_hands_21
