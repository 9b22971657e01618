def nx (U : State) : Prop := va_Nw (.methodLinkNest RX9 24 yX3_init "ErrandGuild") U ∧ va_Nw (.methodLinkNest RX9 61 yX1_init "ErrandGuild") U ∧ va_Nw (.methodLinkNest RX3 22 yX9_isErrand "ErrandGuild") U ∧ va_Nw (.methodLinkNest RX7 11 yX4_init "ErrandGuild") U ∧ va_Nw (.methodLinkNest RX7 20 yX6_init "ErrandGuild") U ∧ va_Nw (.methodLinkNest RX7 27 yX8_init "ErrandGuild") U ∧ va_Nw (.methodLinkNest RX7 34 yX2_init "ErrandGuild") U ∧ va_Nw (.methodLinkNest RX6 22 yX9_isSlot "ErrandGuild") U ∧ va_AO RX1 U ∧ va_AO RX7 U
theorem nx_RX9_24 {U : State} (h : nx U) : va_Nw (.methodLinkNest RX9 24 yX3_init "ErrandGuild") U := h.1
theorem nx_RX9_61 {U : State} (h : nx U) : va_Nw (.methodLinkNest RX9 61 yX1_init "ErrandGuild") U := h.2.1
theorem nx_RX3_22 {U : State} (h : nx U) : va_Nw (.methodLinkNest RX3 22 yX9_isErrand "ErrandGuild") U := h.2.2.1
theorem nx_RX7_11 {U : State} (h : nx U) : va_Nw (.methodLinkNest RX7 11 yX4_init "ErrandGuild") U := h.2.2.2.1
theorem nx_RX7_20 {U : State} (h : nx U) : va_Nw (.methodLinkNest RX7 20 yX6_init "ErrandGuild") U := h.2.2.2.2.1
theorem nx_RX7_27 {U : State} (h : nx U) : va_Nw (.methodLinkNest RX7 27 yX8_init "ErrandGuild") U := h.2.2.2.2.2.1
theorem nx_RX7_34 {U : State} (h : nx U) : va_Nw (.methodLinkNest RX7 34 yX2_init "ErrandGuild") U := h.2.2.2.2.2.2.1
theorem nx_RX6_22 {U : State} (h : nx U) : va_Nw (.methodLinkNest RX6 22 yX9_isSlot "ErrandGuild") U := h.2.2.2.2.2.2.2.1
theorem nx_ao1 {U : State} (h : nx U) : va_AO RX1 U := h.2.2.2.2.2.2.2.2.1
theorem nx_ao7 {U : State} (h : nx U) : va_AO RX7 U := h.2.2.2.2.2.2.2.2.2
theorem nx_warm {s U : State} (hW : s.WarmedH U.vm) (h : nx s) : nx U := ⟨va_Nw.warmM hW h.1, va_Nw.warmM hW h.2.1, va_Nw.warmM hW h.2.2.1, va_Nw.warmM hW h.2.2.2.1, va_Nw.warmM hW h.2.2.2.2.1, va_Nw.warmM hW h.2.2.2.2.2.1, va_Nw.warmM hW h.2.2.2.2.2.2.1, va_Nw.warmM hW h.2.2.2.2.2.2.2.1, va_AO.moved hW.alike h.2.2.2.2.2.2.2.2.1, va_AO.moved hW.alike h.2.2.2.2.2.2.2.2.2⟩
theorem nx_same {u U : State} (e : u.vm = U.vm) (h : nx u) : nx U := ⟨va_Nw.same rfl e h.1, va_Nw.same rfl e h.2.1, va_Nw.same rfl e h.2.2.1, va_Nw.same rfl e h.2.2.2.1, va_Nw.same rfl e h.2.2.2.2.1, va_Nw.same rfl e h.2.2.2.2.2.1, va_Nw.same rfl e h.2.2.2.2.2.2.1, va_Nw.same rfl e h.2.2.2.2.2.2.2.1, va_AO.moved (e ▸ Vm.Alike.refl u.vm) h.2.2.2.2.2.2.2.2.1, va_AO.moved (e ▸ Vm.Alike.refl u.vm) h.2.2.2.2.2.2.2.2.2⟩
theorem nil_P {D : va_G} {cl : List vw_C} {H : Heap} : va_P D cl [] H := fun k q h => by simp at h
theorem nil_D {A : Nat → Prop} : va_D A [] := ⟨fun i j p q h => by simp at h, fun k q h => by simp at h⟩
theorem i_lt {x y : Int32} : x < y ↔ x.toInt < y.toInt := Int32.lt_iff_toInt_lt
theorem i_le {x y : Int32} : x ≤ y ↔ x.toInt ≤ y.toInt := Int32.le_iff_toInt_le
theorem i_eq {x y : Int32} : x = y ↔ x.toInt = y.toInt := Int32.toInt_inj.symm
theorem ti_m1 : (-1 : Int32).toInt = -1 := by decide
theorem ti_0 : (0 : Int32).toInt = 0 := by decide
theorem ti_1 : (1 : Int32).toInt = 1 := by decide
theorem ti_2 : (2 : Int32).toInt = 2 := by decide
theorem ti_3 : (3 : Int32).toInt = 3 := by decide
theorem ti_4 : (4 : Int32).toInt = 4 := by decide
theorem ti_5 : (5 : Int32).toInt = 5 := by decide
theorem ti_6 : (6 : Int32).toInt = 6 := by decide
theorem ti_7 : (7 : Int32).toInt = 7 := by decide
theorem ti_8 : (8 : Int32).toInt = 8 := by decide
theorem ti_9 : (9 : Int32).toInt = 9 := by decide
theorem ti_12 : (12 : Int32).toInt = 12 := by decide
theorem ti_16 : (16 : Int32).toInt = 16 := by decide
theorem ti_24 : (24 : Int32).toInt = 24 := by decide
theorem ti_32 : (32 : Int32).toInt = 32 := by decide
theorem ti_100 : (100 : Int32).toInt = 100 := by decide
theorem ti_200 : (200 : Int32).toInt = 200 := by decide
theorem ti_256 : (256 : Int32).toInt = 256 := by decide
theorem ti_600 : (600 : Int32).toInt = 600 := by decide
theorem ti_1000 : (1000 : Int32).toInt = 1000 := by decide
theorem ti_2000 : (2000 : Int32).toInt = 2000 := by decide
theorem ti_310000 : (310000 : Int32).toInt = 310000 := by decide
theorem bm {k : Int} (h : -2147483648 ≤ k ∧ k < 2147483648) : k.bmod (2 ^ 32) = k := by
  show (if k % 4294967296 < (4294967296 + 1) / 2 then k % 4294967296 else k % 4294967296 - 4294967296) = k
  split <;> omega
theorem ar_add {z x y : Int32} {i j : Int} (hx : x.toInt = i) (hy : y.toInt = j) (e : z = x + y) (h : -2147483648 ≤ i + j ∧ i + j < 2147483648) : z.toInt = i + j := by
  rw [e, Int32.toInt_add, hx, hy]
  exact bm h
theorem ar_sub {z x y : Int32} {i j : Int} (hx : x.toInt = i) (hy : y.toInt = j) (e : z = x - y) (h : -2147483648 ≤ i - j ∧ i - j < 2147483648) : z.toInt = i - j := by
  rw [e, Int32.toInt_sub, hx, hy]
  exact bm h
theorem ar_mul {z x y : Int32} {i j : Int} (hx : x.toInt = i) (hy : y.toInt = j) (e : z = x * y) (h : -2147483648 ≤ i * j ∧ i * j < 2147483648) : z.toInt = i * j := by
  rw [e, Int32.toInt_mul, hx, hy]
  exact bm h
theorem cl_lt {x : Int32} {n : Nat} (h0 : 0 ≤ x.toInt) (h1 : x.toInt < n) : x.toNatClampNeg < n := by
  show x.toInt.toNat < n
  omega
abbrev wS : Type := (Nat → Nat) × (Nat → ClassId) × (Nat → Nat → Int32) × (Nat → Nat → Option Nat)
theorem df_X9 : ∀ j, j < 15 → defaultValue (tyX9 j) = vp_V [.null, .null, .null, .null, .null, .int 0, .null, .int 0, .int 0, .null, .int 0, .null, .int 0, .null, .int 0] j := fun j hj => by rcases (show j = 0 ∨ j = 1 ∨ j = 2 ∨ j = 3 ∨ j = 4 ∨ j = 5 ∨ j = 6 ∨ j = 7 ∨ j = 8 ∨ j = 9 ∨ j = 10 ∨ j = 11 ∨ j = 12 ∨ j = 13 ∨ j = 14 by omega) with rfl | rfl | rfl | rfl | rfl | rfl | rfl | rfl | rfl | rfl | rfl | rfl | rfl | rfl | rfl <;> rfl
