theorem upF_id (F : Nat → Nat → Int32) (k : Nat) : upF F k (F k) = F := by
  funext j; unfold upF; by_cases h : j = k
  · rw [if_pos h, h] <;> rfl
  · rw [if_neg h] <;> rfl
theorem upF_idg {G : Nat → Nat → Int32} {k : Nat} {g : Nat → Int32} (h : G k = g) : upF G k g = G := by rw [← h, upF_id] <;> rfl
theorem upF_self (F : Nat → Nat → Int32) (k : Nat) (g h : Nat → Int32) : upF (upF F k g) k h = upF F k h := by
  funext j; unfold upF; by_cases e : j = k
  · rw [if_pos e, if_pos e] <;> rfl
  · rw [if_neg e, if_neg e, if_neg e] <;> rfl
theorem upF_comm (F : Nat → Nat → Int32) {k1 k2 : Nat} (g h : Nat → Int32) (hk : k2 < k1) : upF (upF F k1 g) k2 h = upF (upF F k2 h) k1 g := by
  funext j; unfold upF; by_cases e : j = k2
  · rw [if_pos e, if_neg (by omega), if_pos e] <;> rfl
  · rw [if_neg e]; by_cases e1 : j = k1
    · rw [if_pos e1, if_pos e1] <;> rfl
    · rw [if_neg e1, if_neg e1, if_neg e] <;> rfl
theorem uc_2_10 (F : Nat → Nat → Int32) (g h : Nat → Int32) : upF (upF F 10 g) 2 h = upF (upF F 2 h) 10 g := upF_comm _ _ _ (by decide)
theorem uc_10_13 (F : Nat → Nat → Int32) (g h : Nat → Int32) : upF (upF F 13 g) 10 h = upF (upF F 10 h) 13 g := upF_comm _ _ _ (by decide)
theorem uc_10_18 (F : Nat → Nat → Int32) (g h : Nat → Int32) : upF (upF F 18 g) 10 h = upF (upF F 10 h) 18 g := upF_comm _ _ _ (by decide)
theorem uc_10_23 (F : Nat → Nat → Int32) (g h : Nat → Int32) : upF (upF F 23 g) 10 h = upF (upF F 10 h) 23 g := upF_comm _ _ _ (by decide)
theorem uc_10_35 (F : Nat → Nat → Int32) (g h : Nat → Int32) : upF (upF F 35 g) 10 h = upF (upF F 10 h) 35 g := upF_comm _ _ _ (by decide)
theorem uc_13_18 (F : Nat → Nat → Int32) (g h : Nat → Int32) : upF (upF F 18 g) 13 h = upF (upF F 13 h) 18 g := upF_comm _ _ _ (by decide)
theorem uc_13_22 (F : Nat → Nat → Int32) (g h : Nat → Int32) : upF (upF F 22 g) 13 h = upF (upF F 13 h) 22 g := upF_comm _ _ _ (by decide)
theorem uc_13_23 (F : Nat → Nat → Int32) (g h : Nat → Int32) : upF (upF F 23 g) 13 h = upF (upF F 13 h) 23 g := upF_comm _ _ _ (by decide)
theorem uc_13_24 (F : Nat → Nat → Int32) (g h : Nat → Int32) : upF (upF F 24 g) 13 h = upF (upF F 13 h) 24 g := upF_comm _ _ _ (by decide)
theorem uc_13_25 (F : Nat → Nat → Int32) (g h : Nat → Int32) : upF (upF F 25 g) 13 h = upF (upF F 13 h) 25 g := upF_comm _ _ _ (by decide)
theorem uc_13_26 (F : Nat → Nat → Int32) (g h : Nat → Int32) : upF (upF F 26 g) 13 h = upF (upF F 13 h) 26 g := upF_comm _ _ _ (by decide)
theorem uc_13_27 (F : Nat → Nat → Int32) (g h : Nat → Int32) : upF (upF F 27 g) 13 h = upF (upF F 13 h) 27 g := upF_comm _ _ _ (by decide)
theorem uc_13_35 (F : Nat → Nat → Int32) (g h : Nat → Int32) : upF (upF F 35 g) 13 h = upF (upF F 13 h) 35 g := upF_comm _ _ _ (by decide)
theorem uc_13_36 (F : Nat → Nat → Int32) (g h : Nat → Int32) : upF (upF F 36 g) 13 h = upF (upF F 13 h) 36 g := upF_comm _ _ _ (by decide)
theorem uc_13_39 (F : Nat → Nat → Int32) (g h : Nat → Int32) : upF (upF F 39 g) 13 h = upF (upF F 13 h) 39 g := upF_comm _ _ _ (by decide)
theorem uc_18_23 (F : Nat → Nat → Int32) (g h : Nat → Int32) : upF (upF F 23 g) 18 h = upF (upF F 18 h) 23 g := upF_comm _ _ _ (by decide)
theorem uc_18_35 (F : Nat → Nat → Int32) (g h : Nat → Int32) : upF (upF F 35 g) 18 h = upF (upF F 18 h) 35 g := upF_comm _ _ _ (by decide)
theorem uc_19_20 (F : Nat → Nat → Int32) (g h : Nat → Int32) : upF (upF F 20 g) 19 h = upF (upF F 19 h) 20 g := upF_comm _ _ _ (by decide)
theorem uc_19_26 (F : Nat → Nat → Int32) (g h : Nat → Int32) : upF (upF F 26 g) 19 h = upF (upF F 19 h) 26 g := upF_comm _ _ _ (by decide)
theorem uc_19_27 (F : Nat → Nat → Int32) (g h : Nat → Int32) : upF (upF F 27 g) 19 h = upF (upF F 19 h) 27 g := upF_comm _ _ _ (by decide)
theorem uc_19_28 (F : Nat → Nat → Int32) (g h : Nat → Int32) : upF (upF F 28 g) 19 h = upF (upF F 19 h) 28 g := upF_comm _ _ _ (by decide)
theorem uc_19_29 (F : Nat → Nat → Int32) (g h : Nat → Int32) : upF (upF F 29 g) 19 h = upF (upF F 19 h) 29 g := upF_comm _ _ _ (by decide)
theorem uc_19_30 (F : Nat → Nat → Int32) (g h : Nat → Int32) : upF (upF F 30 g) 19 h = upF (upF F 19 h) 30 g := upF_comm _ _ _ (by decide)
theorem uc_19_31 (F : Nat → Nat → Int32) (g h : Nat → Int32) : upF (upF F 31 g) 19 h = upF (upF F 19 h) 31 g := upF_comm _ _ _ (by decide)
theorem uc_20_24 (F : Nat → Nat → Int32) (g h : Nat → Int32) : upF (upF F 24 g) 20 h = upF (upF F 20 h) 24 g := upF_comm _ _ _ (by decide)
theorem uc_20_25 (F : Nat → Nat → Int32) (g h : Nat → Int32) : upF (upF F 25 g) 20 h = upF (upF F 20 h) 25 g := upF_comm _ _ _ (by decide)
theorem uc_20_26 (F : Nat → Nat → Int32) (g h : Nat → Int32) : upF (upF F 26 g) 20 h = upF (upF F 20 h) 26 g := upF_comm _ _ _ (by decide)
theorem uc_20_27 (F : Nat → Nat → Int32) (g h : Nat → Int32) : upF (upF F 27 g) 20 h = upF (upF F 20 h) 27 g := upF_comm _ _ _ (by decide)
theorem uc_20_28 (F : Nat → Nat → Int32) (g h : Nat → Int32) : upF (upF F 28 g) 20 h = upF (upF F 20 h) 28 g := upF_comm _ _ _ (by decide)
theorem uc_20_29 (F : Nat → Nat → Int32) (g h : Nat → Int32) : upF (upF F 29 g) 20 h = upF (upF F 20 h) 29 g := upF_comm _ _ _ (by decide)
theorem uc_20_30 (F : Nat → Nat → Int32) (g h : Nat → Int32) : upF (upF F 30 g) 20 h = upF (upF F 20 h) 30 g := upF_comm _ _ _ (by decide)
theorem uc_20_31 (F : Nat → Nat → Int32) (g h : Nat → Int32) : upF (upF F 31 g) 20 h = upF (upF F 20 h) 31 g := upF_comm _ _ _ (by decide)
theorem uc_20_36 (F : Nat → Nat → Int32) (g h : Nat → Int32) : upF (upF F 36 g) 20 h = upF (upF F 20 h) 36 g := upF_comm _ _ _ (by decide)
theorem uc_20_39 (F : Nat → Nat → Int32) (g h : Nat → Int32) : upF (upF F 39 g) 20 h = upF (upF F 20 h) 39 g := upF_comm _ _ _ (by decide)
theorem uc_20_40 (F : Nat → Nat → Int32) (g h : Nat → Int32) : upF (upF F 40 g) 20 h = upF (upF F 20 h) 40 g := upF_comm _ _ _ (by decide)
theorem uc_20_41 (F : Nat → Nat → Int32) (g h : Nat → Int32) : upF (upF F 41 g) 20 h = upF (upF F 20 h) 41 g := upF_comm _ _ _ (by decide)
theorem uc_20_43 (F : Nat → Nat → Int32) (g h : Nat → Int32) : upF (upF F 43 g) 20 h = upF (upF F 20 h) 43 g := upF_comm _ _ _ (by decide)
theorem uc_20_53 (F : Nat → Nat → Int32) (g h : Nat → Int32) : upF (upF F 53 g) 20 h = upF (upF F 20 h) 53 g := upF_comm _ _ _ (by decide)
theorem uc_20_54 (F : Nat → Nat → Int32) (g h : Nat → Int32) : upF (upF F 54 g) 20 h = upF (upF F 20 h) 54 g := upF_comm _ _ _ (by decide)
theorem uc_20_59 (F : Nat → Nat → Int32) (g h : Nat → Int32) : upF (upF F 59 g) 20 h = upF (upF F 20 h) 59 g := upF_comm _ _ _ (by decide)
theorem uc_22_36 (F : Nat → Nat → Int32) (g h : Nat → Int32) : upF (upF F 36 g) 22 h = upF (upF F 22 h) 36 g := upF_comm _ _ _ (by decide)
theorem uc_22_39 (F : Nat → Nat → Int32) (g h : Nat → Int32) : upF (upF F 39 g) 22 h = upF (upF F 22 h) 39 g := upF_comm _ _ _ (by decide)
theorem uc_23_35 (F : Nat → Nat → Int32) (g h : Nat → Int32) : upF (upF F 35 g) 23 h = upF (upF F 23 h) 35 g := upF_comm _ _ _ (by decide)
theorem uc_24_25 (F : Nat → Nat → Int32) (g h : Nat → Int32) : upF (upF F 25 g) 24 h = upF (upF F 24 h) 25 g := upF_comm _ _ _ (by decide)
theorem uc_24_26 (F : Nat → Nat → Int32) (g h : Nat → Int32) : upF (upF F 26 g) 24 h = upF (upF F 24 h) 26 g := upF_comm _ _ _ (by decide)
theorem uc_24_27 (F : Nat → Nat → Int32) (g h : Nat → Int32) : upF (upF F 27 g) 24 h = upF (upF F 24 h) 27 g := upF_comm _ _ _ (by decide)
theorem uc_24_59 (F : Nat → Nat → Int32) (g h : Nat → Int32) : upF (upF F 59 g) 24 h = upF (upF F 24 h) 59 g := upF_comm _ _ _ (by decide)
theorem uc_25_26 (F : Nat → Nat → Int32) (g h : Nat → Int32) : upF (upF F 26 g) 25 h = upF (upF F 25 h) 26 g := upF_comm _ _ _ (by decide)
theorem uc_25_27 (F : Nat → Nat → Int32) (g h : Nat → Int32) : upF (upF F 27 g) 25 h = upF (upF F 25 h) 27 g := upF_comm _ _ _ (by decide)
theorem uc_25_59 (F : Nat → Nat → Int32) (g h : Nat → Int32) : upF (upF F 59 g) 25 h = upF (upF F 25 h) 59 g := upF_comm _ _ _ (by decide)
theorem uc_26_27 (F : Nat → Nat → Int32) (g h : Nat → Int32) : upF (upF F 27 g) 26 h = upF (upF F 26 h) 27 g := upF_comm _ _ _ (by decide)
theorem uc_26_28 (F : Nat → Nat → Int32) (g h : Nat → Int32) : upF (upF F 28 g) 26 h = upF (upF F 26 h) 28 g := upF_comm _ _ _ (by decide)
theorem uc_26_29 (F : Nat → Nat → Int32) (g h : Nat → Int32) : upF (upF F 29 g) 26 h = upF (upF F 26 h) 29 g := upF_comm _ _ _ (by decide)
theorem uc_26_30 (F : Nat → Nat → Int32) (g h : Nat → Int32) : upF (upF F 30 g) 26 h = upF (upF F 26 h) 30 g := upF_comm _ _ _ (by decide)
theorem uc_26_31 (F : Nat → Nat → Int32) (g h : Nat → Int32) : upF (upF F 31 g) 26 h = upF (upF F 26 h) 31 g := upF_comm _ _ _ (by decide)
theorem uc_26_59 (F : Nat → Nat → Int32) (g h : Nat → Int32) : upF (upF F 59 g) 26 h = upF (upF F 26 h) 59 g := upF_comm _ _ _ (by decide)
theorem uc_27_28 (F : Nat → Nat → Int32) (g h : Nat → Int32) : upF (upF F 28 g) 27 h = upF (upF F 27 h) 28 g := upF_comm _ _ _ (by decide)
theorem uc_27_29 (F : Nat → Nat → Int32) (g h : Nat → Int32) : upF (upF F 29 g) 27 h = upF (upF F 27 h) 29 g := upF_comm _ _ _ (by decide)
theorem uc_27_30 (F : Nat → Nat → Int32) (g h : Nat → Int32) : upF (upF F 30 g) 27 h = upF (upF F 27 h) 30 g := upF_comm _ _ _ (by decide)
theorem uc_27_31 (F : Nat → Nat → Int32) (g h : Nat → Int32) : upF (upF F 31 g) 27 h = upF (upF F 27 h) 31 g := upF_comm _ _ _ (by decide)
theorem uc_27_59 (F : Nat → Nat → Int32) (g h : Nat → Int32) : upF (upF F 59 g) 27 h = upF (upF F 27 h) 59 g := upF_comm _ _ _ (by decide)
theorem uc_28_29 (F : Nat → Nat → Int32) (g h : Nat → Int32) : upF (upF F 29 g) 28 h = upF (upF F 28 h) 29 g := upF_comm _ _ _ (by decide)
theorem uc_28_30 (F : Nat → Nat → Int32) (g h : Nat → Int32) : upF (upF F 30 g) 28 h = upF (upF F 28 h) 30 g := upF_comm _ _ _ (by decide)
theorem uc_28_31 (F : Nat → Nat → Int32) (g h : Nat → Int32) : upF (upF F 31 g) 28 h = upF (upF F 28 h) 31 g := upF_comm _ _ _ (by decide)
theorem uc_29_30 (F : Nat → Nat → Int32) (g h : Nat → Int32) : upF (upF F 30 g) 29 h = upF (upF F 29 h) 30 g := upF_comm _ _ _ (by decide)
theorem uc_29_31 (F : Nat → Nat → Int32) (g h : Nat → Int32) : upF (upF F 31 g) 29 h = upF (upF F 29 h) 31 g := upF_comm _ _ _ (by decide)
theorem uc_30_31 (F : Nat → Nat → Int32) (g h : Nat → Int32) : upF (upF F 31 g) 30 h = upF (upF F 30 h) 31 g := upF_comm _ _ _ (by decide)
theorem uc_32_33 (F : Nat → Nat → Int32) (g h : Nat → Int32) : upF (upF F 33 g) 32 h = upF (upF F 32 h) 33 g := upF_comm _ _ _ (by decide)
theorem uc_32_35 (F : Nat → Nat → Int32) (g h : Nat → Int32) : upF (upF F 35 g) 32 h = upF (upF F 32 h) 35 g := upF_comm _ _ _ (by decide)
theorem uc_32_36 (F : Nat → Nat → Int32) (g h : Nat → Int32) : upF (upF F 36 g) 32 h = upF (upF F 32 h) 36 g := upF_comm _ _ _ (by decide)
theorem uc_32_39 (F : Nat → Nat → Int32) (g h : Nat → Int32) : upF (upF F 39 g) 32 h = upF (upF F 32 h) 39 g := upF_comm _ _ _ (by decide)
theorem uc_32_55 (F : Nat → Nat → Int32) (g h : Nat → Int32) : upF (upF F 55 g) 32 h = upF (upF F 32 h) 55 g := upF_comm _ _ _ (by decide)
theorem uc_32_56 (F : Nat → Nat → Int32) (g h : Nat → Int32) : upF (upF F 56 g) 32 h = upF (upF F 32 h) 56 g := upF_comm _ _ _ (by decide)
theorem uc_32_57 (F : Nat → Nat → Int32) (g h : Nat → Int32) : upF (upF F 57 g) 32 h = upF (upF F 32 h) 57 g := upF_comm _ _ _ (by decide)
theorem uc_32_58 (F : Nat → Nat → Int32) (g h : Nat → Int32) : upF (upF F 58 g) 32 h = upF (upF F 32 h) 58 g := upF_comm _ _ _ (by decide)
theorem uc_33_35 (F : Nat → Nat → Int32) (g h : Nat → Int32) : upF (upF F 35 g) 33 h = upF (upF F 33 h) 35 g := upF_comm _ _ _ (by decide)
theorem uc_33_36 (F : Nat → Nat → Int32) (g h : Nat → Int32) : upF (upF F 36 g) 33 h = upF (upF F 33 h) 36 g := upF_comm _ _ _ (by decide)
theorem uc_33_39 (F : Nat → Nat → Int32) (g h : Nat → Int32) : upF (upF F 39 g) 33 h = upF (upF F 33 h) 39 g := upF_comm _ _ _ (by decide)
theorem uc_35_36 (F : Nat → Nat → Int32) (g h : Nat → Int32) : upF (upF F 36 g) 35 h = upF (upF F 35 h) 36 g := upF_comm _ _ _ (by decide)
theorem uc_35_39 (F : Nat → Nat → Int32) (g h : Nat → Int32) : upF (upF F 39 g) 35 h = upF (upF F 35 h) 39 g := upF_comm _ _ _ (by decide)
theorem uc_36_39 (F : Nat → Nat → Int32) (g h : Nat → Int32) : upF (upF F 39 g) 36 h = upF (upF F 36 h) 39 g := upF_comm _ _ _ (by decide)
theorem uc_36_40 (F : Nat → Nat → Int32) (g h : Nat → Int32) : upF (upF F 40 g) 36 h = upF (upF F 36 h) 40 g := upF_comm _ _ _ (by decide)
theorem uc_36_41 (F : Nat → Nat → Int32) (g h : Nat → Int32) : upF (upF F 41 g) 36 h = upF (upF F 36 h) 41 g := upF_comm _ _ _ (by decide)
theorem uc_36_43 (F : Nat → Nat → Int32) (g h : Nat → Int32) : upF (upF F 43 g) 36 h = upF (upF F 36 h) 43 g := upF_comm _ _ _ (by decide)
theorem uc_36_53 (F : Nat → Nat → Int32) (g h : Nat → Int32) : upF (upF F 53 g) 36 h = upF (upF F 36 h) 53 g := upF_comm _ _ _ (by decide)
theorem uc_36_54 (F : Nat → Nat → Int32) (g h : Nat → Int32) : upF (upF F 54 g) 36 h = upF (upF F 36 h) 54 g := upF_comm _ _ _ (by decide)
theorem uc_39_40 (F : Nat → Nat → Int32) (g h : Nat → Int32) : upF (upF F 40 g) 39 h = upF (upF F 39 h) 40 g := upF_comm _ _ _ (by decide)
theorem uc_39_41 (F : Nat → Nat → Int32) (g h : Nat → Int32) : upF (upF F 41 g) 39 h = upF (upF F 39 h) 41 g := upF_comm _ _ _ (by decide)
theorem uc_39_43 (F : Nat → Nat → Int32) (g h : Nat → Int32) : upF (upF F 43 g) 39 h = upF (upF F 39 h) 43 g := upF_comm _ _ _ (by decide)
theorem uc_39_53 (F : Nat → Nat → Int32) (g h : Nat → Int32) : upF (upF F 53 g) 39 h = upF (upF F 39 h) 53 g := upF_comm _ _ _ (by decide)
theorem uc_39_54 (F : Nat → Nat → Int32) (g h : Nat → Int32) : upF (upF F 54 g) 39 h = upF (upF F 39 h) 54 g := upF_comm _ _ _ (by decide)
theorem uc_40_41 (F : Nat → Nat → Int32) (g h : Nat → Int32) : upF (upF F 41 g) 40 h = upF (upF F 40 h) 41 g := upF_comm _ _ _ (by decide)
theorem uc_40_43 (F : Nat → Nat → Int32) (g h : Nat → Int32) : upF (upF F 43 g) 40 h = upF (upF F 40 h) 43 g := upF_comm _ _ _ (by decide)
theorem uc_40_53 (F : Nat → Nat → Int32) (g h : Nat → Int32) : upF (upF F 53 g) 40 h = upF (upF F 40 h) 53 g := upF_comm _ _ _ (by decide)
theorem uc_40_54 (F : Nat → Nat → Int32) (g h : Nat → Int32) : upF (upF F 54 g) 40 h = upF (upF F 40 h) 54 g := upF_comm _ _ _ (by decide)
theorem uc_41_43 (F : Nat → Nat → Int32) (g h : Nat → Int32) : upF (upF F 43 g) 41 h = upF (upF F 41 h) 43 g := upF_comm _ _ _ (by decide)
theorem uc_41_53 (F : Nat → Nat → Int32) (g h : Nat → Int32) : upF (upF F 53 g) 41 h = upF (upF F 41 h) 53 g := upF_comm _ _ _ (by decide)
theorem uc_41_54 (F : Nat → Nat → Int32) (g h : Nat → Int32) : upF (upF F 54 g) 41 h = upF (upF F 41 h) 54 g := upF_comm _ _ _ (by decide)
theorem uc_43_53 (F : Nat → Nat → Int32) (g h : Nat → Int32) : upF (upF F 53 g) 43 h = upF (upF F 43 h) 53 g := upF_comm _ _ _ (by decide)
theorem uc_43_54 (F : Nat → Nat → Int32) (g h : Nat → Int32) : upF (upF F 54 g) 43 h = upF (upF F 43 h) 54 g := upF_comm _ _ _ (by decide)
theorem uc_53_54 (F : Nat → Nat → Int32) (g h : Nat → Int32) : upF (upF F 54 g) 53 h = upF (upF F 53 h) 54 g := upF_comm _ _ _ (by decide)
theorem uc_55_56 (F : Nat → Nat → Int32) (g h : Nat → Int32) : upF (upF F 56 g) 55 h = upF (upF F 55 h) 56 g := upF_comm _ _ _ (by decide)
theorem uc_55_57 (F : Nat → Nat → Int32) (g h : Nat → Int32) : upF (upF F 57 g) 55 h = upF (upF F 55 h) 57 g := upF_comm _ _ _ (by decide)
theorem uc_55_58 (F : Nat → Nat → Int32) (g h : Nat → Int32) : upF (upF F 58 g) 55 h = upF (upF F 55 h) 58 g := upF_comm _ _ _ (by decide)
theorem uc_56_57 (F : Nat → Nat → Int32) (g h : Nat → Int32) : upF (upF F 57 g) 56 h = upF (upF F 56 h) 57 g := upF_comm _ _ _ (by decide)
theorem uc_56_58 (F : Nat → Nat → Int32) (g h : Nat → Int32) : upF (upF F 58 g) 56 h = upF (upF F 56 h) 58 g := upF_comm _ _ _ (by decide)
theorem uc_57_58 (F : Nat → Nat → Int32) (g h : Nat → Int32) : upF (upF F 58 g) 57 h = upF (upF F 57 h) 58 g := upF_comm _ _ _ (by decide)
theorem upF_eq (F : Nat → Nat → Int32) (k : Nat) (g : Nat → Int32) : upF F k g k = g := by unfold upF; rw [if_pos rfl]
theorem upF_lt (F : Nat → Nat → Int32) {k j : Nat} (g : Nat → Int32) (h : j < k) : upF F k g j = F j := by unfold upF; rw [if_neg (by omega)]
theorem upF_gt (F : Nat → Nat → Int32) {k j : Nat} (g : Nat → Int32) (h : k < j) : upF F k g j = F j := by unfold upF; rw [if_neg (by omega)]
theorem upn_id (n : Nat → Int32) (k : Nat) : upn n k (n k) = n := by
  funext j; unfold upn; by_cases h : j = k
  · rw [if_pos h, h] <;> rfl
  · rw [if_neg h] <;> rfl
theorem upn_idg {n : Nat → Int32} {k : Nat} {g : Int32} (h : n k = g) : upn n k g = n := by rw [← h, upn_id] <;> rfl
theorem upn_self (n : Nat → Int32) (k : Nat) (g h : Int32) : upn (upn n k g) k h = upn n k h := by
  funext j; unfold upn; by_cases e : j = k
  · rw [if_pos e, if_pos e] <;> rfl
  · rw [if_neg e, if_neg e, if_neg e] <;> rfl
theorem upn_comm (n : Nat → Int32) {k1 k2 : Nat} (g h : Int32) (hk : k2 < k1) : upn (upn n k1 g) k2 h = upn (upn n k2 h) k1 g := by
  funext j; unfold upn; by_cases e : j = k2
  · rw [if_pos e, if_neg (by omega), if_pos e] <;> rfl
  · rw [if_neg e]; by_cases e1 : j = k1
    · rw [if_pos e1, if_pos e1] <;> rfl
    · rw [if_neg e1, if_neg e1, if_neg e] <;> rfl
theorem upn_eq (n : Nat → Int32) (k : Nat) (g : Int32) : upn n k g k = g := by unfold upn; rw [if_pos rfl]
theorem upn_lt (n : Nat → Int32) {k j : Nat} (g : Int32) (h : j < k) : upn n k g j = n j := by unfold upn; rw [if_neg (by omega)]
theorem upn_gt (n : Nat → Int32) {k j : Nat} (g : Int32) (h : k < j) : upn n k g j = n j := by unfold upn; rw [if_neg (by omega)]
/- the reference's methods as plain functions -/
def ov10 (x : Int32) : Prop := x.toInt = 3 ∨ x.toInt = 4
def raB (F : Nat → Nat → Int32) (v : Int32) (t : Nat) (a : Int32) (k : Int32 → Int32) : Int32 :=
  if a.toInt = 0 then k 0 else if ¬ (F 15 t).toInt = v.toInt ∨ (F 27 t).toInt = 0 ∨ (F 13 t).toInt = 3 ∨ (F 13 t).toInt = 4 then k 1 else k 0
def r_aw (v : Int32) (q : Q10) : Int32 := itr (raB q.F v) (fun a => a) (Int32.toNatClampNeg (v + 1)) (Int32.toNatClampNeg (q.n 11) - Int32.toNatClampNeg (v + 1)) 1
def rfB (F : Nat → Nat → Int32) (t : Nat) (_ : Unit) (k : Unit → Int32) : Int32 := if (F 10 t).toInt = -1 then Int32.ofNat t else k ()
def r_free (q : Q10) : Int32 := itr (rfB q.F) (fun _ => -1) 0 (Int32.toNatClampNeg (q.n 9)) ()
def rlB (F : Nat → Nat → Int32) (t : Nat) (a : Int32) (k : Int32 → Int32) : Int32 :=
  if ¬ a.toInt = 0 then k 1 else if (F 13 t).toInt = 3 ∨ (F 13 t).toInt = 4 then k 0 else k 1
def r_left (q : Q10) : Int32 := itr (rlB q.F) (fun a => a) 0 (Int32.toNatClampNeg (q.n 11)) 0
def rbind (F : Nat → Nat → Int32) (v s : Int32) (k : Nat) : Int32 :=
  match k with
  | 0 => -1
  | k + 1 => if (F 37 (Int32.toNatClampNeg (24 * v + Int32.ofNat k))).toInt = s.toInt then 24 * v + Int32.ofNat k else rbind F v s k
termination_by k
def r_binding (v s : Int32) (q : Q10) : Int32 := rbind q.F v s (Int32.toNatClampNeg (q.F 36 (Int32.toNatClampNeg v)))
def r_reads (v s : Int32) (q : Q10) : Int32 :=
  if (q.F 0 (Int32.toNatClampNeg s)).toInt = 0 then (if ¬ (q.F 35 (Int32.toNatClampNeg (8 * v + s))).toInt = 0 ∧ ¬ (q.F 18 (Int32.toNatClampNeg v)).toInt = -1 then q.F 34 (Int32.toNatClampNeg (8 * v + s)) else q.F 1 (Int32.toNatClampNeg s))
  else if (q.F 0 (Int32.toNatClampNeg s)).toInt = 1 then (if ¬ (q.F 35 (Int32.toNatClampNeg (8 * v + s))).toInt = 0 then q.F 34 (Int32.toNatClampNeg (8 * v + s)) else q.F 33 (Int32.toNatClampNeg (8 * v + s)))
  else if (q.F 0 (Int32.toNatClampNeg s)).toInt = 2 then (if ¬ (q.F 35 (Int32.toNatClampNeg (8 * q.F 16 (Int32.toNatClampNeg v) + s))).toInt = 0 then q.F 34 (Int32.toNatClampNeg (8 * q.F 16 (Int32.toNatClampNeg v) + s)) else q.F 1 (Int32.toNatClampNeg s))
  else if (q.F 0 (Int32.toNatClampNeg s)).toInt = 3 then (if (r_binding v s q).toInt = -1 then q.F 33 (Int32.toNatClampNeg (8 * v + s)) else q.F 38 (Int32.toNatClampNeg (r_binding v s q)))
  else (if ¬ (q.F 35 (Int32.toNatClampNeg (8 * v + s))).toInt = 0 then q.F 34 (Int32.toNatClampNeg (8 * v + s)) else q.F 1 (Int32.toNatClampNeg s))
/- RUNS -/
def b_comes (r v : Int32) (t : Nat) (q : Q10) (k : Q10 → Q10 × Int32) : Q10 × Int32 :=
  let F1 := upF q.F 35 (upd (q.F 35) (Int32.toNatClampNeg (8 * r + Int32.ofNat t)) 0)
  if v.toInt = -1 then k ⟨upF (upF q.F 33 (upd (q.F 33) (Int32.toNatClampNeg (8 * r + Int32.ofNat t)) (q.F 1 t))) 35 (upd (q.F 35) (Int32.toNatClampNeg (8 * r + Int32.ofNat t)) 0), q.n⟩
  else k ⟨upF (upF q.F 33 (upd (q.F 33) (Int32.toNatClampNeg (8 * r + Int32.ofNat t)) (r_reads v (Int32.ofNat t) ⟨F1, q.n⟩))) 35 (upd (q.F 35) (Int32.toNatClampNeg (8 * r + Int32.ofNat t)) 0), q.n⟩
def c_comes (e v : Int32) (ro de ga : Int32) (q : Q10) : Q10 :=
  let r := Int32.toNatClampNeg (q.n 11)
  ⟨upF (upF (upF (upF (upF (upF (upF (upF (upF (upF (upF (upF (upF (upF (upF (upF (upF (upF q.F 13 (upd (q.F 13) r 0)) 14 (upd (q.F 14) r e)) 15 (upd (q.F 15) r v)) 16 (upd (q.F 16) r ro)) 17 (upd (q.F 17) r de)) 18 (upd (q.F 18) r (-1))) 19 (upd (q.F 19) r 0)) 20 (upd (q.F 20) r 0)) 21 (upd (q.F 21) r ga)) 22 (upd (q.F 22) r (-1))) 23 (upd (q.F 23) r 0)) 24 (upd (q.F 24) r 0)) 25 (upd (q.F 25) r 0)) 26 (upd (q.F 26) r 0)) 27 (upd (q.F 27) r 0)) 32 (upd (q.F 32) r 0)) 36 (upd (q.F 36) r 0)) 39 (upd (q.F 39) r 0), upn q.n 11 (q.n 11 + 1)⟩
def r_comes (e v : Int32) (q : Q10) : Q10 × Int32 :=
  if v.toInt = -1 then itr (b_comes (q.n 11) v) (fun p => (p, q.n 11)) 0 8 (c_comes e v (q.n 11) 0 (-1) q)
  else itr (b_comes (q.n 11) v) (fun p => (p, q.n 11)) 0 8 (c_comes e v (q.F 16 (Int32.toNatClampNeg v)) (q.F 17 (Int32.toNatClampNeg v) + 1) (upd (q.F 20) (Int32.toNatClampNeg (q.n 11)) 0 (Int32.toNatClampNeg v)) q)
def r_submit (e : Int32) (q : Q10) : Q10 × Int32 := if 0 ≤ e.toInt ∧ e.toInt < 8 ∧ ¬ (q.n 11).toInt = 200 then r_comes e (-1) q else (q, -1)
def r_leaves (v : Int32) (q : Q10) : Q10 := ⟨upF (upF q.F 10 (upd (q.F 10) (Int32.toNatClampNeg (q.F 18 (Int32.toNatClampNeg v))) (-1))) 18 (upd (q.F 18) (Int32.toNatClampNeg v) (-1)), q.n⟩
/- FAILURES -/
def a_asks (r x : Int32) (t : Nat) (p : Q10 × Int32) (k : Q10 × Int32 → Q10) : Q10 :=
  if ¬ (p.1.F 6 (Int32.toNatClampNeg x)).toInt = 0 then
    let h := p.1.n 47
    if h.toInt < 600 then
      if ¬ (p.1.F 7 (Int32.toNatClampNeg x)).toInt = 0 then k (⟨upF (upF (upF (upF p.1.F 55 (upd (p.1.F 55) (Int32.toNatClampNeg h) r)) 56 (upd (p.1.F 56) (Int32.toNatClampNeg h) (Int32.ofNat t))) 57 (upd (p.1.F 57) (Int32.toNatClampNeg h) (p.1.F 8 (Int32.toNatClampNeg x)))) 58 (upd (p.1.F 58) (Int32.toNatClampNeg h) 1), upn p.1.n 47 (h + 1)⟩, p.1.F 7 (Int32.toNatClampNeg x))
      else k (⟨upF (upF (upF (upF p.1.F 55 (upd (p.1.F 55) (Int32.toNatClampNeg h) r)) 56 (upd (p.1.F 56) (Int32.toNatClampNeg h) (Int32.ofNat t))) 57 (upd (p.1.F 57) (Int32.toNatClampNeg h) (p.1.F 8 (Int32.toNatClampNeg x)))) 58 (upd (p.1.F 58) (Int32.toNatClampNeg h) 0), upn p.1.n 47 (h + 1)⟩, p.1.F 7 (Int32.toNatClampNeg x))
    else k (⟨p.1.F, upn p.1.n 47 (h + 1)⟩, p.1.F 7 (Int32.toNatClampNeg x))
  else k p
def b_asks (r : Int32) (t : Nat) (p : Q10 × Int32) (k : Q10 × Int32 → Q10) : Q10 :=
  if ¬ p.2.toInt = 0 then
    if t = 0 then a_asks r (p.1.F 14 (Int32.toNatClampNeg r)) t p k else if t = 1 then a_asks r (8 + p.1.F 28 (Int32.toNatClampNeg r)) t p k else a_asks r 16 t p k
  else p.1
def r_asks (r : Int32) (q : Q10) : Q10 := itr (b_asks r) (fun p => p.1) 0 3 (⟨upF q.F 32 (upd (q.F 32) (Int32.toNatClampNeg r) 1), q.n⟩, 1)
def b_goes (r : Int32) (t : Nat) (q : Q10) (k : Q10 → Q10) : Q10 :=
  if (q.F 15 t).toInt = r.toInt ∧ (q.F 13 t).toInt = 4 ∧ (q.F 26 t).toInt = 0 ∧ (q.F 32 t).toInt = 0 then k (r_asks (Int32.ofNat t) q) else k q
def f_goes (r : Int32) (q : Q10) : Q10 := itr (b_goes r) (fun p => p) (Int32.toNatClampNeg (r + 1)) (Int32.toNatClampNeg (q.n 11) - Int32.toNatClampNeg (r + 1)) q
def r_goes (r h : Int32) (q : Q10) : Q10 :=
  let q1 := r_leaves r ⟨upF (upF (upF (upF q.F 13 (upd (q.F 13) (Int32.toNatClampNeg r) h)) 22 (upd (q.F 22) (Int32.toNatClampNeg r) (q.n 12))) 36 (upd (q.F 36) (Int32.toNatClampNeg r) 0)) 39 (upd (q.F 39) (Int32.toNatClampNeg r) 0), q.n⟩
  if h.toInt = 4 then
    if (q1.F 15 (Int32.toNatClampNeg r)).toInt = -1 then f_goes r (r_asks r q1)
    else if ((q1.F 13 (Int32.toNatClampNeg (q1.F 15 (Int32.toNatClampNeg r)))).toInt = 3 ∨ (q1.F 13 (Int32.toNatClampNeg (q1.F 15 (Int32.toNatClampNeg r)))).toInt = 4) ∧ (q1.F 26 (Int32.toNatClampNeg r)).toInt = 0 then f_goes r (r_asks r q1)
    else f_goes r q1
  else f_goes r q1
def rtry (F : Nat → Nat → Int32) (v kd : Int32) (k : Nat) : Int32 :=
  match k with
  | 0 => -1
  | k + 1 => if ¬ (F 40 (Int32.toNatClampNeg (24 * v + Int32.ofNat k))).toInt = kd.toInt ∧ ¬ (F 40 (Int32.toNatClampNeg (24 * v + Int32.ofNat k))).toInt = 8 then rtry F v kd k else Int32.ofNat k
termination_by k
/-- BINDINGS that are taken off: f is bindMany -/
def rpop (F : Nat → Nat → Int32) (v t : Int32) (N k : Nat) (f : Nat → Int32) : Nat → Int32 :=
  match k with
  | 0 => f
  | k + 1 => if 0 < (f (Int32.toNatClampNeg v)).toInt ∧ (F 43 (Int32.toNatClampNeg (24 * v + t))).toInt ≤ (F 42 (Int32.toNatClampNeg (24 * v + f (Int32.toNatClampNeg v) - 1))).toInt then rpop F v t N k (upd f (Int32.toNatClampNeg v) (f (Int32.toNatClampNeg v) - 1)) else f
termination_by k
def c_fails (v kd ca ot t : Int32) (q : Q10) : Q10 :=
  if 0 ≤ t.toInt then
    ⟨upF (upF (upF q.F 20 (upd (q.F 20) (Int32.toNatClampNeg v) (q.F 41 (Int32.toNatClampNeg (24 * v + t))))) 36 (rpop q.F v t 0 (Int32.toNatClampNeg (q.F 36 (Int32.toNatClampNeg v)) + 1) (q.F 36))) 39 (upd (q.F 39) (Int32.toNatClampNeg v) t), q.n⟩
  else r_goes v 4 ⟨upF (upF (upF (upF q.F 28 (upd (q.F 28) (Int32.toNatClampNeg v) kd)) 29 (upd (q.F 29) (Int32.toNatClampNeg v) (q.F 20 (Int32.toNatClampNeg v)))) 30 (upd (q.F 30) (Int32.toNatClampNeg v) ca)) 31 (upd (q.F 31) (Int32.toNatClampNeg v) ot), q.n⟩
def r_fails (v kd ca ot : Int32) (q : Q10) : Q10 := c_fails v kd ca ot (rtry q.F v kd (Int32.toNatClampNeg (q.F 39 (Int32.toNatClampNeg v)))) q
/- waiting -/
def b_gathers (r : Int32) (t : Nat) (p : Q10 × Int32 × Int32) (k : Q10 × Int32 × Int32 → Q10) : Q10 :=
  if (p.1.F 15 t).toInt = r.toInt ∧ ¬ (p.1.F 27 t).toInt = 0 then
    if (p.1.F 13 t).toInt = 3 then
      k (⟨upF (upF (upF p.1.F 19 (upd (p.1.F 19) (Int32.toNatClampNeg r) (p.1.F 19 (Int32.toNatClampNeg r) + p.1.F 19 t))) 26 (upd (p.1.F 26) t 1)) 27 (upd (p.1.F 27) t 0), p.1.n⟩, p.2.1, p.2.2)
    else k (⟨upF (upF p.1.F 26 (upd (p.1.F 26) t 1)) 27 (upd (p.1.F 27) t 0), p.1.n⟩, (if p.2.1.toInt = -1 then Int32.ofNat t else p.2.1), p.2.2 + 1)
  else k p
def f_gathers (r : Int32) (p : Q10 × Int32 × Int32) : Q10 :=
  if p.2.1.toInt = -1 then ⟨upF p.1.F 20 (upd (p.1.F 20) (Int32.toNatClampNeg r) (p.1.F 20 (Int32.toNatClampNeg r) + 1)), p.1.n⟩
  else r_fails r (p.1.F 28 (Int32.toNatClampNeg p.2.1)) p.2.1 (p.2.2 - 1) p.1
def r_gathers (r : Int32) (q : Q10) : Q10 := itr (b_gathers r) (f_gathers r) (Int32.toNatClampNeg (r + 1)) (Int32.toNatClampNeg (q.n 11) - Int32.toNatClampNeg (r + 1)) (q, -1, 0)
def r_waits (v : Int32) (q : Q10) : Q10 := r_leaves v ⟨upF (upF q.F 13 (upd (q.F 13) (Int32.toNatClampNeg v) 2)) 24 (upd (q.F 24) (Int32.toNatClampNeg v) 1), q.n⟩
def r_hands (v e w : Int32) (q : Q10) : Q10 × Int32 :=
  if (q.F 17 (Int32.toNatClampNeg v)).toInt = 6 then (r_fails v 6 (-1) 0 q, 0)
  else if (q.n 11).toInt = 200 then (r_fails v 7 (-1) 0 q, 0)
  else
    let p := r_comes e v q
    (⟨upF p.1.F 27 (upd (p.1.F 27) (Int32.toNatClampNeg p.2) (vp_nar .boolean w)), p.1.n⟩, 1)
/- a STEP -/
def r_writes (v s x : Int32) (q : Q10) : Q10 × Int32 :=
  if (q.F 0 (Int32.toNatClampNeg s)).toInt = 3 then
    if (r_binding v s q).toInt = -1 then (q, 0) else (⟨upF q.F 38 (upd (q.F 38) (Int32.toNatClampNeg (r_binding v s q)) x), q.n⟩, 1)
  else if (q.F 0 (Int32.toNatClampNeg s)).toInt = 2 then
    (⟨upF (upF q.F 34 (upd (q.F 34) (Int32.toNatClampNeg (8 * q.F 16 (Int32.toNatClampNeg v) + s)) x)) 35 (upd (q.F 35) (Int32.toNatClampNeg (8 * q.F 16 (Int32.toNatClampNeg v) + s)) 1), q.n⟩, 1)
  else (⟨upF (upF q.F 34 (upd (q.F 34) (Int32.toNatClampNeg (8 * v + s)) x)) 35 (upd (q.F 35) (Int32.toNatClampNeg (8 * v + s)) 1), q.n⟩, 1)
def r_adds (v s : Int32) (q : Q10) : Q10 :=
  let z := r_reads v s q
  let F1 := upF q.F 19 (upd (q.F 19) (Int32.toNatClampNeg v) (q.F 19 (Int32.toNatClampNeg v) + z))
  let h := q.n 45
  if h.toInt < 1000 then ⟨upF (upF (upF (upF F1 49 (upd (q.F 49) (Int32.toNatClampNeg h) v)) 50 (upd (q.F 50) (Int32.toNatClampNeg h) s)) 51 (upd (q.F 51) (Int32.toNatClampNeg h) z)) 52 (upd (q.F 52) (Int32.toNatClampNeg h) (q.F 20 (Int32.toNatClampNeg v))), upn q.n 45 (h + 1)⟩
  else ⟨F1, upn q.n 45 (h + 1)⟩
def r_binds (v s x : Int32) (q : Q10) : Q10 × Int32 :=
  if (q.F 0 (Int32.toNatClampNeg s)).toInt = 3 then
    let k := Int32.toNatClampNeg (24 * v + q.F 36 (Int32.toNatClampNeg v))
    (⟨upF (upF (upF (upF q.F 36 (upd (q.F 36) (Int32.toNatClampNeg v) (q.F 36 (Int32.toNatClampNeg v) + 1))) 37 (upd (q.F 37) k s)) 38 (upd (q.F 38) k x)) 42 (upd (q.F 42) k (q.n 44)), upn q.n 44 (q.n 44 + 1)⟩, 1)
  else (q, 0)
def r_frees (v s : Int32) (q : Q10) : Q10 × Int32 :=
  if (q.F 36 (Int32.toNatClampNeg v)).toInt = 0 then (q, 0)
  else if ¬ (q.F 37 (Int32.toNatClampNeg (24 * v + q.F 36 (Int32.toNatClampNeg v) - 1))).toInt = s.toInt then (q, 0)
  else (⟨upF q.F 36 (upd (q.F 36) (Int32.toNatClampNeg v) (q.F 36 (Int32.toNatClampNeg v) - 1)), q.n⟩, 1)
def r_on (v : Int32) (q : Q10) : Q10 := ⟨upF q.F 20 (upd (q.F 20) (Int32.toNatClampNeg v) (q.F 20 (Int32.toNatClampNeg v) + 1)), q.n⟩
def r_wrong (v o : Int32) (q : Q10) : Q10 := if ¬ o.toInt = 0 then r_on v q else r_fails v 5 (-1) 0 q
def b_split (v a : Int32) (_ : Nat) (q : Q10) (k : Q10 → Q10) : Q10 :=
  let p := r_hands v a 0 q
  if ¬ p.2.toInt = 0 then k p.1 else p.1
def b_claim (v : Int32) (t : Nat) (q : Q10) (k : Q10 → Q10) : Q10 :=
  if (q.F 15 t).toInt = v.toInt ∧ (q.F 26 t).toInt = 0 then k ⟨upF q.F 27 (upd (q.F 27) t 1), q.n⟩ else k q
def f_claim (v : Int32) (q : Q10) : Q10 := if ¬ (r_aw v q).toInt = 0 then r_gathers v q else r_waits v q
def r_op (v o a b : Int32) (q : Q10) : Q10 :=
  if o.toInt = 0 then r_wrong v (r_writes v a b q).2 (r_writes v a b q).1
  else if o.toInt = 1 then r_on v (r_adds v a q)
  else if o.toInt = 2 then r_wrong v (r_binds v a b q).2 (r_binds v a b q).1
  else if o.toInt = 3 then r_wrong v (r_frees v a q).2 (r_frees v a q).1
  else if o.toInt = 4 then
    if b.toInt = 1 then
      if ¬ (r_hands v a 1 q).2.toInt = 0 then r_waits v (r_hands v a 1 q).1 else (r_hands v a 1 q).1
    else if ¬ (r_hands v a 0 q).2.toInt = 0 then r_on v (r_hands v a 0 q).1 else (r_hands v a 0 q).1
  else if o.toInt = 5 then itr (b_split v a) (r_on v) 0 (Int32.toNatClampNeg b) q
  else if o.toInt = 6 then itr (b_claim v) (f_claim v) (Int32.toNatClampNeg (v + 1)) (Int32.toNatClampNeg (q.n 11) - Int32.toNatClampNeg (v + 1)) q
  else if o.toInt = 7 then
    if (q.n 46).toInt < 310000 then r_on v ⟨upF (upF q.F 53 (upd (q.F 53) (Int32.toNatClampNeg (q.n 46)) (q.F 16 (Int32.toNatClampNeg v)))) 54 (upd (q.F 54) (Int32.toNatClampNeg (q.n 46)) b), upn q.n 46 (q.n 46 + 1)⟩ else r_on v q
  else if o.toInt = 8 then r_fails v a (-1) 0 q
  else if o.toInt = 9 then
    let t := Int32.toNatClampNeg (24 * v + q.F 39 (Int32.toNatClampNeg v))
    r_on v ⟨upF (upF (upF (upF q.F 39 (upd (q.F 39) (Int32.toNatClampNeg v) (q.F 39 (Int32.toNatClampNeg v) + 1))) 40 (upd (q.F 40) t a)) 41 (upd (q.F 41) t b)) 43 (upd (q.F 43) t (q.n 44)), q.n⟩
  else if o.toInt = 10 then
    if 0 < (q.F 39 (Int32.toNatClampNeg v)).toInt then r_on v ⟨upF q.F 39 (upd (q.F 39) (Int32.toNatClampNeg v) (q.F 39 (Int32.toNatClampNeg v) - 1)), q.n⟩ else r_fails v 5 (-1) 0 q
  else r_on v ⟨upF q.F 19 (upd (q.F 19) (Int32.toNatClampNeg v) (q.F 19 (Int32.toNatClampNeg v) + b)), q.n⟩
def r_does (v : Int32) (q : Q10) : Q10 :=
  let i := Int32.toNatClampNeg (24 * q.F 14 (Int32.toNatClampNeg v) + q.F 20 (Int32.toNatClampNeg v))
  if (q.F 20 (Int32.toNatClampNeg v)).toInt < (q.F 2 (Int32.toNatClampNeg (q.F 14 (Int32.toNatClampNeg v)))).toInt ∧ ¬ (q.F 3 i).toInt = 12 then r_op v (q.F 3 i) (q.F 4 i) (q.F 5 i) q
  else r_goes v 3 q
def c_turn (v : Int32) (q : Q10) : Q10 :=
  if ¬ (q.F 25 (Int32.toNatClampNeg v)).toInt = 0 then r_fails v 4 (-1) 0 ⟨upF (upF q.F 24 (upd (q.F 24) (Int32.toNatClampNeg v) 0)) 25 (upd (q.F 25) (Int32.toNatClampNeg v) 0), q.n⟩
  else if ¬ (q.F 24 (Int32.toNatClampNeg v)).toInt = 0 then r_gathers v ⟨upF q.F 24 (upd (q.F 24) (Int32.toNatClampNeg v) 0), q.n⟩
  else r_does v q
def r_turn (v : Int32) (q : Q10) : Q10 :=
  let h := q.n 48
  if h.toInt < 2000 then c_turn v ⟨upF q.F 59 (upd (q.F 59) (Int32.toNatClampNeg h) (256 * v + q.F 18 (Int32.toNatClampNeg v))), upn q.n 48 (h + 1)⟩
  else c_turn v ⟨q.F, upn q.n 48 (h + 1)⟩
/- a BEAT -/
def b_own (r : Int32) (t : Nat) (q : Q10) (k : Q10 → Q10) : Q10 :=
  if (q.F 0 t).toInt = 0 then k ⟨upF q.F 35 (upd (q.F 35) (Int32.toNatClampNeg (8 * r + Int32.ofNat t)) 0), q.n⟩ else k q
def b_fill10 (t : Nat) (q : Q10) (k : Q10 → Q10) : Q10 :=
  if (q.F 13 t).toInt = 0 then
    let x := r_free q
    if x.toInt = -1 then k q
    else itr (b_own (Int32.ofNat t)) k 0 8 ⟨upF (upF (upF (upF q.F 10 (upd (q.F 10) (Int32.toNatClampNeg x) (Int32.ofNat t))) 13 (upd (q.F 13) t 1)) 18 (upd (q.F 18) t x)) 23 (upd (q.F 23) t (q.F 23 t + 1)), q.n⟩
  else k q
def b_turns10 (t : Nat) (q : Q10) (k : Q10 → Q10) : Q10 := if (q.F 13 t).toInt = 1 then k (r_turn (Int32.ofNat t) q) else k q
def b_wake10 (t : Nat) (q : Q10) (k : Q10 → Q10) : Q10 :=
  if (q.F 13 t).toInt = 2 then
    if ¬ (r_aw (Int32.ofNat t) q).toInt = 0 then k ⟨upF q.F 13 (upd (q.F 13) t 0), q.n⟩ else k q
  else k q
def f_fill10 (q : Q10) : Q10 := itr b_turns10 (fun p => itr b_wake10 (fun p => p) 0 (Int32.toNatClampNeg (p.n 11)) p) 0 (Int32.toNatClampNeg (q.n 11)) q
def r_one (q : Q10) : Q10 := itr b_fill10 f_fill10 0 (Int32.toNatClampNeg (q.n 11)) ⟨q.F, upn q.n 12 (q.n 12 + 1)⟩
def b_beat10 (t : Nat) (q : Q10) (k : Q10 → Q10 × Int32) : Q10 × Int32 := if ¬ (r_left q).toInt = 0 then k (r_one q) else (q, Int32.ofNat t)
def r_beat (v : Int32) (q : Q10) : Q10 × Int32 :=
  if v.toInt < 1 ∨ 100 < v.toInt then (q, -1) else itr b_beat10 (fun p => (p, v)) 0 (Int32.toNatClampNeg v) q
def b_intr (r : Int32) (t : Nat) (q : Q10) (k : Q10 → Q10 × Int32) : Q10 × Int32 :=
  if (q.F 15 t).toInt = r.toInt ∧ ¬ (q.F 27 t).toInt = 0 then k ⟨upF (upF q.F 26 (upd (q.F 26) t 1)) 27 (upd (q.F 27) t 0), q.n⟩ else k q
def f_intr (r : Int32) (q : Q10) : Q10 × Int32 :=
  if ¬ (q.F 24 (Int32.toNatClampNeg r)).toInt = 0 then itr (b_intr r) (fun p => (p, 1)) (Int32.toNatClampNeg (r + 1)) (Int32.toNatClampNeg (q.n 11) - Int32.toNatClampNeg (r + 1)) q else (q, 1)
def r_interrupt (r : Int32) (q : Q10) : Q10 × Int32 :=
  if 0 ≤ r.toInt ∧ r.toInt < (q.n 11).toInt ∧ ¬ ((q.F 13 (Int32.toNatClampNeg r)).toInt = 3 ∨ (q.F 13 (Int32.toNatClampNeg r)).toInt = 4) ∧ (q.F 25 (Int32.toNatClampNeg r)).toInt = 0 then
    if (q.F 13 (Int32.toNatClampNeg r)).toInt = 2 then f_intr r ⟨upF (upF q.F 13 (upd (q.F 13) (Int32.toNatClampNeg r) 0)) 25 (upd (q.F 25) (Int32.toNatClampNeg r) 1), q.n⟩
    else f_intr r ⟨upF q.F 25 (upd (q.F 25) (Int32.toNatClampNeg r) 1), q.n⟩
  else (q, 0)
/- the rest of the face -/
def r_slot (a b c : Int32) (q : Q10) : Q10 × Int32 :=
  if 0 ≤ a.toInt ∧ a.toInt < 8 ∧ 0 ≤ b.toInt ∧ b.toInt ≤ 4 ∧ (q.n 11).toInt ≤ 0 then (⟨upF (upF q.F 0 (upd (q.F 0) (Int32.toNatClampNeg a) b)) 1 (upd (q.F 1) (Int32.toNatClampNeg a) c), q.n⟩, 1) else (q, 0)
def r_first (a b : Int32) (q : Q10) : Q10 × Int32 := if 0 ≤ a.toInt ∧ a.toInt < 8 then (⟨upF q.F 1 (upd (q.F 1) (Int32.toNatClampNeg a) b), q.n⟩, 1) else (q, 0)
abbrev fits10 (o a b t : Int) : Prop := ((0 ≤ o ∧ o ≤ 3 ∧ 0 ≤ a ∧ a < 8) ∨ (o = 4 ∧ 0 ≤ a ∧ a < 8 ∧ (b = 0 ∨ b = 1)) ∨ (o = 5 ∧ 0 ≤ a ∧ a < 8 ∧ 2 ≤ b ∧ b ≤ 4) ∨ (o = 8 ∧ 0 ≤ a ∧ a < 4) ∨ (o = 9 ∧ 0 ≤ a ∧ a ≤ 8 ∧ t < b ∧ b ≤ 24) ∨ o = 6 ∨ o = 7 ∨ (10 ≤ o ∧ o ≤ 12))
def r_step (v o a b : Int32) (q : Q10) : Q10 × Int32 :=
  if 0 ≤ v.toInt ∧ v.toInt < 8 ∧ (q.n 11).toInt ≤ 0 ∧ ¬ (q.F 2 (Int32.toNatClampNeg v)).toInt = 24 then
    if fits10 o.toInt a.toInt b.toInt (q.F 2 (Int32.toNatClampNeg v)).toInt then
      let i := Int32.toNatClampNeg (24 * v + q.F 2 (Int32.toNatClampNeg v))
      (⟨upF (upF (upF (upF q.F 2 (upd (q.F 2) (Int32.toNatClampNeg v) (q.F 2 (Int32.toNatClampNeg v) + 1))) 3 (upd (q.F 3) i o)) 4 (upd (q.F 4) i a)) 5 (upd (q.F 5) i b), q.n⟩, q.F 2 (Int32.toNatClampNeg v) + 1)
    else (q, -1)
  else (q, -1)
def h10 (q : Q10) (x v t : Int32) : Q10 := ⟨upF (upF (upF q.F 6 (upd (q.F 6) (Int32.toNatClampNeg x) 1)) 7 (upd (q.F 7) (Int32.toNatClampNeg x) (vp_nar .boolean t))) 8 (upd (q.F 8) (Int32.toNatClampNeg x) v), q.n⟩
def r_handler (l o v t : Int32) (q : Q10) : Q10 × Int32 :=
  if l.toInt = 2 then (h10 q 16 v t, 1)
  else if (l.toInt = 0 ∨ l.toInt = 1) ∧ 0 ≤ o.toInt ∧ o.toInt < 8 then (h10 q (8 * l + o) v t, 1)
  else (q, 0)
def r_threads (v : Int32) (q : Q10) : Q10 × Int32 := if 1 ≤ v.toInt ∧ v.toInt ≤ 6 ∧ (q.n 11).toInt ≤ 0 then (⟨q.F, upn q.n 9 v⟩, 1) else (q, 0)
def b_anew2 (t : Nat) (q : Q10) (k : Q10 → Q10) : Q10 := k ⟨upF q.F 10 (upd (q.F 10) t (-1)), q.n⟩
def f_anew1 (q : Q10) : Q10 := itr b_anew2 (fun p => p) 0 6 ⟨q.F, upn (upn (upn (upn (upn (upn q.n 11 0) 12 0) 45 0) 46 0) 47 0) 48 0⟩
def b_anew1 (w : Int32) (t : Nat) (q : Q10) (k : Q10 → Q10) : Q10 := if ¬ w.toInt = 0 then k ⟨upF q.F 2 (upd (q.F 2) t 0), q.n⟩ else f_anew1 q
def r_anew (w : Int32) (q : Q10) : Q10 := itr (b_anew1 w) f_anew1 0 8 q
/- what is asked -/
def b_inst (F : Nat → Nat → Int32) (v : Int32) (t : Nat) (c : Int32) (k : Int32 → Int32) : Int32 := if (F 13 t).toInt = v.toInt then k (c + 1) else k (c + 0)
def r_inst (v : Int32) (q : Q10) : Int32 := itr (b_inst q.F v) (fun c => c) 0 (Int32.toNatClampNeg (q.n 11)) 0
def r_failure (a b : Int32) (q : Q10) : Int32 :=
  if 0 ≤ a.toInt ∧ a.toInt < (q.n 11).toInt ∧ (q.F 13 (Int32.toNatClampNeg a)).toInt = 4 then
    if b.toInt = 0 then q.F 28 (Int32.toNatClampNeg a) else if b.toInt = 1 then q.F 29 (Int32.toNatClampNeg a) else if b.toInt = 2 then q.F 30 (Int32.toNatClampNeg a) else if b.toInt = 3 then q.F 31 (Int32.toNatClampNeg a)
    else if b.toInt = 4 then (if ¬ (q.F 32 (Int32.toNatClampNeg a)).toInt = 0 then 1 else 0) else -1
  else -1
def b_tr10 (F : Nat → Nat → Int32) (_ : Nat) (p : Int32 × Int32) (k : Int32 × Int32 → Int32) : Int32 := if (F 15 (Int32.toNatClampNeg p.1)).toInt = -1 then -1 else k (F 15 (Int32.toNatClampNeg p.1), F 21 (Int32.toNatClampNeg p.1))
def r_trace (a b : Int32) (q : Q10) : Int32 :=
  if 0 ≤ a.toInt ∧ a.toInt < (q.n 11).toInt ∧ (q.F 13 (Int32.toNatClampNeg a)).toInt = 4 ∧ 0 ≤ b.toInt then
    itr (b_tr10 q.F) (fun p => 32 * q.F 14 (Int32.toNatClampNeg p.1) + p.2) 0 (Int32.toNatClampNeg b) (a, q.F 29 (Int32.toNatClampNeg a))
  else -1
def b_ch10 (F : Nat → Nat → Int32) (a b : Int32) (t : Nat) (x : Int32) (k : Int32 → Int32) : Int32 :=
  if (F 15 t).toInt = a.toInt then (if x.toInt = b.toInt then Int32.ofNat t else k (x + 1)) else k x
def r_child (a b : Int32) (q : Q10) : Int32 :=
  if 0 ≤ a.toInt ∧ a.toInt < (q.n 11).toInt ∧ 0 ≤ b.toInt then itr (b_ch10 q.F a b) (fun _ => -1) (Int32.toNatClampNeg (a + 1)) (Int32.toNatClampNeg (q.n 11) - Int32.toNatClampNeg (a + 1)) 0 else -1
def r_value (a b : Int32) (q : Q10) : Int32 := if 0 ≤ a.toInt ∧ a.toInt < (q.n 11).toInt ∧ 0 ≤ b.toInt ∧ b.toInt < 8 then r_reads a b q else 0
def r_seen (a b : Int32) (q : Q10) : Int32 :=
  if 0 ≤ a.toInt ∧ a.toInt < (q.n 45).toInt ∧ a.toInt < 1000 then
    if b.toInt = 0 then q.F 49 (Int32.toNatClampNeg a) else if b.toInt = 1 then q.F 50 (Int32.toNatClampNeg a) else if b.toInt = 2 then q.F 51 (Int32.toNatClampNeg a) else if b.toInt = 3 then q.F 52 (Int32.toNatClampNeg a) else -1
  else -1
def r_handled (a b : Int32) (q : Q10) : Int32 :=
  if 0 ≤ a.toInt ∧ a.toInt < (q.n 47).toInt then
    if b.toInt = 0 then q.F 55 (Int32.toNatClampNeg a) else if b.toInt = 1 then q.F 56 (Int32.toNatClampNeg a) else if b.toInt = 2 then q.F 57 (Int32.toNatClampNeg a) else if b.toInt = 3 then q.F 58 (Int32.toNatClampNeg a) else -1
  else -1
def r_order (a : Int32) (q : Q10) : Int32 := if 0 ≤ a.toInt ∧ a.toInt < (q.n 48).toInt ∧ a.toInt < 2000 then q.F 59 (Int32.toNatClampNeg a) else -1
def b_rem10 (F : Nat → Nat → Int32) (a b : Int32) (t : Nat) (x : Int32) (k : Int32 → Int32) : Int32 :=
  if b.toInt < 0 then 0 else if (F 53 t).toInt = a.toInt then (if x.toInt = b.toInt then F 54 t else k (x + 1)) else k x
def r_remark (a b : Int32) (q : Q10) : Int32 := itr (b_rem10 q.F a b) (fun _ => 0) 0 (Int32.toNatClampNeg (q.n 46)) 0
def r_count (a : Int32) (q : Q10) : Int32 :=
  if a.toInt = 0 then q.n 11 else if a.toInt = 1 then q.n 12 else if a.toInt = 2 then q.n 9 else if a.toInt = 3 then r_inst 0 q else if a.toInt = 4 then r_inst 1 q
  else if a.toInt = 5 then r_inst 2 q else if a.toInt = 6 then r_inst 3 q else if a.toInt = 7 then r_inst 4 q else if a.toInt = 8 then q.n 45 else if a.toInt = 9 then q.n 47
  else if a.toInt = 10 then q.n 48 else if 16 ≤ a.toInt ∧ a.toInt < (16 + q.n 9).toInt then q.F 10 (Int32.toNatClampNeg (a - 16)) else -1
theorem i_ext10 {x y : Int32} (h : x.toInt = y.toInt) : x = y := Int32.toInt_inj.mp h
theorem rbind_0 (F : Nat → Nat → Int32) (v s : Int32) : rbind F v s 0 = -1 := by rw [rbind] <;> rfl
theorem rbind_s (F : Nat → Nat → Int32) (v s : Int32) (k : Nat) : rbind F v s (k + 1) = if (F 37 (Int32.toNatClampNeg (24 * v + Int32.ofNat k))).toInt = s.toInt then 24 * v + Int32.ofNat k else rbind F v s k := by rw [rbind] <;> rfl
theorem rtry_0 (F : Nat → Nat → Int32) (v s : Int32) : rtry F v s 0 = -1 := by rw [rtry] <;> rfl
theorem rtry_s (F : Nat → Nat → Int32) (v kd : Int32) (k : Nat) : rtry F v kd (k + 1) = if ¬ (F 40 (Int32.toNatClampNeg (24 * v + Int32.ofNat k))).toInt = kd.toInt ∧ ¬ (F 40 (Int32.toNatClampNeg (24 * v + Int32.ofNat k))).toInt = 8 then rtry F v kd k else Int32.ofNat k := by rw [rtry] <;> rfl
theorem rpop_0 (F : Nat → Nat → Int32) (v t : Int32) (N : Nat) (f : Nat → Int32) : rpop F v t N 0 f = f := by rw [rpop] <;> rfl
theorem rpop_s (F : Nat → Nat → Int32) (v t : Int32) (N k : Nat) (f : Nat → Int32) : rpop F v t N (k + 1) f = if 0 < (f (Int32.toNatClampNeg v)).toInt ∧ (F 43 (Int32.toNatClampNeg (24 * v + t))).toInt ≤ (F 42 (Int32.toNatClampNeg (24 * v + f (Int32.toNatClampNeg v) - 1))).toInt then rpop F v t N k (upd f (Int32.toNatClampNeg v) (f (Int32.toNatClampNeg v) - 1)) else f := by rw [rpop] <;> rfl
