theorem dd_1 {S T : Sc} (h : RR S T) : RR (cT S 1) (mT T 1) := by
  have o : KO (f_Prc_useAccumulator S 1) (f_Mdl_arithmetic T 1) := o_01 h
  rw [cT_0  o.1, show mT T 1 = mA T 1 from rfl, mA_0  o.2.1]
  exact R_12 o.2.2 rfl (Or.inl rfl)
theorem dd_2 {S T : Sc} (h : RR S T) : RR (cT S 2) (mT T 2) := by
  rw [cT_none rfl rfl rfl rfl rfl rfl rfl rfl rfl rfl rfl rfl, show mT T 2 = mC T 2 from rfl, mC_none rfl rfl rfl rfl rfl rfl]
  exact R_12 h rfl (Or.inr rfl)
theorem dd_3 {S T : Sc} (h : RR S T) : RR (cT S 3) (mT T 3) := by
  have o : KO (f_Prc_useAccumulator S 3) (f_Mdl_arithmetic T 3) := o_03 h
  rw [cT_0  o.1, show mT T 3 = mA T 3 from rfl, mA_0  o.2.1]
  exact R_12 o.2.2 rfl (Or.inl rfl)
theorem dd_4 {S T : Sc} (h : RR S T) : RR (cT S 4) (mT T 4) := by
  rw [cT_none rfl rfl rfl rfl rfl rfl rfl rfl rfl rfl rfl rfl, show mT T 4 = mC T 4 from rfl, mC_none rfl rfl rfl rfl rfl rfl]
  exact R_12 h rfl (Or.inr rfl)
theorem dd_5 {S T : Sc} (h : RR S T) : RR (cT S 5) (mT T 5) := by
  have o : KO (f_Prc_useAccumulator S 5) (f_Mdl_arithmetic T 5) := o_05 h
  rw [cT_0  o.1, show mT T 5 = mA T 5 from rfl, mA_0  o.2.1]
  exact R_12 o.2.2 rfl (Or.inl rfl)
theorem dd_6 {S T : Sc} (h : RR S T) : RR (cT S 6) (mT T 6) := by
  have o : KO (f_Prc_changeMemory S 6) (f_Mdl_change T 6) := o_06 h
  rw [cT_3 rfl rfl rfl o.1, show mT T 6 = mC T 6 from rfl, mC_0  o.2.1]
  exact R_12 o.2.2 rfl (Or.inl rfl)
theorem dd_7 {S T : Sc} (h : RR S T) : RR (cT S 7) (mT T 7) := by
  have o : KO (f_Prc_useAccumulator S 7) (f_Mdl_arithmetic T 7) := o_07 h
  rw [cT_0  o.1, show mT T 7 = mA T 7 from rfl, mA_0  o.2.1]
  exact R_12 o.2.2 rfl (Or.inl rfl)
theorem dd_8 {S T : Sc} (h : RR S T) : RR (cT S 8) (mT T 8) := by
  have o : KO (f_Prc_push S 8) (f_Mdl_stack T 8) := o_08 h
  rw [cT_6 rfl rfl rfl rfl rfl rfl o.1, show mT T 8 = mC T 8 from rfl, mC_3 rfl rfl rfl o.2.1]
  exact R_12 o.2.2 rfl (Or.inl rfl)
theorem dd_9 {S T : Sc} (h : RR S T) : RR (cT S 9) (mT T 9) := by
  have o : KO (f_Prc_useAccumulator S 9) (f_Mdl_arithmetic T 9) := o_09 h
  rw [cT_0  o.1, show mT T 9 = mA T 9 from rfl, mA_0  o.2.1]
  exact R_12 o.2.2 rfl (Or.inl rfl)
theorem dd_10 {S T : Sc} (h : RR S T) : RR (cT S 10) (mT T 10) := by
  have o : KO (f_Prc_changeRegister S 10) (f_Mdl_change T 10) := o_0A h
  rw [cT_4 rfl rfl rfl rfl o.1, show mT T 10 = mC T 10 from rfl, mC_0  o.2.1]
  exact R_12 o.2.2 rfl (Or.inl rfl)
theorem dd_11 {S T : Sc} (h : RR S T) : RR (cT S 11) (mT T 11) := by
  have o : KO (f_Prc_push S 11) (f_Mdl_stack T 11) := o_0B h
  rw [cT_6 rfl rfl rfl rfl rfl rfl o.1, show mT T 11 = mC T 11 from rfl, mC_3 rfl rfl rfl o.2.1]
  exact R_12 o.2.2 rfl (Or.inl rfl)
theorem dd_12 {S T : Sc} (h : RR S T) : RR (cT S 12) (mT T 12) := by
  rw [cT_none rfl rfl rfl rfl rfl rfl rfl rfl rfl rfl rfl rfl, show mT T 12 = mC T 12 from rfl, mC_none rfl rfl rfl rfl rfl rfl]
  exact R_12 h rfl (Or.inr rfl)
theorem dd_13 {S T : Sc} (h : RR S T) : RR (cT S 13) (mT T 13) := by
  have o : KO (f_Prc_useAccumulator S 13) (f_Mdl_arithmetic T 13) := o_0D h
  rw [cT_0  o.1, show mT T 13 = mA T 13 from rfl, mA_0  o.2.1]
  exact R_12 o.2.2 rfl (Or.inl rfl)
theorem dd_14 {S T : Sc} (h : RR S T) : RR (cT S 14) (mT T 14) := by
  rw [cT_none rfl rfl rfl rfl rfl rfl rfl rfl rfl rfl rfl rfl, show mT T 14 = mC T 14 from rfl, mC_none rfl rfl rfl rfl rfl rfl]
  exact R_12 h rfl (Or.inr rfl)
theorem dd_15 {S T : Sc} (h : RR S T) : RR (cT S 15) (mT T 15) := by
  have o : KO (f_Prc_useAccumulator S 15) (f_Mdl_arithmetic T 15) := o_0F h
  rw [cT_0  o.1, show mT T 15 = mA T 15 from rfl, mA_0  o.2.1]
  exact R_12 o.2.2 rfl (Or.inl rfl)
theorem dd_16 {S T : Sc} (h : RR S T) : RR (cT S 16) (mT T 16) := by
  have o : KO (f_Prc_branch S 16) (f_Mdl_jump T 16) := o_10 h
  rw [cT_8 rfl rfl rfl rfl rfl rfl rfl rfl o.1, show mT T 16 = mC T 16 from rfl, mC_4 rfl rfl rfl rfl o.2.1]
  exact R_12 o.2.2 rfl (Or.inl rfl)
theorem dd_17 {S T : Sc} (h : RR S T) : RR (cT S 17) (mT T 17) := by
  have o : KO (f_Prc_useAccumulator S 17) (f_Mdl_arithmetic T 17) := o_11 h
  rw [cT_0  o.1, show mT T 17 = mA T 17 from rfl, mA_0  o.2.1]
  exact R_12 o.2.2 rfl (Or.inl rfl)
theorem dd_18 {S T : Sc} (h : RR S T) : RR (cT S 18) (mT T 18) := by
  have o : KO (f_Prc_useAccumulator S 18) (f_Mdl_arithmetic T 18) := o_12 h
  rw [cT_0  o.1, show mT T 18 = mA T 18 from rfl, mA_0  o.2.1]
  exact R_12 o.2.2 rfl (Or.inl rfl)
theorem dd_19 {S T : Sc} (h : RR S T) : RR (cT S 19) (mT T 19) := by
  have o : KO (f_Prc_useAccumulator S 19) (f_Mdl_arithmetic T 19) := o_13 h
  rw [cT_0  o.1, show mT T 19 = mA T 19 from rfl, mA_0  o.2.1]
  exact R_12 o.2.2 rfl (Or.inl rfl)
theorem dd_20 {S T : Sc} (h : RR S T) : RR (cT S 20) (mT T 20) := by
  rw [cT_none rfl rfl rfl rfl rfl rfl rfl rfl rfl rfl rfl rfl, show mT T 20 = mC T 20 from rfl, mC_none rfl rfl rfl rfl rfl rfl]
  exact R_12 h rfl (Or.inr rfl)
theorem dd_21 {S T : Sc} (h : RR S T) : RR (cT S 21) (mT T 21) := by
  have o : KO (f_Prc_useAccumulator S 21) (f_Mdl_arithmetic T 21) := o_15 h
  rw [cT_0  o.1, show mT T 21 = mA T 21 from rfl, mA_0  o.2.1]
  exact R_12 o.2.2 rfl (Or.inl rfl)
theorem dd_22 {S T : Sc} (h : RR S T) : RR (cT S 22) (mT T 22) := by
  rw [cT_none rfl rfl rfl rfl rfl rfl rfl rfl rfl rfl rfl rfl, show mT T 22 = mC T 22 from rfl, mC_none rfl rfl rfl rfl rfl rfl]
  exact R_12 h rfl (Or.inr rfl)
theorem dd_23 {S T : Sc} (h : RR S T) : RR (cT S 23) (mT T 23) := by
  have o : KO (f_Prc_useAccumulator S 23) (f_Mdl_arithmetic T 23) := o_17 h
  rw [cT_0  o.1, show mT T 23 = mA T 23 from rfl, mA_0  o.2.1]
  exact R_12 o.2.2 rfl (Or.inl rfl)
theorem dd_24 {S T : Sc} (h : RR S T) : RR (cT S 24) (mT T 24) := by
  have o : KO (f_Prc_changeFlags S 24) (f_Mdl_other T 24) := o_18 h
  rw [cT_10 rfl rfl rfl rfl rfl rfl rfl rfl rfl rfl o.1, show mT T 24 = mC T 24 from rfl, mC_5 rfl rfl rfl rfl rfl o.2.1]
  exact R_12 o.2.2 rfl (Or.inl rfl)
theorem dd_25 {S T : Sc} (h : RR S T) : RR (cT S 25) (mT T 25) := by
  have o : KO (f_Prc_useAccumulator S 25) (f_Mdl_arithmetic T 25) := o_19 h
  rw [cT_0  o.1, show mT T 25 = mA T 25 from rfl, mA_0  o.2.1]
  exact R_12 o.2.2 rfl (Or.inl rfl)
theorem dd_26 {S T : Sc} (h : RR S T) : RR (cT S 26) (mT T 26) := by
  have o : KO (f_Prc_changeRegister S 26) (f_Mdl_change T 26) := o_1A h
  rw [cT_4 rfl rfl rfl rfl o.1, show mT T 26 = mC T 26 from rfl, mC_0  o.2.1]
  exact R_12 o.2.2 rfl (Or.inl rfl)
theorem dd_27 {S T : Sc} (h : RR S T) : RR (cT S 27) (mT T 27) := by
  have o : KO (f_Prc_transfer S 27) (f_Mdl_transfer T 27) := o_1B h
  rw [cT_5 rfl rfl rfl rfl rfl o.1, show mT T 27 = mC T 27 from rfl, mC_2 rfl rfl o.2.1]
  exact R_12 o.2.2 rfl (Or.inl rfl)
theorem dd_28 {S T : Sc} (h : RR S T) : RR (cT S 28) (mT T 28) := by
  rw [cT_none rfl rfl rfl rfl rfl rfl rfl rfl rfl rfl rfl rfl, show mT T 28 = mC T 28 from rfl, mC_none rfl rfl rfl rfl rfl rfl]
  exact R_12 h rfl (Or.inr rfl)
theorem dd_29 {S T : Sc} (h : RR S T) : RR (cT S 29) (mT T 29) := by
  have o : KO (f_Prc_useAccumulator S 29) (f_Mdl_arithmetic T 29) := o_1D h
  rw [cT_0  o.1, show mT T 29 = mA T 29 from rfl, mA_0  o.2.1]
  exact R_12 o.2.2 rfl (Or.inl rfl)
theorem dd_30 {S T : Sc} (h : RR S T) : RR (cT S 30) (mT T 30) := by
  rw [cT_none rfl rfl rfl rfl rfl rfl rfl rfl rfl rfl rfl rfl, show mT T 30 = mC T 30 from rfl, mC_none rfl rfl rfl rfl rfl rfl]
  exact R_12 h rfl (Or.inr rfl)
theorem dd_31 {S T : Sc} (h : RR S T) : RR (cT S 31) (mT T 31) := by
  have o : KO (f_Prc_useAccumulator S 31) (f_Mdl_arithmetic T 31) := o_1F h
  rw [cT_0  o.1, show mT T 31 = mA T 31 from rfl, mA_0  o.2.1]
  exact R_12 o.2.2 rfl (Or.inl rfl)
theorem dd_32 {S T : Sc} (h : RR S T) : RR (cT S 32) (mT T 32) := by
  have o : KO (f_Prc_jump S 32) (f_Mdl_jump T 32) := o_20 h
  rw [cT_9 rfl rfl rfl rfl rfl rfl rfl rfl rfl o.1, show mT T 32 = mC T 32 from rfl, mC_4 rfl rfl rfl rfl o.2.1]
  exact R_12 o.2.2 rfl (Or.inl rfl)
theorem dd_33 {S T : Sc} (h : RR S T) : RR (cT S 33) (mT T 33) := by
  have o : KO (f_Prc_useAccumulator S 33) (f_Mdl_arithmetic T 33) := o_21 h
  rw [cT_0  o.1, show mT T 33 = mA T 33 from rfl, mA_0  o.2.1]
  exact R_12 o.2.2 rfl (Or.inl rfl)
theorem dd_34 {S T : Sc} (h : RR S T) : RR (cT S 34) (mT T 34) := by
  have o : KO (f_Prc_jump S 34) (f_Mdl_jump T 34) := o_22 h
  rw [cT_9 rfl rfl rfl rfl rfl rfl rfl rfl rfl o.1, show mT T 34 = mC T 34 from rfl, mC_4 rfl rfl rfl rfl o.2.1]
  exact R_12 o.2.2 rfl (Or.inl rfl)
theorem dd_35 {S T : Sc} (h : RR S T) : RR (cT S 35) (mT T 35) := by
  have o : KO (f_Prc_useAccumulator S 35) (f_Mdl_arithmetic T 35) := o_23 h
  rw [cT_0  o.1, show mT T 35 = mA T 35 from rfl, mA_0  o.2.1]
  exact R_12 o.2.2 rfl (Or.inl rfl)
theorem dd_36 {S T : Sc} (h : RR S T) : RR (cT S 36) (mT T 36) := by
  rw [cT_none rfl rfl rfl rfl rfl rfl rfl rfl rfl rfl rfl rfl, show mT T 36 = mC T 36 from rfl, mC_none rfl rfl rfl rfl rfl rfl]
  exact R_12 h rfl (Or.inr rfl)
theorem dd_37 {S T : Sc} (h : RR S T) : RR (cT S 37) (mT T 37) := by
  have o : KO (f_Prc_useAccumulator S 37) (f_Mdl_arithmetic T 37) := o_25 h
  rw [cT_0  o.1, show mT T 37 = mA T 37 from rfl, mA_0  o.2.1]
  exact R_12 o.2.2 rfl (Or.inl rfl)
theorem dd_38 {S T : Sc} (h : RR S T) : RR (cT S 38) (mT T 38) := by
  have o : KO (f_Prc_changeMemory S 38) (f_Mdl_change T 38) := o_26 h
  rw [cT_3 rfl rfl rfl o.1, show mT T 38 = mC T 38 from rfl, mC_0  o.2.1]
  exact R_12 o.2.2 rfl (Or.inl rfl)
theorem dd_39 {S T : Sc} (h : RR S T) : RR (cT S 39) (mT T 39) := by
  have o : KO (f_Prc_useAccumulator S 39) (f_Mdl_arithmetic T 39) := o_27 h
  rw [cT_0  o.1, show mT T 39 = mA T 39 from rfl, mA_0  o.2.1]
  exact R_12 o.2.2 rfl (Or.inl rfl)
theorem dd_40 {S T : Sc} (h : RR S T) : RR (cT S 40) (mT T 40) := by
  have o : KO (f_Prc_pull S 40) (f_Mdl_stack T 40) := o_28 h
  rw [cT_7 rfl rfl rfl rfl rfl rfl rfl o.1, show mT T 40 = mC T 40 from rfl, mC_3 rfl rfl rfl o.2.1]
  exact R_12 o.2.2 rfl (Or.inl rfl)
theorem dd_41 {S T : Sc} (h : RR S T) : RR (cT S 41) (mT T 41) := by
  have o : KO (f_Prc_useAccumulator S 41) (f_Mdl_arithmetic T 41) := o_29 h
  rw [cT_0  o.1, show mT T 41 = mA T 41 from rfl, mA_0  o.2.1]
  exact R_12 o.2.2 rfl (Or.inl rfl)
theorem dd_42 {S T : Sc} (h : RR S T) : RR (cT S 42) (mT T 42) := by
  have o : KO (f_Prc_changeRegister S 42) (f_Mdl_change T 42) := o_2A h
  rw [cT_4 rfl rfl rfl rfl o.1, show mT T 42 = mC T 42 from rfl, mC_0  o.2.1]
  exact R_12 o.2.2 rfl (Or.inl rfl)
theorem dd_43 {S T : Sc} (h : RR S T) : RR (cT S 43) (mT T 43) := by
  have o : KO (f_Prc_pull S 43) (f_Mdl_stack T 43) := o_2B h
  rw [cT_7 rfl rfl rfl rfl rfl rfl rfl o.1, show mT T 43 = mC T 43 from rfl, mC_3 rfl rfl rfl o.2.1]
  exact R_12 o.2.2 rfl (Or.inl rfl)
theorem dd_44 {S T : Sc} (h : RR S T) : RR (cT S 44) (mT T 44) := by
  rw [cT_none rfl rfl rfl rfl rfl rfl rfl rfl rfl rfl rfl rfl, show mT T 44 = mC T 44 from rfl, mC_none rfl rfl rfl rfl rfl rfl]
  exact R_12 h rfl (Or.inr rfl)
theorem dd_45 {S T : Sc} (h : RR S T) : RR (cT S 45) (mT T 45) := by
  have o : KO (f_Prc_useAccumulator S 45) (f_Mdl_arithmetic T 45) := o_2D h
  rw [cT_0  o.1, show mT T 45 = mA T 45 from rfl, mA_0  o.2.1]
  exact R_12 o.2.2 rfl (Or.inl rfl)
theorem dd_46 {S T : Sc} (h : RR S T) : RR (cT S 46) (mT T 46) := by
  rw [cT_none rfl rfl rfl rfl rfl rfl rfl rfl rfl rfl rfl rfl, show mT T 46 = mC T 46 from rfl, mC_none rfl rfl rfl rfl rfl rfl]
  exact R_12 h rfl (Or.inr rfl)
theorem dd_47 {S T : Sc} (h : RR S T) : RR (cT S 47) (mT T 47) := by
  have o : KO (f_Prc_useAccumulator S 47) (f_Mdl_arithmetic T 47) := o_2F h
  rw [cT_0  o.1, show mT T 47 = mA T 47 from rfl, mA_0  o.2.1]
  exact R_12 o.2.2 rfl (Or.inl rfl)
theorem dd_48 {S T : Sc} (h : RR S T) : RR (cT S 48) (mT T 48) := by
  have o : KO (f_Prc_branch S 48) (f_Mdl_jump T 48) := o_30 h
  rw [cT_8 rfl rfl rfl rfl rfl rfl rfl rfl o.1, show mT T 48 = mC T 48 from rfl, mC_4 rfl rfl rfl rfl o.2.1]
  exact R_12 o.2.2 rfl (Or.inl rfl)
theorem dd_49 {S T : Sc} (h : RR S T) : RR (cT S 49) (mT T 49) := by
  have o : KO (f_Prc_useAccumulator S 49) (f_Mdl_arithmetic T 49) := o_31 h
  rw [cT_0  o.1, show mT T 49 = mA T 49 from rfl, mA_0  o.2.1]
  exact R_12 o.2.2 rfl (Or.inl rfl)
theorem dd_50 {S T : Sc} (h : RR S T) : RR (cT S 50) (mT T 50) := by
  have o : KO (f_Prc_useAccumulator S 50) (f_Mdl_arithmetic T 50) := o_32 h
  rw [cT_0  o.1, show mT T 50 = mA T 50 from rfl, mA_0  o.2.1]
  exact R_12 o.2.2 rfl (Or.inl rfl)
theorem dd_51 {S T : Sc} (h : RR S T) : RR (cT S 51) (mT T 51) := by
  have o : KO (f_Prc_useAccumulator S 51) (f_Mdl_arithmetic T 51) := o_33 h
  rw [cT_0  o.1, show mT T 51 = mA T 51 from rfl, mA_0  o.2.1]
  exact R_12 o.2.2 rfl (Or.inl rfl)
theorem dd_52 {S T : Sc} (h : RR S T) : RR (cT S 52) (mT T 52) := by
  rw [cT_none rfl rfl rfl rfl rfl rfl rfl rfl rfl rfl rfl rfl, show mT T 52 = mC T 52 from rfl, mC_none rfl rfl rfl rfl rfl rfl]
  exact R_12 h rfl (Or.inr rfl)
theorem dd_53 {S T : Sc} (h : RR S T) : RR (cT S 53) (mT T 53) := by
  have o : KO (f_Prc_useAccumulator S 53) (f_Mdl_arithmetic T 53) := o_35 h
  rw [cT_0  o.1, show mT T 53 = mA T 53 from rfl, mA_0  o.2.1]
  exact R_12 o.2.2 rfl (Or.inl rfl)
theorem dd_54 {S T : Sc} (h : RR S T) : RR (cT S 54) (mT T 54) := by
  rw [cT_none rfl rfl rfl rfl rfl rfl rfl rfl rfl rfl rfl rfl, show mT T 54 = mC T 54 from rfl, mC_none rfl rfl rfl rfl rfl rfl]
  exact R_12 h rfl (Or.inr rfl)
theorem dd_55 {S T : Sc} (h : RR S T) : RR (cT S 55) (mT T 55) := by
  have o : KO (f_Prc_useAccumulator S 55) (f_Mdl_arithmetic T 55) := o_37 h
  rw [cT_0  o.1, show mT T 55 = mA T 55 from rfl, mA_0  o.2.1]
  exact R_12 o.2.2 rfl (Or.inl rfl)
theorem dd_56 {S T : Sc} (h : RR S T) : RR (cT S 56) (mT T 56) := by
  have o : KO (f_Prc_changeFlags S 56) (f_Mdl_other T 56) := o_38 h
  rw [cT_10 rfl rfl rfl rfl rfl rfl rfl rfl rfl rfl o.1, show mT T 56 = mC T 56 from rfl, mC_5 rfl rfl rfl rfl rfl o.2.1]
  exact R_12 o.2.2 rfl (Or.inl rfl)
theorem dd_57 {S T : Sc} (h : RR S T) : RR (cT S 57) (mT T 57) := by
  have o : KO (f_Prc_useAccumulator S 57) (f_Mdl_arithmetic T 57) := o_39 h
  rw [cT_0  o.1, show mT T 57 = mA T 57 from rfl, mA_0  o.2.1]
  exact R_12 o.2.2 rfl (Or.inl rfl)
theorem dd_58 {S T : Sc} (h : RR S T) : RR (cT S 58) (mT T 58) := by
  have o : KO (f_Prc_changeRegister S 58) (f_Mdl_change T 58) := o_3A h
  rw [cT_4 rfl rfl rfl rfl o.1, show mT T 58 = mC T 58 from rfl, mC_0  o.2.1]
  exact R_12 o.2.2 rfl (Or.inl rfl)
theorem dd_59 {S T : Sc} (h : RR S T) : RR (cT S 59) (mT T 59) := by
  have o : KO (f_Prc_transfer S 59) (f_Mdl_transfer T 59) := o_3B h
  rw [cT_5 rfl rfl rfl rfl rfl o.1, show mT T 59 = mC T 59 from rfl, mC_2 rfl rfl o.2.1]
  exact R_12 o.2.2 rfl (Or.inl rfl)
theorem dd_60 {S T : Sc} (h : RR S T) : RR (cT S 60) (mT T 60) := by
  rw [cT_none rfl rfl rfl rfl rfl rfl rfl rfl rfl rfl rfl rfl, show mT T 60 = mC T 60 from rfl, mC_none rfl rfl rfl rfl rfl rfl]
  exact R_12 h rfl (Or.inr rfl)
theorem dd_61 {S T : Sc} (h : RR S T) : RR (cT S 61) (mT T 61) := by
  have o : KO (f_Prc_useAccumulator S 61) (f_Mdl_arithmetic T 61) := o_3D h
  rw [cT_0  o.1, show mT T 61 = mA T 61 from rfl, mA_0  o.2.1]
  exact R_12 o.2.2 rfl (Or.inl rfl)
theorem dd_62 {S T : Sc} (h : RR S T) : RR (cT S 62) (mT T 62) := by
  rw [cT_none rfl rfl rfl rfl rfl rfl rfl rfl rfl rfl rfl rfl, show mT T 62 = mC T 62 from rfl, mC_none rfl rfl rfl rfl rfl rfl]
  exact R_12 h rfl (Or.inr rfl)
theorem dd_63 {S T : Sc} (h : RR S T) : RR (cT S 63) (mT T 63) := by
  have o : KO (f_Prc_useAccumulator S 63) (f_Mdl_arithmetic T 63) := o_3F h
  rw [cT_0  o.1, show mT T 63 = mA T 63 from rfl, mA_0  o.2.1]
  exact R_12 o.2.2 rfl (Or.inl rfl)
theorem dd_64 {S T : Sc} (h : RR S T) : RR (cT S 64) (mT T 64) := by
  have o : KO (f_Prc_jump S 64) (f_Mdl_jump T 64) := o_40 h
  rw [cT_9 rfl rfl rfl rfl rfl rfl rfl rfl rfl o.1, show mT T 64 = mC T 64 from rfl, mC_4 rfl rfl rfl rfl o.2.1]
  exact R_12 o.2.2 rfl (Or.inl rfl)
theorem dd_65 {S T : Sc} (h : RR S T) : RR (cT S 65) (mT T 65) := by
  have o : KO (f_Prc_useAccumulator S 65) (f_Mdl_arithmetic T 65) := o_41 h
  rw [cT_0  o.1, show mT T 65 = mA T 65 from rfl, mA_0  o.2.1]
  exact R_12 o.2.2 rfl (Or.inl rfl)
theorem dd_66 {S T : Sc} (h : RR S T) : RR (cT S 66) (mT T 66) := by
  rw [cT_none rfl rfl rfl rfl rfl rfl rfl rfl rfl rfl rfl rfl, show mT T 66 = mC T 66 from rfl, mC_none rfl rfl rfl rfl rfl rfl]
  exact R_12 h rfl (Or.inr rfl)
theorem dd_67 {S T : Sc} (h : RR S T) : RR (cT S 67) (mT T 67) := by
  have o : KO (f_Prc_useAccumulator S 67) (f_Mdl_arithmetic T 67) := o_43 h
  rw [cT_0  o.1, show mT T 67 = mA T 67 from rfl, mA_0  o.2.1]
  exact R_12 o.2.2 rfl (Or.inl rfl)
theorem dd_68 {S T : Sc} (h : RR S T) : RR (cT S 68) (mT T 68) := by
  have o : KO (f_Prc_moveBlock S 68) (f_Mdl_other T 68) := o_44 h
  rw [cT_11 rfl rfl rfl rfl rfl rfl rfl rfl rfl rfl rfl o.1, show mT T 68 = mC T 68 from rfl, mC_5 rfl rfl rfl rfl rfl o.2.1]
  exact R_12 o.2.2 rfl (Or.inl rfl)
theorem dd_69 {S T : Sc} (h : RR S T) : RR (cT S 69) (mT T 69) := by
  have o : KO (f_Prc_useAccumulator S 69) (f_Mdl_arithmetic T 69) := o_45 h
  rw [cT_0  o.1, show mT T 69 = mA T 69 from rfl, mA_0  o.2.1]
  exact R_12 o.2.2 rfl (Or.inl rfl)
theorem dd_70 {S T : Sc} (h : RR S T) : RR (cT S 70) (mT T 70) := by
  have o : KO (f_Prc_changeMemory S 70) (f_Mdl_change T 70) := o_46 h
  rw [cT_3 rfl rfl rfl o.1, show mT T 70 = mC T 70 from rfl, mC_0  o.2.1]
  exact R_12 o.2.2 rfl (Or.inl rfl)
theorem dd_71 {S T : Sc} (h : RR S T) : RR (cT S 71) (mT T 71) := by
  have o : KO (f_Prc_useAccumulator S 71) (f_Mdl_arithmetic T 71) := o_47 h
  rw [cT_0  o.1, show mT T 71 = mA T 71 from rfl, mA_0  o.2.1]
  exact R_12 o.2.2 rfl (Or.inl rfl)
theorem dd_72 {S T : Sc} (h : RR S T) : RR (cT S 72) (mT T 72) := by
  have o : KO (f_Prc_push S 72) (f_Mdl_stack T 72) := o_48 h
  rw [cT_6 rfl rfl rfl rfl rfl rfl o.1, show mT T 72 = mC T 72 from rfl, mC_3 rfl rfl rfl o.2.1]
  exact R_12 o.2.2 rfl (Or.inl rfl)
theorem dd_73 {S T : Sc} (h : RR S T) : RR (cT S 73) (mT T 73) := by
  have o : KO (f_Prc_useAccumulator S 73) (f_Mdl_arithmetic T 73) := o_49 h
  rw [cT_0  o.1, show mT T 73 = mA T 73 from rfl, mA_0  o.2.1]
  exact R_12 o.2.2 rfl (Or.inl rfl)
theorem dd_74 {S T : Sc} (h : RR S T) : RR (cT S 74) (mT T 74) := by
  have o : KO (f_Prc_changeRegister S 74) (f_Mdl_change T 74) := o_4A h
  rw [cT_4 rfl rfl rfl rfl o.1, show mT T 74 = mC T 74 from rfl, mC_0  o.2.1]
  exact R_12 o.2.2 rfl (Or.inl rfl)
theorem dd_75 {S T : Sc} (h : RR S T) : RR (cT S 75) (mT T 75) := by
  have o : KO (f_Prc_push S 75) (f_Mdl_stack T 75) := o_4B h
  rw [cT_6 rfl rfl rfl rfl rfl rfl o.1, show mT T 75 = mC T 75 from rfl, mC_3 rfl rfl rfl o.2.1]
  exact R_12 o.2.2 rfl (Or.inl rfl)
theorem dd_76 {S T : Sc} (h : RR S T) : RR (cT S 76) (mT T 76) := by
  have o : KO (f_Prc_jump S 76) (f_Mdl_jump T 76) := o_4C h
  rw [cT_9 rfl rfl rfl rfl rfl rfl rfl rfl rfl o.1, show mT T 76 = mC T 76 from rfl, mC_4 rfl rfl rfl rfl o.2.1]
  exact R_12 o.2.2 rfl (Or.inl rfl)
theorem dd_77 {S T : Sc} (h : RR S T) : RR (cT S 77) (mT T 77) := by
  have o : KO (f_Prc_useAccumulator S 77) (f_Mdl_arithmetic T 77) := o_4D h
  rw [cT_0  o.1, show mT T 77 = mA T 77 from rfl, mA_0  o.2.1]
  exact R_12 o.2.2 rfl (Or.inl rfl)
theorem dd_78 {S T : Sc} (h : RR S T) : RR (cT S 78) (mT T 78) := by
  rw [cT_none rfl rfl rfl rfl rfl rfl rfl rfl rfl rfl rfl rfl, show mT T 78 = mC T 78 from rfl, mC_none rfl rfl rfl rfl rfl rfl]
  exact R_12 h rfl (Or.inr rfl)
theorem dd_79 {S T : Sc} (h : RR S T) : RR (cT S 79) (mT T 79) := by
  have o : KO (f_Prc_useAccumulator S 79) (f_Mdl_arithmetic T 79) := o_4F h
  rw [cT_0  o.1, show mT T 79 = mA T 79 from rfl, mA_0  o.2.1]
  exact R_12 o.2.2 rfl (Or.inl rfl)
theorem dd_80 {S T : Sc} (h : RR S T) : RR (cT S 80) (mT T 80) := by
  have o : KO (f_Prc_branch S 80) (f_Mdl_jump T 80) := o_50 h
  rw [cT_8 rfl rfl rfl rfl rfl rfl rfl rfl o.1, show mT T 80 = mC T 80 from rfl, mC_4 rfl rfl rfl rfl o.2.1]
  exact R_12 o.2.2 rfl (Or.inl rfl)
theorem dd_81 {S T : Sc} (h : RR S T) : RR (cT S 81) (mT T 81) := by
  have o : KO (f_Prc_useAccumulator S 81) (f_Mdl_arithmetic T 81) := o_51 h
  rw [cT_0  o.1, show mT T 81 = mA T 81 from rfl, mA_0  o.2.1]
  exact R_12 o.2.2 rfl (Or.inl rfl)
theorem dd_82 {S T : Sc} (h : RR S T) : RR (cT S 82) (mT T 82) := by
  have o : KO (f_Prc_useAccumulator S 82) (f_Mdl_arithmetic T 82) := o_52 h
  rw [cT_0  o.1, show mT T 82 = mA T 82 from rfl, mA_0  o.2.1]
  exact R_12 o.2.2 rfl (Or.inl rfl)
theorem dd_83 {S T : Sc} (h : RR S T) : RR (cT S 83) (mT T 83) := by
  have o : KO (f_Prc_useAccumulator S 83) (f_Mdl_arithmetic T 83) := o_53 h
  rw [cT_0  o.1, show mT T 83 = mA T 83 from rfl, mA_0  o.2.1]
  exact R_12 o.2.2 rfl (Or.inl rfl)
theorem dd_84 {S T : Sc} (h : RR S T) : RR (cT S 84) (mT T 84) := by
  have o : KO (f_Prc_moveBlock S 84) (f_Mdl_other T 84) := o_54 h
  rw [cT_11 rfl rfl rfl rfl rfl rfl rfl rfl rfl rfl rfl o.1, show mT T 84 = mC T 84 from rfl, mC_5 rfl rfl rfl rfl rfl o.2.1]
  exact R_12 o.2.2 rfl (Or.inl rfl)
theorem dd_85 {S T : Sc} (h : RR S T) : RR (cT S 85) (mT T 85) := by
  have o : KO (f_Prc_useAccumulator S 85) (f_Mdl_arithmetic T 85) := o_55 h
  rw [cT_0  o.1, show mT T 85 = mA T 85 from rfl, mA_0  o.2.1]
  exact R_12 o.2.2 rfl (Or.inl rfl)
theorem dd_86 {S T : Sc} (h : RR S T) : RR (cT S 86) (mT T 86) := by
  rw [cT_none rfl rfl rfl rfl rfl rfl rfl rfl rfl rfl rfl rfl, show mT T 86 = mC T 86 from rfl, mC_none rfl rfl rfl rfl rfl rfl]
  exact R_12 h rfl (Or.inr rfl)
theorem dd_87 {S T : Sc} (h : RR S T) : RR (cT S 87) (mT T 87) := by
  have o : KO (f_Prc_useAccumulator S 87) (f_Mdl_arithmetic T 87) := o_57 h
  rw [cT_0  o.1, show mT T 87 = mA T 87 from rfl, mA_0  o.2.1]
  exact R_12 o.2.2 rfl (Or.inl rfl)
theorem dd_88 {S T : Sc} (h : RR S T) : RR (cT S 88) (mT T 88) := by
  have o : KO (f_Prc_changeFlags S 88) (f_Mdl_other T 88) := o_58 h
  rw [cT_10 rfl rfl rfl rfl rfl rfl rfl rfl rfl rfl o.1, show mT T 88 = mC T 88 from rfl, mC_5 rfl rfl rfl rfl rfl o.2.1]
  exact R_12 o.2.2 rfl (Or.inl rfl)
theorem dd_89 {S T : Sc} (h : RR S T) : RR (cT S 89) (mT T 89) := by
  have o : KO (f_Prc_useAccumulator S 89) (f_Mdl_arithmetic T 89) := o_59 h
  rw [cT_0  o.1, show mT T 89 = mA T 89 from rfl, mA_0  o.2.1]
  exact R_12 o.2.2 rfl (Or.inl rfl)
theorem dd_90 {S T : Sc} (h : RR S T) : RR (cT S 90) (mT T 90) := by
  have o : KO (f_Prc_push S 90) (f_Mdl_stack T 90) := o_5A h
  rw [cT_6 rfl rfl rfl rfl rfl rfl o.1, show mT T 90 = mC T 90 from rfl, mC_3 rfl rfl rfl o.2.1]
  exact R_12 o.2.2 rfl (Or.inl rfl)
theorem dd_91 {S T : Sc} (h : RR S T) : RR (cT S 91) (mT T 91) := by
  have o : KO (f_Prc_transfer S 91) (f_Mdl_transfer T 91) := o_5B h
  rw [cT_5 rfl rfl rfl rfl rfl o.1, show mT T 91 = mC T 91 from rfl, mC_2 rfl rfl o.2.1]
  exact R_12 o.2.2 rfl (Or.inl rfl)
theorem dd_92 {S T : Sc} (h : RR S T) : RR (cT S 92) (mT T 92) := by
  have o : KO (f_Prc_jump S 92) (f_Mdl_jump T 92) := o_5C h
  rw [cT_9 rfl rfl rfl rfl rfl rfl rfl rfl rfl o.1, show mT T 92 = mC T 92 from rfl, mC_4 rfl rfl rfl rfl o.2.1]
  exact R_12 o.2.2 rfl (Or.inl rfl)
theorem dd_93 {S T : Sc} (h : RR S T) : RR (cT S 93) (mT T 93) := by
  have o : KO (f_Prc_useAccumulator S 93) (f_Mdl_arithmetic T 93) := o_5D h
  rw [cT_0  o.1, show mT T 93 = mA T 93 from rfl, mA_0  o.2.1]
  exact R_12 o.2.2 rfl (Or.inl rfl)
theorem dd_94 {S T : Sc} (h : RR S T) : RR (cT S 94) (mT T 94) := by
  rw [cT_none rfl rfl rfl rfl rfl rfl rfl rfl rfl rfl rfl rfl, show mT T 94 = mC T 94 from rfl, mC_none rfl rfl rfl rfl rfl rfl]
  exact R_12 h rfl (Or.inr rfl)
theorem dd_95 {S T : Sc} (h : RR S T) : RR (cT S 95) (mT T 95) := by
  have o : KO (f_Prc_useAccumulator S 95) (f_Mdl_arithmetic T 95) := o_5F h
  rw [cT_0  o.1, show mT T 95 = mA T 95 from rfl, mA_0  o.2.1]
  exact R_12 o.2.2 rfl (Or.inl rfl)
theorem dd_96 {S T : Sc} (h : RR S T) : RR (cT S 96) (mT T 96) := by
  have o : KO (f_Prc_jump S 96) (f_Mdl_jump T 96) := o_60 h
  rw [cT_9 rfl rfl rfl rfl rfl rfl rfl rfl rfl o.1, show mT T 96 = mC T 96 from rfl, mC_4 rfl rfl rfl rfl o.2.1]
  exact R_12 o.2.2 rfl (Or.inl rfl)
theorem dd_97 {S T : Sc} (h : RR S T) : RR (cT S 97) (mT T 97) := by
  have o : KO (f_Prc_useAccumulator S 97) (f_Mdl_arithmetic T 97) := o_61 h
  rw [cT_0  o.1, show mT T 97 = mA T 97 from rfl, mA_0  o.2.1]
  exact R_12 o.2.2 rfl (Or.inl rfl)
theorem dd_98 {S T : Sc} (h : RR S T) : RR (cT S 98) (mT T 98) := by
  rw [cT_none rfl rfl rfl rfl rfl rfl rfl rfl rfl rfl rfl rfl, show mT T 98 = mC T 98 from rfl, mC_none rfl rfl rfl rfl rfl rfl]
  exact R_12 h rfl (Or.inr rfl)
theorem dd_99 {S T : Sc} (h : RR S T) : RR (cT S 99) (mT T 99) := by
  have o : KO (f_Prc_useAccumulator S 99) (f_Mdl_arithmetic T 99) := o_63 h
  rw [cT_0  o.1, show mT T 99 = mA T 99 from rfl, mA_0  o.2.1]
  exact R_12 o.2.2 rfl (Or.inl rfl)
theorem dd_100 {S T : Sc} (h : RR S T) : RR (cT S 100) (mT T 100) := by
  have o : KO (f_Prc_storeZero S 100) (f_Mdl_index T 100) := o_64 h
  rw [cT_2 rfl rfl o.1, show mT T 100 = mC T 100 from rfl, mC_1 rfl o.2.1]
  exact R_12 o.2.2 rfl (Or.inl rfl)
theorem dd_101 {S T : Sc} (h : RR S T) : RR (cT S 101) (mT T 101) := by
  have o : KO (f_Prc_useAccumulator S 101) (f_Mdl_arithmetic T 101) := o_65 h
  rw [cT_0  o.1, show mT T 101 = mA T 101 from rfl, mA_0  o.2.1]
  exact R_12 o.2.2 rfl (Or.inl rfl)
theorem dd_102 {S T : Sc} (h : RR S T) : RR (cT S 102) (mT T 102) := by
  have o : KO (f_Prc_changeMemory S 102) (f_Mdl_change T 102) := o_66 h
  rw [cT_3 rfl rfl rfl o.1, show mT T 102 = mC T 102 from rfl, mC_0  o.2.1]
  exact R_12 o.2.2 rfl (Or.inl rfl)
theorem dd_103 {S T : Sc} (h : RR S T) : RR (cT S 103) (mT T 103) := by
  have o : KO (f_Prc_useAccumulator S 103) (f_Mdl_arithmetic T 103) := o_67 h
  rw [cT_0  o.1, show mT T 103 = mA T 103 from rfl, mA_0  o.2.1]
  exact R_12 o.2.2 rfl (Or.inl rfl)
theorem dd_104 {S T : Sc} (h : RR S T) : RR (cT S 104) (mT T 104) := by
  have o : KO (f_Prc_pull S 104) (f_Mdl_stack T 104) := o_68 h
  rw [cT_7 rfl rfl rfl rfl rfl rfl rfl o.1, show mT T 104 = mC T 104 from rfl, mC_3 rfl rfl rfl o.2.1]
  exact R_12 o.2.2 rfl (Or.inl rfl)
theorem dd_105 {S T : Sc} (h : RR S T) : RR (cT S 105) (mT T 105) := by
  have o : KO (f_Prc_useAccumulator S 105) (f_Mdl_arithmetic T 105) := o_69 h
  rw [cT_0  o.1, show mT T 105 = mA T 105 from rfl, mA_0  o.2.1]
  exact R_12 o.2.2 rfl (Or.inl rfl)
theorem dd_106 {S T : Sc} (h : RR S T) : RR (cT S 106) (mT T 106) := by
  have o : KO (f_Prc_changeRegister S 106) (f_Mdl_change T 106) := o_6A h
  rw [cT_4 rfl rfl rfl rfl o.1, show mT T 106 = mC T 106 from rfl, mC_0  o.2.1]
  exact R_12 o.2.2 rfl (Or.inl rfl)
theorem dd_107 {S T : Sc} (h : RR S T) : RR (cT S 107) (mT T 107) := by
  have o : KO (f_Prc_jump S 107) (f_Mdl_jump T 107) := o_6B h
  rw [cT_9 rfl rfl rfl rfl rfl rfl rfl rfl rfl o.1, show mT T 107 = mC T 107 from rfl, mC_4 rfl rfl rfl rfl o.2.1]
  exact R_12 o.2.2 rfl (Or.inl rfl)
theorem dd_108 {S T : Sc} (h : RR S T) : RR (cT S 108) (mT T 108) := by
  rw [cT_none rfl rfl rfl rfl rfl rfl rfl rfl rfl rfl rfl rfl, show mT T 108 = mC T 108 from rfl, mC_none rfl rfl rfl rfl rfl rfl]
  exact R_12 h rfl (Or.inr rfl)
theorem dd_109 {S T : Sc} (h : RR S T) : RR (cT S 109) (mT T 109) := by
  have o : KO (f_Prc_useAccumulator S 109) (f_Mdl_arithmetic T 109) := o_6D h
  rw [cT_0  o.1, show mT T 109 = mA T 109 from rfl, mA_0  o.2.1]
  exact R_12 o.2.2 rfl (Or.inl rfl)
theorem dd_110 {S T : Sc} (h : RR S T) : RR (cT S 110) (mT T 110) := by
  rw [cT_none rfl rfl rfl rfl rfl rfl rfl rfl rfl rfl rfl rfl, show mT T 110 = mC T 110 from rfl, mC_none rfl rfl rfl rfl rfl rfl]
  exact R_12 h rfl (Or.inr rfl)
theorem dd_111 {S T : Sc} (h : RR S T) : RR (cT S 111) (mT T 111) := by
  have o : KO (f_Prc_useAccumulator S 111) (f_Mdl_arithmetic T 111) := o_6F h
  rw [cT_0  o.1, show mT T 111 = mA T 111 from rfl, mA_0  o.2.1]
  exact R_12 o.2.2 rfl (Or.inl rfl)
theorem dd_112 {S T : Sc} (h : RR S T) : RR (cT S 112) (mT T 112) := by
  have o : KO (f_Prc_branch S 112) (f_Mdl_jump T 112) := o_70 h
  rw [cT_8 rfl rfl rfl rfl rfl rfl rfl rfl o.1, show mT T 112 = mC T 112 from rfl, mC_4 rfl rfl rfl rfl o.2.1]
  exact R_12 o.2.2 rfl (Or.inl rfl)
theorem dd_113 {S T : Sc} (h : RR S T) : RR (cT S 113) (mT T 113) := by
  have o : KO (f_Prc_useAccumulator S 113) (f_Mdl_arithmetic T 113) := o_71 h
  rw [cT_0  o.1, show mT T 113 = mA T 113 from rfl, mA_0  o.2.1]
  exact R_12 o.2.2 rfl (Or.inl rfl)
theorem dd_114 {S T : Sc} (h : RR S T) : RR (cT S 114) (mT T 114) := by
  have o : KO (f_Prc_useAccumulator S 114) (f_Mdl_arithmetic T 114) := o_72 h
  rw [cT_0  o.1, show mT T 114 = mA T 114 from rfl, mA_0  o.2.1]
  exact R_12 o.2.2 rfl (Or.inl rfl)
theorem dd_115 {S T : Sc} (h : RR S T) : RR (cT S 115) (mT T 115) := by
  have o : KO (f_Prc_useAccumulator S 115) (f_Mdl_arithmetic T 115) := o_73 h
  rw [cT_0  o.1, show mT T 115 = mA T 115 from rfl, mA_0  o.2.1]
  exact R_12 o.2.2 rfl (Or.inl rfl)
theorem dd_116 {S T : Sc} (h : RR S T) : RR (cT S 116) (mT T 116) := by
  rw [cT_none rfl rfl rfl rfl rfl rfl rfl rfl rfl rfl rfl rfl, show mT T 116 = mC T 116 from rfl, mC_none rfl rfl rfl rfl rfl rfl]
  exact R_12 h rfl (Or.inr rfl)
theorem dd_117 {S T : Sc} (h : RR S T) : RR (cT S 117) (mT T 117) := by
  have o : KO (f_Prc_useAccumulator S 117) (f_Mdl_arithmetic T 117) := o_75 h
  rw [cT_0  o.1, show mT T 117 = mA T 117 from rfl, mA_0  o.2.1]
  exact R_12 o.2.2 rfl (Or.inl rfl)
theorem dd_118 {S T : Sc} (h : RR S T) : RR (cT S 118) (mT T 118) := by
  rw [cT_none rfl rfl rfl rfl rfl rfl rfl rfl rfl rfl rfl rfl, show mT T 118 = mC T 118 from rfl, mC_none rfl rfl rfl rfl rfl rfl]
  exact R_12 h rfl (Or.inr rfl)
theorem dd_119 {S T : Sc} (h : RR S T) : RR (cT S 119) (mT T 119) := by
  have o : KO (f_Prc_useAccumulator S 119) (f_Mdl_arithmetic T 119) := o_77 h
  rw [cT_0  o.1, show mT T 119 = mA T 119 from rfl, mA_0  o.2.1]
  exact R_12 o.2.2 rfl (Or.inl rfl)
theorem dd_120 {S T : Sc} (h : RR S T) : RR (cT S 120) (mT T 120) := by
  have o : KO (f_Prc_changeFlags S 120) (f_Mdl_other T 120) := o_78 h
  rw [cT_10 rfl rfl rfl rfl rfl rfl rfl rfl rfl rfl o.1, show mT T 120 = mC T 120 from rfl, mC_5 rfl rfl rfl rfl rfl o.2.1]
  exact R_12 o.2.2 rfl (Or.inl rfl)
theorem dd_121 {S T : Sc} (h : RR S T) : RR (cT S 121) (mT T 121) := by
  have o : KO (f_Prc_useAccumulator S 121) (f_Mdl_arithmetic T 121) := o_79 h
  rw [cT_0  o.1, show mT T 121 = mA T 121 from rfl, mA_0  o.2.1]
  exact R_12 o.2.2 rfl (Or.inl rfl)
theorem dd_122 {S T : Sc} (h : RR S T) : RR (cT S 122) (mT T 122) := by
  have o : KO (f_Prc_pull S 122) (f_Mdl_stack T 122) := o_7A h
  rw [cT_7 rfl rfl rfl rfl rfl rfl rfl o.1, show mT T 122 = mC T 122 from rfl, mC_3 rfl rfl rfl o.2.1]
  exact R_12 o.2.2 rfl (Or.inl rfl)
theorem dd_123 {S T : Sc} (h : RR S T) : RR (cT S 123) (mT T 123) := by
  have o : KO (f_Prc_transfer S 123) (f_Mdl_transfer T 123) := o_7B h
  rw [cT_5 rfl rfl rfl rfl rfl o.1, show mT T 123 = mC T 123 from rfl, mC_2 rfl rfl o.2.1]
  exact R_12 o.2.2 rfl (Or.inl rfl)
theorem dd_124 {S T : Sc} (h : RR S T) : RR (cT S 124) (mT T 124) := by
  rw [cT_none rfl rfl rfl rfl rfl rfl rfl rfl rfl rfl rfl rfl, show mT T 124 = mC T 124 from rfl, mC_none rfl rfl rfl rfl rfl rfl]
  exact R_12 h rfl (Or.inr rfl)
theorem dd_125 {S T : Sc} (h : RR S T) : RR (cT S 125) (mT T 125) := by
  have o : KO (f_Prc_useAccumulator S 125) (f_Mdl_arithmetic T 125) := o_7D h
  rw [cT_0  o.1, show mT T 125 = mA T 125 from rfl, mA_0  o.2.1]
  exact R_12 o.2.2 rfl (Or.inl rfl)
theorem dd_126 {S T : Sc} (h : RR S T) : RR (cT S 126) (mT T 126) := by
  rw [cT_none rfl rfl rfl rfl rfl rfl rfl rfl rfl rfl rfl rfl, show mT T 126 = mC T 126 from rfl, mC_none rfl rfl rfl rfl rfl rfl]
  exact R_12 h rfl (Or.inr rfl)
theorem dd_127 {S T : Sc} (h : RR S T) : RR (cT S 127) (mT T 127) := by
  have o : KO (f_Prc_useAccumulator S 127) (f_Mdl_arithmetic T 127) := o_7F h
  rw [cT_0  o.1, show mT T 127 = mA T 127 from rfl, mA_0  o.2.1]
  exact R_12 o.2.2 rfl (Or.inl rfl)
theorem dd_128 {S T : Sc} (h : RR S T) : RR (cT S 128) (mT T 128) := by
  have o : KO (f_Prc_branch S 128) (f_Mdl_jump T 128) := o_80 h
  rw [cT_8 rfl rfl rfl rfl rfl rfl rfl rfl o.1, show mT T 128 = mC T 128 from rfl, mC_4 rfl rfl rfl rfl o.2.1]
  exact R_12 o.2.2 rfl (Or.inl rfl)
theorem dd_129 {S T : Sc} (h : RR S T) : RR (cT S 129) (mT T 129) := by
  have o : KO (f_Prc_useAccumulator S 129) (f_Mdl_arithmetic T 129) := o_81 h
  rw [cT_0  o.1, show mT T 129 = mA T 129 from rfl, mA_0  o.2.1]
  exact R_12 o.2.2 rfl (Or.inl rfl)
theorem dd_130 {S T : Sc} (h : RR S T) : RR (cT S 130) (mT T 130) := by
  have o : KO (f_Prc_branch S 130) (f_Mdl_jump T 130) := o_82 h
  rw [cT_8 rfl rfl rfl rfl rfl rfl rfl rfl o.1, show mT T 130 = mC T 130 from rfl, mC_4 rfl rfl rfl rfl o.2.1]
  exact R_12 o.2.2 rfl (Or.inl rfl)
theorem dd_131 {S T : Sc} (h : RR S T) : RR (cT S 131) (mT T 131) := by
  have o : KO (f_Prc_useAccumulator S 131) (f_Mdl_arithmetic T 131) := o_83 h
  rw [cT_0  o.1, show mT T 131 = mA T 131 from rfl, mA_0  o.2.1]
  exact R_12 o.2.2 rfl (Or.inl rfl)
theorem dd_132 {S T : Sc} (h : RR S T) : RR (cT S 132) (mT T 132) := by
  have o : KO (f_Prc_useIndex S 132) (f_Mdl_index T 132) := o_84 h
  rw [cT_1 rfl o.1, show mT T 132 = mC T 132 from rfl, mC_1 rfl o.2.1]
  exact R_12 o.2.2 rfl (Or.inl rfl)
theorem dd_133 {S T : Sc} (h : RR S T) : RR (cT S 133) (mT T 133) := by
  have o : KO (f_Prc_useAccumulator S 133) (f_Mdl_arithmetic T 133) := o_85 h
  rw [cT_0  o.1, show mT T 133 = mA T 133 from rfl, mA_0  o.2.1]
  exact R_12 o.2.2 rfl (Or.inl rfl)
theorem dd_134 {S T : Sc} (h : RR S T) : RR (cT S 134) (mT T 134) := by
  have o : KO (f_Prc_useIndex S 134) (f_Mdl_index T 134) := o_86 h
  rw [cT_1 rfl o.1, show mT T 134 = mC T 134 from rfl, mC_1 rfl o.2.1]
  exact R_12 o.2.2 rfl (Or.inl rfl)
theorem dd_135 {S T : Sc} (h : RR S T) : RR (cT S 135) (mT T 135) := by
  have o : KO (f_Prc_useAccumulator S 135) (f_Mdl_arithmetic T 135) := o_87 h
  rw [cT_0  o.1, show mT T 135 = mA T 135 from rfl, mA_0  o.2.1]
  exact R_12 o.2.2 rfl (Or.inl rfl)
theorem dd_136 {S T : Sc} (h : RR S T) : RR (cT S 136) (mT T 136) := by
  have o : KO (f_Prc_changeRegister S 136) (f_Mdl_index T 136) := o_88 h
  rw [cT_4 rfl rfl rfl rfl o.1, show mT T 136 = mC T 136 from rfl, mC_1 rfl o.2.1]
  exact R_12 o.2.2 rfl (Or.inl rfl)
theorem dd_137 {S T : Sc} (h : RR S T) : RR (cT S 137) (mT T 137) := by
  rw [cT_none rfl rfl rfl rfl rfl rfl rfl rfl rfl rfl rfl rfl, show mT T 137 = mA T 137 from rfl, mA_none rfl]
  exact R_12 h rfl (Or.inr rfl)
theorem dd_138 {S T : Sc} (h : RR S T) : RR (cT S 138) (mT T 138) := by
  have o : KO (f_Prc_transfer S 138) (f_Mdl_transfer T 138) := o_8A h
  rw [cT_5 rfl rfl rfl rfl rfl o.1, show mT T 138 = mC T 138 from rfl, mC_2 rfl rfl o.2.1]
  exact R_12 o.2.2 rfl (Or.inl rfl)
theorem dd_139 {S T : Sc} (h : RR S T) : RR (cT S 139) (mT T 139) := by
  have o : KO (f_Prc_push S 139) (f_Mdl_stack T 139) := o_8B h
  rw [cT_6 rfl rfl rfl rfl rfl rfl o.1, show mT T 139 = mC T 139 from rfl, mC_3 rfl rfl rfl o.2.1]
  exact R_12 o.2.2 rfl (Or.inl rfl)
theorem dd_140 {S T : Sc} (h : RR S T) : RR (cT S 140) (mT T 140) := by
  have o : KO (f_Prc_useIndex S 140) (f_Mdl_index T 140) := o_8C h
  rw [cT_1 rfl o.1, show mT T 140 = mC T 140 from rfl, mC_1 rfl o.2.1]
  exact R_12 o.2.2 rfl (Or.inl rfl)
theorem dd_141 {S T : Sc} (h : RR S T) : RR (cT S 141) (mT T 141) := by
  have o : KO (f_Prc_useAccumulator S 141) (f_Mdl_arithmetic T 141) := o_8D h
  rw [cT_0  o.1, show mT T 141 = mA T 141 from rfl, mA_0  o.2.1]
  exact R_12 o.2.2 rfl (Or.inl rfl)
theorem dd_142 {S T : Sc} (h : RR S T) : RR (cT S 142) (mT T 142) := by
  have o : KO (f_Prc_useIndex S 142) (f_Mdl_index T 142) := o_8E h
  rw [cT_1 rfl o.1, show mT T 142 = mC T 142 from rfl, mC_1 rfl o.2.1]
  exact R_12 o.2.2 rfl (Or.inl rfl)
theorem dd_143 {S T : Sc} (h : RR S T) : RR (cT S 143) (mT T 143) := by
  have o : KO (f_Prc_useAccumulator S 143) (f_Mdl_arithmetic T 143) := o_8F h
  rw [cT_0  o.1, show mT T 143 = mA T 143 from rfl, mA_0  o.2.1]
  exact R_12 o.2.2 rfl (Or.inl rfl)
theorem dd_144 {S T : Sc} (h : RR S T) : RR (cT S 144) (mT T 144) := by
  have o : KO (f_Prc_branch S 144) (f_Mdl_jump T 144) := o_90 h
  rw [cT_8 rfl rfl rfl rfl rfl rfl rfl rfl o.1, show mT T 144 = mC T 144 from rfl, mC_4 rfl rfl rfl rfl o.2.1]
  exact R_12 o.2.2 rfl (Or.inl rfl)
theorem dd_145 {S T : Sc} (h : RR S T) : RR (cT S 145) (mT T 145) := by
  have o : KO (f_Prc_useAccumulator S 145) (f_Mdl_arithmetic T 145) := o_91 h
  rw [cT_0  o.1, show mT T 145 = mA T 145 from rfl, mA_0  o.2.1]
  exact R_12 o.2.2 rfl (Or.inl rfl)
theorem dd_146 {S T : Sc} (h : RR S T) : RR (cT S 146) (mT T 146) := by
  have o : KO (f_Prc_useAccumulator S 146) (f_Mdl_arithmetic T 146) := o_92 h
  rw [cT_0  o.1, show mT T 146 = mA T 146 from rfl, mA_0  o.2.1]
  exact R_12 o.2.2 rfl (Or.inl rfl)
theorem dd_147 {S T : Sc} (h : RR S T) : RR (cT S 147) (mT T 147) := by
  have o : KO (f_Prc_useAccumulator S 147) (f_Mdl_arithmetic T 147) := o_93 h
  rw [cT_0  o.1, show mT T 147 = mA T 147 from rfl, mA_0  o.2.1]
  exact R_12 o.2.2 rfl (Or.inl rfl)
theorem dd_148 {S T : Sc} (h : RR S T) : RR (cT S 148) (mT T 148) := by
  rw [cT_none rfl rfl rfl rfl rfl rfl rfl rfl rfl rfl rfl rfl, show mT T 148 = mC T 148 from rfl, mC_none rfl rfl rfl rfl rfl rfl]
  exact R_12 h rfl (Or.inr rfl)
theorem dd_149 {S T : Sc} (h : RR S T) : RR (cT S 149) (mT T 149) := by
  have o : KO (f_Prc_useAccumulator S 149) (f_Mdl_arithmetic T 149) := o_95 h
  rw [cT_0  o.1, show mT T 149 = mA T 149 from rfl, mA_0  o.2.1]
  exact R_12 o.2.2 rfl (Or.inl rfl)
theorem dd_150 {S T : Sc} (h : RR S T) : RR (cT S 150) (mT T 150) := by
  rw [cT_none rfl rfl rfl rfl rfl rfl rfl rfl rfl rfl rfl rfl, show mT T 150 = mC T 150 from rfl, mC_none rfl rfl rfl rfl rfl rfl]
  exact R_12 h rfl (Or.inr rfl)
theorem dd_151 {S T : Sc} (h : RR S T) : RR (cT S 151) (mT T 151) := by
  have o : KO (f_Prc_useAccumulator S 151) (f_Mdl_arithmetic T 151) := o_97 h
  rw [cT_0  o.1, show mT T 151 = mA T 151 from rfl, mA_0  o.2.1]
  exact R_12 o.2.2 rfl (Or.inl rfl)
theorem dd_152 {S T : Sc} (h : RR S T) : RR (cT S 152) (mT T 152) := by
  have o : KO (f_Prc_transfer S 152) (f_Mdl_transfer T 152) := o_98 h
  rw [cT_5 rfl rfl rfl rfl rfl o.1, show mT T 152 = mC T 152 from rfl, mC_2 rfl rfl o.2.1]
  exact R_12 o.2.2 rfl (Or.inl rfl)
theorem dd_153 {S T : Sc} (h : RR S T) : RR (cT S 153) (mT T 153) := by
  have o : KO (f_Prc_useAccumulator S 153) (f_Mdl_arithmetic T 153) := o_99 h
  rw [cT_0  o.1, show mT T 153 = mA T 153 from rfl, mA_0  o.2.1]
  exact R_12 o.2.2 rfl (Or.inl rfl)
theorem dd_154 {S T : Sc} (h : RR S T) : RR (cT S 154) (mT T 154) := by
  have o : KO (f_Prc_transfer S 154) (f_Mdl_transfer T 154) := o_9A h
  rw [cT_5 rfl rfl rfl rfl rfl o.1, show mT T 154 = mC T 154 from rfl, mC_2 rfl rfl o.2.1]
  exact R_12 o.2.2 rfl (Or.inl rfl)
theorem dd_155 {S T : Sc} (h : RR S T) : RR (cT S 155) (mT T 155) := by
  have o : KO (f_Prc_transfer S 155) (f_Mdl_transfer T 155) := o_9B h
  rw [cT_5 rfl rfl rfl rfl rfl o.1, show mT T 155 = mC T 155 from rfl, mC_2 rfl rfl o.2.1]
  exact R_12 o.2.2 rfl (Or.inl rfl)
theorem dd_156 {S T : Sc} (h : RR S T) : RR (cT S 156) (mT T 156) := by
  have o : KO (f_Prc_storeZero S 156) (f_Mdl_index T 156) := o_9C h
  rw [cT_2 rfl rfl o.1, show mT T 156 = mC T 156 from rfl, mC_1 rfl o.2.1]
  exact R_12 o.2.2 rfl (Or.inl rfl)
theorem dd_157 {S T : Sc} (h : RR S T) : RR (cT S 157) (mT T 157) := by
  have o : KO (f_Prc_useAccumulator S 157) (f_Mdl_arithmetic T 157) := o_9D h
  rw [cT_0  o.1, show mT T 157 = mA T 157 from rfl, mA_0  o.2.1]
  exact R_12 o.2.2 rfl (Or.inl rfl)
theorem dd_158 {S T : Sc} (h : RR S T) : RR (cT S 158) (mT T 158) := by
  rw [cT_none rfl rfl rfl rfl rfl rfl rfl rfl rfl rfl rfl rfl, show mT T 158 = mC T 158 from rfl, mC_none rfl rfl rfl rfl rfl rfl]
  exact R_12 h rfl (Or.inr rfl)
theorem dd_159 {S T : Sc} (h : RR S T) : RR (cT S 159) (mT T 159) := by
  have o : KO (f_Prc_useAccumulator S 159) (f_Mdl_arithmetic T 159) := o_9F h
  rw [cT_0  o.1, show mT T 159 = mA T 159 from rfl, mA_0  o.2.1]
  exact R_12 o.2.2 rfl (Or.inl rfl)
theorem dd_160 {S T : Sc} (h : RR S T) : RR (cT S 160) (mT T 160) := by
  have o : KO (f_Prc_useIndex S 160) (f_Mdl_index T 160) := o_A0 h
  rw [cT_1 rfl o.1, show mT T 160 = mC T 160 from rfl, mC_1 rfl o.2.1]
  exact R_12 o.2.2 rfl (Or.inl rfl)
theorem dd_161 {S T : Sc} (h : RR S T) : RR (cT S 161) (mT T 161) := by
  have o : KO (f_Prc_useAccumulator S 161) (f_Mdl_arithmetic T 161) := o_A1 h
  rw [cT_0  o.1, show mT T 161 = mA T 161 from rfl, mA_0  o.2.1]
  exact R_12 o.2.2 rfl (Or.inl rfl)
theorem dd_162 {S T : Sc} (h : RR S T) : RR (cT S 162) (mT T 162) := by
  have o : KO (f_Prc_useIndex S 162) (f_Mdl_index T 162) := o_A2 h
  rw [cT_1 rfl o.1, show mT T 162 = mC T 162 from rfl, mC_1 rfl o.2.1]
  exact R_12 o.2.2 rfl (Or.inl rfl)
theorem dd_163 {S T : Sc} (h : RR S T) : RR (cT S 163) (mT T 163) := by
  have o : KO (f_Prc_useAccumulator S 163) (f_Mdl_arithmetic T 163) := o_A3 h
  rw [cT_0  o.1, show mT T 163 = mA T 163 from rfl, mA_0  o.2.1]
  exact R_12 o.2.2 rfl (Or.inl rfl)
theorem dd_164 {S T : Sc} (h : RR S T) : RR (cT S 164) (mT T 164) := by
  have o : KO (f_Prc_useIndex S 164) (f_Mdl_index T 164) := o_A4 h
  rw [cT_1 rfl o.1, show mT T 164 = mC T 164 from rfl, mC_1 rfl o.2.1]
  exact R_12 o.2.2 rfl (Or.inl rfl)
theorem dd_165 {S T : Sc} (h : RR S T) : RR (cT S 165) (mT T 165) := by
  have o : KO (f_Prc_useAccumulator S 165) (f_Mdl_arithmetic T 165) := o_A5 h
  rw [cT_0  o.1, show mT T 165 = mA T 165 from rfl, mA_0  o.2.1]
  exact R_12 o.2.2 rfl (Or.inl rfl)
theorem dd_166 {S T : Sc} (h : RR S T) : RR (cT S 166) (mT T 166) := by
  have o : KO (f_Prc_useIndex S 166) (f_Mdl_index T 166) := o_A6 h
  rw [cT_1 rfl o.1, show mT T 166 = mC T 166 from rfl, mC_1 rfl o.2.1]
  exact R_12 o.2.2 rfl (Or.inl rfl)
theorem dd_167 {S T : Sc} (h : RR S T) : RR (cT S 167) (mT T 167) := by
  have o : KO (f_Prc_useAccumulator S 167) (f_Mdl_arithmetic T 167) := o_A7 h
  rw [cT_0  o.1, show mT T 167 = mA T 167 from rfl, mA_0  o.2.1]
  exact R_12 o.2.2 rfl (Or.inl rfl)
theorem dd_168 {S T : Sc} (h : RR S T) : RR (cT S 168) (mT T 168) := by
  have o : KO (f_Prc_transfer S 168) (f_Mdl_transfer T 168) := o_A8 h
  rw [cT_5 rfl rfl rfl rfl rfl o.1, show mT T 168 = mC T 168 from rfl, mC_2 rfl rfl o.2.1]
  exact R_12 o.2.2 rfl (Or.inl rfl)
theorem dd_169 {S T : Sc} (h : RR S T) : RR (cT S 169) (mT T 169) := by
  have o : KO (f_Prc_useAccumulator S 169) (f_Mdl_arithmetic T 169) := o_A9 h
  rw [cT_0  o.1, show mT T 169 = mA T 169 from rfl, mA_0  o.2.1]
  exact R_12 o.2.2 rfl (Or.inl rfl)
theorem dd_170 {S T : Sc} (h : RR S T) : RR (cT S 170) (mT T 170) := by
  have o : KO (f_Prc_transfer S 170) (f_Mdl_transfer T 170) := o_AA h
  rw [cT_5 rfl rfl rfl rfl rfl o.1, show mT T 170 = mC T 170 from rfl, mC_2 rfl rfl o.2.1]
  exact R_12 o.2.2 rfl (Or.inl rfl)
theorem dd_171 {S T : Sc} (h : RR S T) : RR (cT S 171) (mT T 171) := by
  have o : KO (f_Prc_pull S 171) (f_Mdl_stack T 171) := o_AB h
  rw [cT_7 rfl rfl rfl rfl rfl rfl rfl o.1, show mT T 171 = mC T 171 from rfl, mC_3 rfl rfl rfl o.2.1]
  exact R_12 o.2.2 rfl (Or.inl rfl)
theorem dd_172 {S T : Sc} (h : RR S T) : RR (cT S 172) (mT T 172) := by
  have o : KO (f_Prc_useIndex S 172) (f_Mdl_index T 172) := o_AC h
  rw [cT_1 rfl o.1, show mT T 172 = mC T 172 from rfl, mC_1 rfl o.2.1]
  exact R_12 o.2.2 rfl (Or.inl rfl)
theorem dd_173 {S T : Sc} (h : RR S T) : RR (cT S 173) (mT T 173) := by
  have o : KO (f_Prc_useAccumulator S 173) (f_Mdl_arithmetic T 173) := o_AD h
  rw [cT_0  o.1, show mT T 173 = mA T 173 from rfl, mA_0  o.2.1]
  exact R_12 o.2.2 rfl (Or.inl rfl)
theorem dd_174 {S T : Sc} (h : RR S T) : RR (cT S 174) (mT T 174) := by
  have o : KO (f_Prc_useIndex S 174) (f_Mdl_index T 174) := o_AE h
  rw [cT_1 rfl o.1, show mT T 174 = mC T 174 from rfl, mC_1 rfl o.2.1]
  exact R_12 o.2.2 rfl (Or.inl rfl)
theorem dd_175 {S T : Sc} (h : RR S T) : RR (cT S 175) (mT T 175) := by
  have o : KO (f_Prc_useAccumulator S 175) (f_Mdl_arithmetic T 175) := o_AF h
  rw [cT_0  o.1, show mT T 175 = mA T 175 from rfl, mA_0  o.2.1]
  exact R_12 o.2.2 rfl (Or.inl rfl)
theorem dd_176 {S T : Sc} (h : RR S T) : RR (cT S 176) (mT T 176) := by
  have o : KO (f_Prc_branch S 176) (f_Mdl_jump T 176) := o_B0 h
  rw [cT_8 rfl rfl rfl rfl rfl rfl rfl rfl o.1, show mT T 176 = mC T 176 from rfl, mC_4 rfl rfl rfl rfl o.2.1]
  exact R_12 o.2.2 rfl (Or.inl rfl)
theorem dd_177 {S T : Sc} (h : RR S T) : RR (cT S 177) (mT T 177) := by
  have o : KO (f_Prc_useAccumulator S 177) (f_Mdl_arithmetic T 177) := o_B1 h
  rw [cT_0  o.1, show mT T 177 = mA T 177 from rfl, mA_0  o.2.1]
  exact R_12 o.2.2 rfl (Or.inl rfl)
theorem dd_178 {S T : Sc} (h : RR S T) : RR (cT S 178) (mT T 178) := by
  have o : KO (f_Prc_useAccumulator S 178) (f_Mdl_arithmetic T 178) := o_B2 h
  rw [cT_0  o.1, show mT T 178 = mA T 178 from rfl, mA_0  o.2.1]
  exact R_12 o.2.2 rfl (Or.inl rfl)
theorem dd_179 {S T : Sc} (h : RR S T) : RR (cT S 179) (mT T 179) := by
  have o : KO (f_Prc_useAccumulator S 179) (f_Mdl_arithmetic T 179) := o_B3 h
  rw [cT_0  o.1, show mT T 179 = mA T 179 from rfl, mA_0  o.2.1]
  exact R_12 o.2.2 rfl (Or.inl rfl)
theorem dd_180 {S T : Sc} (h : RR S T) : RR (cT S 180) (mT T 180) := by
  rw [cT_none rfl rfl rfl rfl rfl rfl rfl rfl rfl rfl rfl rfl, show mT T 180 = mC T 180 from rfl, mC_none rfl rfl rfl rfl rfl rfl]
  exact R_12 h rfl (Or.inr rfl)
theorem dd_181 {S T : Sc} (h : RR S T) : RR (cT S 181) (mT T 181) := by
  have o : KO (f_Prc_useAccumulator S 181) (f_Mdl_arithmetic T 181) := o_B5 h
  rw [cT_0  o.1, show mT T 181 = mA T 181 from rfl, mA_0  o.2.1]
  exact R_12 o.2.2 rfl (Or.inl rfl)
theorem dd_182 {S T : Sc} (h : RR S T) : RR (cT S 182) (mT T 182) := by
  rw [cT_none rfl rfl rfl rfl rfl rfl rfl rfl rfl rfl rfl rfl, show mT T 182 = mC T 182 from rfl, mC_none rfl rfl rfl rfl rfl rfl]
  exact R_12 h rfl (Or.inr rfl)
theorem dd_183 {S T : Sc} (h : RR S T) : RR (cT S 183) (mT T 183) := by
  have o : KO (f_Prc_useAccumulator S 183) (f_Mdl_arithmetic T 183) := o_B7 h
  rw [cT_0  o.1, show mT T 183 = mA T 183 from rfl, mA_0  o.2.1]
  exact R_12 o.2.2 rfl (Or.inl rfl)
theorem dd_184 {S T : Sc} (h : RR S T) : RR (cT S 184) (mT T 184) := by
  have o : KO (f_Prc_changeFlags S 184) (f_Mdl_other T 184) := o_B8 h
  rw [cT_10 rfl rfl rfl rfl rfl rfl rfl rfl rfl rfl o.1, show mT T 184 = mC T 184 from rfl, mC_5 rfl rfl rfl rfl rfl o.2.1]
  exact R_12 o.2.2 rfl (Or.inl rfl)
theorem dd_185 {S T : Sc} (h : RR S T) : RR (cT S 185) (mT T 185) := by
  have o : KO (f_Prc_useAccumulator S 185) (f_Mdl_arithmetic T 185) := o_B9 h
  rw [cT_0  o.1, show mT T 185 = mA T 185 from rfl, mA_0  o.2.1]
  exact R_12 o.2.2 rfl (Or.inl rfl)
theorem dd_186 {S T : Sc} (h : RR S T) : RR (cT S 186) (mT T 186) := by
  have o : KO (f_Prc_transfer S 186) (f_Mdl_transfer T 186) := o_BA h
  rw [cT_5 rfl rfl rfl rfl rfl o.1, show mT T 186 = mC T 186 from rfl, mC_2 rfl rfl o.2.1]
  exact R_12 o.2.2 rfl (Or.inl rfl)
theorem dd_187 {S T : Sc} (h : RR S T) : RR (cT S 187) (mT T 187) := by
  have o : KO (f_Prc_transfer S 187) (f_Mdl_transfer T 187) := o_BB h
  rw [cT_5 rfl rfl rfl rfl rfl o.1, show mT T 187 = mC T 187 from rfl, mC_2 rfl rfl o.2.1]
  exact R_12 o.2.2 rfl (Or.inl rfl)
theorem dd_188 {S T : Sc} (h : RR S T) : RR (cT S 188) (mT T 188) := by
  rw [cT_none rfl rfl rfl rfl rfl rfl rfl rfl rfl rfl rfl rfl, show mT T 188 = mC T 188 from rfl, mC_none rfl rfl rfl rfl rfl rfl]
  exact R_12 h rfl (Or.inr rfl)
theorem dd_189 {S T : Sc} (h : RR S T) : RR (cT S 189) (mT T 189) := by
  have o : KO (f_Prc_useAccumulator S 189) (f_Mdl_arithmetic T 189) := o_BD h
  rw [cT_0  o.1, show mT T 189 = mA T 189 from rfl, mA_0  o.2.1]
  exact R_12 o.2.2 rfl (Or.inl rfl)
theorem dd_190 {S T : Sc} (h : RR S T) : RR (cT S 190) (mT T 190) := by
  rw [cT_none rfl rfl rfl rfl rfl rfl rfl rfl rfl rfl rfl rfl, show mT T 190 = mC T 190 from rfl, mC_none rfl rfl rfl rfl rfl rfl]
  exact R_12 h rfl (Or.inr rfl)
theorem dd_191 {S T : Sc} (h : RR S T) : RR (cT S 191) (mT T 191) := by
  have o : KO (f_Prc_useAccumulator S 191) (f_Mdl_arithmetic T 191) := o_BF h
  rw [cT_0  o.1, show mT T 191 = mA T 191 from rfl, mA_0  o.2.1]
  exact R_12 o.2.2 rfl (Or.inl rfl)
theorem dd_192 {S T : Sc} (h : RR S T) : RR (cT S 192) (mT T 192) := by
  have o : KO (f_Prc_useIndex S 192) (f_Mdl_index T 192) := o_C0 h
  rw [cT_1 rfl o.1, show mT T 192 = mC T 192 from rfl, mC_1 rfl o.2.1]
  exact R_12 o.2.2 rfl (Or.inl rfl)
theorem dd_193 {S T : Sc} (h : RR S T) : RR (cT S 193) (mT T 193) := by
  have o : KO (f_Prc_useAccumulator S 193) (f_Mdl_arithmetic T 193) := o_C1 h
  rw [cT_0  o.1, show mT T 193 = mA T 193 from rfl, mA_0  o.2.1]
  exact R_12 o.2.2 rfl (Or.inl rfl)
theorem dd_194 {S T : Sc} (h : RR S T) : RR (cT S 194) (mT T 194) := by
  have o : KO (f_Prc_changeFlags S 194) (f_Mdl_other T 194) := o_C2 h
  rw [cT_10 rfl rfl rfl rfl rfl rfl rfl rfl rfl rfl o.1, show mT T 194 = mC T 194 from rfl, mC_5 rfl rfl rfl rfl rfl o.2.1]
  exact R_12 o.2.2 rfl (Or.inl rfl)
theorem dd_195 {S T : Sc} (h : RR S T) : RR (cT S 195) (mT T 195) := by
  have o : KO (f_Prc_useAccumulator S 195) (f_Mdl_arithmetic T 195) := o_C3 h
  rw [cT_0  o.1, show mT T 195 = mA T 195 from rfl, mA_0  o.2.1]
  exact R_12 o.2.2 rfl (Or.inl rfl)
theorem dd_196 {S T : Sc} (h : RR S T) : RR (cT S 196) (mT T 196) := by
  rw [cT_none rfl rfl rfl rfl rfl rfl rfl rfl rfl rfl rfl rfl, show mT T 196 = mC T 196 from rfl, mC_none rfl rfl rfl rfl rfl rfl]
  exact R_12 h rfl (Or.inr rfl)
theorem dd_197 {S T : Sc} (h : RR S T) : RR (cT S 197) (mT T 197) := by
  have o : KO (f_Prc_useAccumulator S 197) (f_Mdl_arithmetic T 197) := o_C5 h
  rw [cT_0  o.1, show mT T 197 = mA T 197 from rfl, mA_0  o.2.1]
  exact R_12 o.2.2 rfl (Or.inl rfl)
theorem dd_198 {S T : Sc} (h : RR S T) : RR (cT S 198) (mT T 198) := by
  have o : KO (f_Prc_changeMemory S 198) (f_Mdl_change T 198) := o_C6 h
  rw [cT_3 rfl rfl rfl o.1, show mT T 198 = mC T 198 from rfl, mC_0  o.2.1]
  exact R_12 o.2.2 rfl (Or.inl rfl)
theorem dd_199 {S T : Sc} (h : RR S T) : RR (cT S 199) (mT T 199) := by
  have o : KO (f_Prc_useAccumulator S 199) (f_Mdl_arithmetic T 199) := o_C7 h
  rw [cT_0  o.1, show mT T 199 = mA T 199 from rfl, mA_0  o.2.1]
  exact R_12 o.2.2 rfl (Or.inl rfl)
theorem dd_200 {S T : Sc} (h : RR S T) : RR (cT S 200) (mT T 200) := by
  have o : KO (f_Prc_changeRegister S 200) (f_Mdl_index T 200) := o_C8 h
  rw [cT_4 rfl rfl rfl rfl o.1, show mT T 200 = mC T 200 from rfl, mC_1 rfl o.2.1]
  exact R_12 o.2.2 rfl (Or.inl rfl)
theorem dd_201 {S T : Sc} (h : RR S T) : RR (cT S 201) (mT T 201) := by
  have o : KO (f_Prc_useAccumulator S 201) (f_Mdl_arithmetic T 201) := o_C9 h
  rw [cT_0  o.1, show mT T 201 = mA T 201 from rfl, mA_0  o.2.1]
  exact R_12 o.2.2 rfl (Or.inl rfl)
theorem dd_202 {S T : Sc} (h : RR S T) : RR (cT S 202) (mT T 202) := by
  have o : KO (f_Prc_changeRegister S 202) (f_Mdl_index T 202) := o_CA h
  rw [cT_4 rfl rfl rfl rfl o.1, show mT T 202 = mC T 202 from rfl, mC_1 rfl o.2.1]
  exact R_12 o.2.2 rfl (Or.inl rfl)
theorem dd_203 {S T : Sc} (h : RR S T) : RR (cT S 203) (mT T 203) := by
  rw [cT_none rfl rfl rfl rfl rfl rfl rfl rfl rfl rfl rfl rfl, show mT T 203 = mC T 203 from rfl, mC_none rfl rfl rfl rfl rfl rfl]
  exact R_12 h rfl (Or.inr rfl)
theorem dd_204 {S T : Sc} (h : RR S T) : RR (cT S 204) (mT T 204) := by
  rw [cT_none rfl rfl rfl rfl rfl rfl rfl rfl rfl rfl rfl rfl, show mT T 204 = mC T 204 from rfl, mC_none rfl rfl rfl rfl rfl rfl]
  exact R_12 h rfl (Or.inr rfl)
theorem dd_205 {S T : Sc} (h : RR S T) : RR (cT S 205) (mT T 205) := by
  have o : KO (f_Prc_useAccumulator S 205) (f_Mdl_arithmetic T 205) := o_CD h
  rw [cT_0  o.1, show mT T 205 = mA T 205 from rfl, mA_0  o.2.1]
  exact R_12 o.2.2 rfl (Or.inl rfl)
theorem dd_206 {S T : Sc} (h : RR S T) : RR (cT S 206) (mT T 206) := by
  have o : KO (f_Prc_changeMemory S 206) (f_Mdl_change T 206) := o_CE h
  rw [cT_3 rfl rfl rfl o.1, show mT T 206 = mC T 206 from rfl, mC_0  o.2.1]
  exact R_12 o.2.2 rfl (Or.inl rfl)
theorem dd_207 {S T : Sc} (h : RR S T) : RR (cT S 207) (mT T 207) := by
  have o : KO (f_Prc_useAccumulator S 207) (f_Mdl_arithmetic T 207) := o_CF h
  rw [cT_0  o.1, show mT T 207 = mA T 207 from rfl, mA_0  o.2.1]
  exact R_12 o.2.2 rfl (Or.inl rfl)
theorem dd_208 {S T : Sc} (h : RR S T) : RR (cT S 208) (mT T 208) := by
  have o : KO (f_Prc_branch S 208) (f_Mdl_jump T 208) := o_D0 h
  rw [cT_8 rfl rfl rfl rfl rfl rfl rfl rfl o.1, show mT T 208 = mC T 208 from rfl, mC_4 rfl rfl rfl rfl o.2.1]
  exact R_12 o.2.2 rfl (Or.inl rfl)
theorem dd_209 {S T : Sc} (h : RR S T) : RR (cT S 209) (mT T 209) := by
  have o : KO (f_Prc_useAccumulator S 209) (f_Mdl_arithmetic T 209) := o_D1 h
  rw [cT_0  o.1, show mT T 209 = mA T 209 from rfl, mA_0  o.2.1]
  exact R_12 o.2.2 rfl (Or.inl rfl)
theorem dd_210 {S T : Sc} (h : RR S T) : RR (cT S 210) (mT T 210) := by
  have o : KO (f_Prc_useAccumulator S 210) (f_Mdl_arithmetic T 210) := o_D2 h
  rw [cT_0  o.1, show mT T 210 = mA T 210 from rfl, mA_0  o.2.1]
  exact R_12 o.2.2 rfl (Or.inl rfl)
theorem dd_211 {S T : Sc} (h : RR S T) : RR (cT S 211) (mT T 211) := by
  have o : KO (f_Prc_useAccumulator S 211) (f_Mdl_arithmetic T 211) := o_D3 h
  rw [cT_0  o.1, show mT T 211 = mA T 211 from rfl, mA_0  o.2.1]
  exact R_12 o.2.2 rfl (Or.inl rfl)
theorem dd_212 {S T : Sc} (h : RR S T) : RR (cT S 212) (mT T 212) := by
  rw [cT_none rfl rfl rfl rfl rfl rfl rfl rfl rfl rfl rfl rfl, show mT T 212 = mC T 212 from rfl, mC_none rfl rfl rfl rfl rfl rfl]
  exact R_12 h rfl (Or.inr rfl)
theorem dd_213 {S T : Sc} (h : RR S T) : RR (cT S 213) (mT T 213) := by
  have o : KO (f_Prc_useAccumulator S 213) (f_Mdl_arithmetic T 213) := o_D5 h
  rw [cT_0  o.1, show mT T 213 = mA T 213 from rfl, mA_0  o.2.1]
  exact R_12 o.2.2 rfl (Or.inl rfl)
theorem dd_214 {S T : Sc} (h : RR S T) : RR (cT S 214) (mT T 214) := by
  rw [cT_none rfl rfl rfl rfl rfl rfl rfl rfl rfl rfl rfl rfl, show mT T 214 = mC T 214 from rfl, mC_none rfl rfl rfl rfl rfl rfl]
  exact R_12 h rfl (Or.inr rfl)
theorem dd_215 {S T : Sc} (h : RR S T) : RR (cT S 215) (mT T 215) := by
  have o : KO (f_Prc_useAccumulator S 215) (f_Mdl_arithmetic T 215) := o_D7 h
  rw [cT_0  o.1, show mT T 215 = mA T 215 from rfl, mA_0  o.2.1]
  exact R_12 o.2.2 rfl (Or.inl rfl)
theorem dd_216 {S T : Sc} (h : RR S T) : RR (cT S 216) (mT T 216) := by
  have o : KO (f_Prc_changeFlags S 216) (f_Mdl_other T 216) := o_D8 h
  rw [cT_10 rfl rfl rfl rfl rfl rfl rfl rfl rfl rfl o.1, show mT T 216 = mC T 216 from rfl, mC_5 rfl rfl rfl rfl rfl o.2.1]
  exact R_12 o.2.2 rfl (Or.inl rfl)
theorem dd_217 {S T : Sc} (h : RR S T) : RR (cT S 217) (mT T 217) := by
  have o : KO (f_Prc_useAccumulator S 217) (f_Mdl_arithmetic T 217) := o_D9 h
  rw [cT_0  o.1, show mT T 217 = mA T 217 from rfl, mA_0  o.2.1]
  exact R_12 o.2.2 rfl (Or.inl rfl)
theorem dd_218 {S T : Sc} (h : RR S T) : RR (cT S 218) (mT T 218) := by
  have o : KO (f_Prc_push S 218) (f_Mdl_stack T 218) := o_DA h
  rw [cT_6 rfl rfl rfl rfl rfl rfl o.1, show mT T 218 = mC T 218 from rfl, mC_3 rfl rfl rfl o.2.1]
  exact R_12 o.2.2 rfl (Or.inl rfl)
theorem dd_219 {S T : Sc} (h : RR S T) : RR (cT S 219) (mT T 219) := by
  rw [cT_none rfl rfl rfl rfl rfl rfl rfl rfl rfl rfl rfl rfl, show mT T 219 = mC T 219 from rfl, mC_none rfl rfl rfl rfl rfl rfl]
  exact R_12 h rfl (Or.inr rfl)
theorem dd_220 {S T : Sc} (h : RR S T) : RR (cT S 220) (mT T 220) := by
  rw [cT_none rfl rfl rfl rfl rfl rfl rfl rfl rfl rfl rfl rfl, show mT T 220 = mC T 220 from rfl, mC_none rfl rfl rfl rfl rfl rfl]
  exact R_12 h rfl (Or.inr rfl)
theorem dd_221 {S T : Sc} (h : RR S T) : RR (cT S 221) (mT T 221) := by
  have o : KO (f_Prc_useAccumulator S 221) (f_Mdl_arithmetic T 221) := o_DD h
  rw [cT_0  o.1, show mT T 221 = mA T 221 from rfl, mA_0  o.2.1]
  exact R_12 o.2.2 rfl (Or.inl rfl)
theorem dd_222 {S T : Sc} (h : RR S T) : RR (cT S 222) (mT T 222) := by
  rw [cT_none rfl rfl rfl rfl rfl rfl rfl rfl rfl rfl rfl rfl, show mT T 222 = mC T 222 from rfl, mC_none rfl rfl rfl rfl rfl rfl]
  exact R_12 h rfl (Or.inr rfl)
theorem dd_223 {S T : Sc} (h : RR S T) : RR (cT S 223) (mT T 223) := by
  have o : KO (f_Prc_useAccumulator S 223) (f_Mdl_arithmetic T 223) := o_DF h
  rw [cT_0  o.1, show mT T 223 = mA T 223 from rfl, mA_0  o.2.1]
  exact R_12 o.2.2 rfl (Or.inl rfl)
theorem dd_224 {S T : Sc} (h : RR S T) : RR (cT S 224) (mT T 224) := by
  have o : KO (f_Prc_useIndex S 224) (f_Mdl_index T 224) := o_E0 h
  rw [cT_1 rfl o.1, show mT T 224 = mC T 224 from rfl, mC_1 rfl o.2.1]
  exact R_12 o.2.2 rfl (Or.inl rfl)
theorem dd_225 {S T : Sc} (h : RR S T) : RR (cT S 225) (mT T 225) := by
  have o : KO (f_Prc_useAccumulator S 225) (f_Mdl_arithmetic T 225) := o_E1 h
  rw [cT_0  o.1, show mT T 225 = mA T 225 from rfl, mA_0  o.2.1]
  exact R_12 o.2.2 rfl (Or.inl rfl)
theorem dd_226 {S T : Sc} (h : RR S T) : RR (cT S 226) (mT T 226) := by
  have o : KO (f_Prc_changeFlags S 226) (f_Mdl_other T 226) := o_E2 h
  rw [cT_10 rfl rfl rfl rfl rfl rfl rfl rfl rfl rfl o.1, show mT T 226 = mC T 226 from rfl, mC_5 rfl rfl rfl rfl rfl o.2.1]
  exact R_12 o.2.2 rfl (Or.inl rfl)
theorem dd_227 {S T : Sc} (h : RR S T) : RR (cT S 227) (mT T 227) := by
  have o : KO (f_Prc_useAccumulator S 227) (f_Mdl_arithmetic T 227) := o_E3 h
  rw [cT_0  o.1, show mT T 227 = mA T 227 from rfl, mA_0  o.2.1]
  exact R_12 o.2.2 rfl (Or.inl rfl)
theorem dd_228 {S T : Sc} (h : RR S T) : RR (cT S 228) (mT T 228) := by
  rw [cT_none rfl rfl rfl rfl rfl rfl rfl rfl rfl rfl rfl rfl, show mT T 228 = mC T 228 from rfl, mC_none rfl rfl rfl rfl rfl rfl]
  exact R_12 h rfl (Or.inr rfl)
theorem dd_229 {S T : Sc} (h : RR S T) : RR (cT S 229) (mT T 229) := by
  have o : KO (f_Prc_useAccumulator S 229) (f_Mdl_arithmetic T 229) := o_E5 h
  rw [cT_0  o.1, show mT T 229 = mA T 229 from rfl, mA_0  o.2.1]
  exact R_12 o.2.2 rfl (Or.inl rfl)
theorem dd_230 {S T : Sc} (h : RR S T) : RR (cT S 230) (mT T 230) := by
  have o : KO (f_Prc_changeMemory S 230) (f_Mdl_change T 230) := o_E6 h
  rw [cT_3 rfl rfl rfl o.1, show mT T 230 = mC T 230 from rfl, mC_0  o.2.1]
  exact R_12 o.2.2 rfl (Or.inl rfl)
theorem dd_231 {S T : Sc} (h : RR S T) : RR (cT S 231) (mT T 231) := by
  have o : KO (f_Prc_useAccumulator S 231) (f_Mdl_arithmetic T 231) := o_E7 h
  rw [cT_0  o.1, show mT T 231 = mA T 231 from rfl, mA_0  o.2.1]
  exact R_12 o.2.2 rfl (Or.inl rfl)
theorem dd_232 {S T : Sc} (h : RR S T) : RR (cT S 232) (mT T 232) := by
  have o : KO (f_Prc_changeRegister S 232) (f_Mdl_index T 232) := o_E8 h
  rw [cT_4 rfl rfl rfl rfl o.1, show mT T 232 = mC T 232 from rfl, mC_1 rfl o.2.1]
  exact R_12 o.2.2 rfl (Or.inl rfl)
theorem dd_233 {S T : Sc} (h : RR S T) : RR (cT S 233) (mT T 233) := by
  have o : KO (f_Prc_useAccumulator S 233) (f_Mdl_arithmetic T 233) := o_E9 h
  rw [cT_0  o.1, show mT T 233 = mA T 233 from rfl, mA_0  o.2.1]
  exact R_12 o.2.2 rfl (Or.inl rfl)
theorem dd_234 {S T : Sc} (h : RR S T) : RR (cT S 234) (mT T 234) := by
  have o : KO (f_Prc_changeFlags S 234) (f_Mdl_other T 234) := o_EA h
  rw [cT_10 rfl rfl rfl rfl rfl rfl rfl rfl rfl rfl o.1, show mT T 234 = mC T 234 from rfl, mC_5 rfl rfl rfl rfl rfl o.2.1]
  exact R_12 o.2.2 rfl (Or.inl rfl)
theorem dd_235 {S T : Sc} (h : RR S T) : RR (cT S 235) (mT T 235) := by
  have o : KO (f_Prc_transfer S 235) (f_Mdl_transfer T 235) := o_EB h
  rw [cT_5 rfl rfl rfl rfl rfl o.1, show mT T 235 = mC T 235 from rfl, mC_2 rfl rfl o.2.1]
  exact R_12 o.2.2 rfl (Or.inl rfl)
theorem dd_236 {S T : Sc} (h : RR S T) : RR (cT S 236) (mT T 236) := by
  rw [cT_none rfl rfl rfl rfl rfl rfl rfl rfl rfl rfl rfl rfl, show mT T 236 = mC T 236 from rfl, mC_none rfl rfl rfl rfl rfl rfl]
  exact R_12 h rfl (Or.inr rfl)
theorem dd_237 {S T : Sc} (h : RR S T) : RR (cT S 237) (mT T 237) := by
  have o : KO (f_Prc_useAccumulator S 237) (f_Mdl_arithmetic T 237) := o_ED h
  rw [cT_0  o.1, show mT T 237 = mA T 237 from rfl, mA_0  o.2.1]
  exact R_12 o.2.2 rfl (Or.inl rfl)
theorem dd_238 {S T : Sc} (h : RR S T) : RR (cT S 238) (mT T 238) := by
  have o : KO (f_Prc_changeMemory S 238) (f_Mdl_change T 238) := o_EE h
  rw [cT_3 rfl rfl rfl o.1, show mT T 238 = mC T 238 from rfl, mC_0  o.2.1]
  exact R_12 o.2.2 rfl (Or.inl rfl)
theorem dd_239 {S T : Sc} (h : RR S T) : RR (cT S 239) (mT T 239) := by
  have o : KO (f_Prc_useAccumulator S 239) (f_Mdl_arithmetic T 239) := o_EF h
  rw [cT_0  o.1, show mT T 239 = mA T 239 from rfl, mA_0  o.2.1]
  exact R_12 o.2.2 rfl (Or.inl rfl)
theorem dd_240 {S T : Sc} (h : RR S T) : RR (cT S 240) (mT T 240) := by
  have o : KO (f_Prc_branch S 240) (f_Mdl_jump T 240) := o_F0 h
  rw [cT_8 rfl rfl rfl rfl rfl rfl rfl rfl o.1, show mT T 240 = mC T 240 from rfl, mC_4 rfl rfl rfl rfl o.2.1]
  exact R_12 o.2.2 rfl (Or.inl rfl)
theorem dd_241 {S T : Sc} (h : RR S T) : RR (cT S 241) (mT T 241) := by
  have o : KO (f_Prc_useAccumulator S 241) (f_Mdl_arithmetic T 241) := o_F1 h
  rw [cT_0  o.1, show mT T 241 = mA T 241 from rfl, mA_0  o.2.1]
  exact R_12 o.2.2 rfl (Or.inl rfl)
theorem dd_242 {S T : Sc} (h : RR S T) : RR (cT S 242) (mT T 242) := by
  have o : KO (f_Prc_useAccumulator S 242) (f_Mdl_arithmetic T 242) := o_F2 h
  rw [cT_0  o.1, show mT T 242 = mA T 242 from rfl, mA_0  o.2.1]
  exact R_12 o.2.2 rfl (Or.inl rfl)
theorem dd_243 {S T : Sc} (h : RR S T) : RR (cT S 243) (mT T 243) := by
  have o : KO (f_Prc_useAccumulator S 243) (f_Mdl_arithmetic T 243) := o_F3 h
  rw [cT_0  o.1, show mT T 243 = mA T 243 from rfl, mA_0  o.2.1]
  exact R_12 o.2.2 rfl (Or.inl rfl)
theorem dd_244 {S T : Sc} (h : RR S T) : RR (cT S 244) (mT T 244) := by
  have o : KO (f_Prc_push S 244) (f_Mdl_stack T 244) := o_F4 h
  rw [cT_6 rfl rfl rfl rfl rfl rfl o.1, show mT T 244 = mC T 244 from rfl, mC_3 rfl rfl rfl o.2.1]
  exact R_12 o.2.2 rfl (Or.inl rfl)
theorem dd_245 {S T : Sc} (h : RR S T) : RR (cT S 245) (mT T 245) := by
  have o : KO (f_Prc_useAccumulator S 245) (f_Mdl_arithmetic T 245) := o_F5 h
  rw [cT_0  o.1, show mT T 245 = mA T 245 from rfl, mA_0  o.2.1]
  exact R_12 o.2.2 rfl (Or.inl rfl)
theorem dd_246 {S T : Sc} (h : RR S T) : RR (cT S 246) (mT T 246) := by
  rw [cT_none rfl rfl rfl rfl rfl rfl rfl rfl rfl rfl rfl rfl, show mT T 246 = mC T 246 from rfl, mC_none rfl rfl rfl rfl rfl rfl]
  exact R_12 h rfl (Or.inr rfl)
theorem dd_247 {S T : Sc} (h : RR S T) : RR (cT S 247) (mT T 247) := by
  have o : KO (f_Prc_useAccumulator S 247) (f_Mdl_arithmetic T 247) := o_F7 h
  rw [cT_0  o.1, show mT T 247 = mA T 247 from rfl, mA_0  o.2.1]
  exact R_12 o.2.2 rfl (Or.inl rfl)
theorem dd_248 {S T : Sc} (h : RR S T) : RR (cT S 248) (mT T 248) := by
  have o : KO (f_Prc_changeFlags S 248) (f_Mdl_other T 248) := o_F8 h
  rw [cT_10 rfl rfl rfl rfl rfl rfl rfl rfl rfl rfl o.1, show mT T 248 = mC T 248 from rfl, mC_5 rfl rfl rfl rfl rfl o.2.1]
  exact R_12 o.2.2 rfl (Or.inl rfl)
theorem dd_249 {S T : Sc} (h : RR S T) : RR (cT S 249) (mT T 249) := by
  have o : KO (f_Prc_useAccumulator S 249) (f_Mdl_arithmetic T 249) := o_F9 h
  rw [cT_0  o.1, show mT T 249 = mA T 249 from rfl, mA_0  o.2.1]
  exact R_12 o.2.2 rfl (Or.inl rfl)
theorem dd_250 {S T : Sc} (h : RR S T) : RR (cT S 250) (mT T 250) := by
  have o : KO (f_Prc_pull S 250) (f_Mdl_stack T 250) := o_FA h
  rw [cT_7 rfl rfl rfl rfl rfl rfl rfl o.1, show mT T 250 = mC T 250 from rfl, mC_3 rfl rfl rfl o.2.1]
  exact R_12 o.2.2 rfl (Or.inl rfl)
theorem dd_251 {S T : Sc} (h : RR S T) : RR (cT S 251) (mT T 251) := by
  rw [cT_none rfl rfl rfl rfl rfl rfl rfl rfl rfl rfl rfl rfl, show mT T 251 = mC T 251 from rfl, mC_none rfl rfl rfl rfl rfl rfl]
  exact R_12 h rfl (Or.inr rfl)
theorem dd_252 {S T : Sc} (h : RR S T) : RR (cT S 252) (mT T 252) := by
  rw [cT_none rfl rfl rfl rfl rfl rfl rfl rfl rfl rfl rfl rfl, show mT T 252 = mC T 252 from rfl, mC_none rfl rfl rfl rfl rfl rfl]
  exact R_12 h rfl (Or.inr rfl)
theorem dd_253 {S T : Sc} (h : RR S T) : RR (cT S 253) (mT T 253) := by
  have o : KO (f_Prc_useAccumulator S 253) (f_Mdl_arithmetic T 253) := o_FD h
  rw [cT_0  o.1, show mT T 253 = mA T 253 from rfl, mA_0  o.2.1]
  exact R_12 o.2.2 rfl (Or.inl rfl)
theorem dd_254 {S T : Sc} (h : RR S T) : RR (cT S 254) (mT T 254) := by
  rw [cT_none rfl rfl rfl rfl rfl rfl rfl rfl rfl rfl rfl rfl, show mT T 254 = mC T 254 from rfl, mC_none rfl rfl rfl rfl rfl rfl]
  exact R_12 h rfl (Or.inr rfl)
theorem dd_255 {S T : Sc} (h : RR S T) : RR (cT S 255) (mT T 255) := by
  have o : KO (f_Prc_useAccumulator S 255) (f_Mdl_arithmetic T 255) := o_FF h
  rw [cT_0  o.1, show mT T 255 = mA T 255 from rfl, mA_0  o.2.1]
  exact R_12 o.2.2 rfl (Or.inl rfl)
