/-! THE CLASS: out of the rows of whole -/
set_option maxRecDepth 20000 in
set_option maxHeartbeats 2000000 in
theorem co_c0 {v : Int32} {σ : Sg} (h : σ 1 2 = v) : CM mX9_count [ar 0, ai (nI 0)] σ (Ret v σ) := by
  refine CM_in (ls := [some (ar 0), some (ai (nI 0))]) rfl ?_
  refine g_iload_n (p0 := 1) (i := 1) dX9_count_0 rfl rfl rfl ?_
  refine g_tabIn (tgt := 48) (off := 47) dX9_count_1 (by decide) (by decide) (by decide +kernel) rfl ?_
  refine g_aload_n (p0 := 49) (i := 0) dX9_count_48 rfl rfl rfl ?_
  refine g_getR (p0 := 52) dX9_count_49 fX9_10 (by first | rfl | assumption | exact RW.s (by assumption) | exact TW.s (by assumption)) rfl rfl ?_
  refine g_getI (p0 := 55) dX9_count_52 fX9_85 (by first | rfl | assumption | exact RW.s (by assumption) | exact TW.s (by assumption)) rfl (by first | assumption | ((repeat (first | exact up_hit | refine up_nv (by decide) ?_ | refine up_mv (by first | decide | omega) ?_)) <;> first | assumption | rfl)) rfl ?_
  refine g_ireturn dX9_count_55 rfl rfl (?_)
  exact ⟨rfl, rfl⟩
set_option maxRecDepth 20000 in
set_option maxHeartbeats 2000000 in
theorem co_c1 {v : Int32} {σ : Sg} (h : σ 45 7 = v) : CM mX9_count [ar 0, ai (nI 1)] σ (Ret v σ) := by
  refine CM_in (ls := [some (ar 0), some (ai (nI 1))]) rfl ?_
  refine g_iload_n (p0 := 1) (i := 1) dX9_count_0 rfl rfl rfl ?_
  refine g_tabIn (tgt := 56) (off := 55) dX9_count_1 (by decide) (by decide) (by decide +kernel) rfl ?_
  refine g_aload_n (p0 := 57) (i := 0) dX9_count_56 rfl rfl rfl ?_
  refine g_getR (p0 := 60) dX9_count_57 fX9_29 (by first | rfl | assumption | exact RW.s (by assumption) | exact TW.s (by assumption)) rfl rfl ?_
  refine g_getR (p0 := 63) dX9_count_60 fX9_139 (by first | rfl | assumption | exact RW.s (by assumption) | exact TW.s (by assumption)) rfl rfl ?_
  refine g_getI (p0 := 66) dX9_count_63 fX9_236 (by first | rfl | assumption | exact RW.s (by assumption) | exact TW.s (by assumption)) rfl (by first | assumption | ((repeat (first | exact up_hit | refine up_nv (by decide) ?_ | refine up_mv (by first | decide | omega) ?_)) <;> first | assumption | rfl)) rfl ?_
  refine g_ireturn dX9_count_66 rfl rfl (?_)
  exact ⟨rfl, rfl⟩
set_option maxRecDepth 20000 in
set_option maxHeartbeats 2000000 in
theorem co_c2 {v : Int32} {σ : Sg} (h : σ 34 5 = v) : CM mX9_count [ar 0, ai (nI 2)] σ (Ret v σ) := by
  refine CM_in (ls := [some (ar 0), some (ai (nI 2))]) rfl ?_
  refine g_iload_n (p0 := 1) (i := 1) dX9_count_0 rfl rfl rfl ?_
  refine g_tabIn (tgt := 67) (off := 66) dX9_count_1 (by decide) (by decide) (by decide +kernel) rfl ?_
  refine g_aload_n (p0 := 68) (i := 0) dX9_count_67 rfl rfl rfl ?_
  refine g_getR (p0 := 71) dX9_count_68 fX9_29 (by first | rfl | assumption | exact RW.s (by assumption) | exact TW.s (by assumption)) rfl rfl ?_
  refine g_getR (p0 := 74) dX9_count_71 fX9_164 (by first | rfl | assumption | exact RW.s (by assumption) | exact TW.s (by assumption)) rfl rfl ?_
  refine g_getI (p0 := 77) dX9_count_74 fX9_239 (by first | rfl | assumption | exact RW.s (by assumption) | exact TW.s (by assumption)) rfl (by first | assumption | ((repeat (first | exact up_hit | refine up_nv (by decide) ?_ | refine up_mv (by first | decide | omega) ?_)) <;> first | assumption | rfl)) rfl ?_
  refine g_ireturn dX9_count_77 rfl rfl (?_)
  exact ⟨rfl, rfl⟩
set_option maxRecDepth 20000 in
set_option maxHeartbeats 2000000 in
theorem co_c4 {v : Int32} {σ : Sg} (h : σ 33 8 = v) : CM mX9_count [ar 0, ai (nI 4)] σ (Ret v σ) := by
  refine CM_in (ls := [some (ar 0), some (ai (nI 4))]) rfl ?_
  refine g_iload_n (p0 := 1) (i := 1) dX9_count_0 rfl rfl rfl ?_
  refine g_tabIn (tgt := 99) (off := 98) dX9_count_1 (by decide) (by decide) (by decide +kernel) rfl ?_
  refine g_aload_n (p0 := 100) (i := 0) dX9_count_99 rfl rfl rfl ?_
  refine g_getR (p0 := 103) dX9_count_100 fX9_29 (by first | rfl | assumption | exact RW.s (by assumption) | exact TW.s (by assumption)) rfl rfl ?_
  refine g_getI (p0 := 106) dX9_count_103 fX9_244 (by first | rfl | assumption | exact RW.s (by assumption) | exact TW.s (by assumption)) rfl (by first | assumption | ((repeat (first | exact up_hit | refine up_nv (by decide) ?_ | refine up_mv (by first | decide | omega) ?_)) <;> first | assumption | rfl)) rfl ?_
  refine g_ireturn dX9_count_106 rfl rfl (?_)
  exact ⟨rfl, rfl⟩
set_option maxRecDepth 20000 in
set_option maxHeartbeats 2000000 in
theorem co_c3 {v : Int32} {σ : Sg} (h : CM mX4_totalOf [ar 45, ar 56] σ (Ret v σ)) : CM mX9_count [ar 0, ai (nI 3)] σ (Ret v σ) := by
  refine CM_in (ls := [some (ar 0), some (ai (nI 3))]) rfl ?_
  refine g_iload_n (p0 := 1) (i := 1) dX9_count_0 rfl rfl rfl ?_
  refine g_tabIn (tgt := 78) (off := 77) dX9_count_1 (by decide) (by decide) (by decide +kernel) rfl ?_
  refine g_aload_n (p0 := 79) (i := 0) dX9_count_78 rfl rfl rfl ?_
  refine g_getR (p0 := 82) dX9_count_79 fX9_29 (by first | rfl | assumption | exact RW.s (by assumption) | exact TW.s (by assumption)) rfl rfl ?_
  refine g_getR (p0 := 85) dX9_count_82 fX9_139 (by first | rfl | assumption | exact RW.s (by assumption) | exact TW.s (by assumption)) rfl rfl ?_
  refine g_aload_n (p0 := 86) (i := 0) dX9_count_85 rfl rfl rfl ?_
  refine g_getR (p0 := 89) dX9_count_86 fX9_29 (by first | rfl | assumption | exact RW.s (by assumption) | exact TW.s (by assumption)) rfl rfl ?_
  refine g_getR (p0 := 92) dX9_count_89 fX9_139 (by first | rfl | assumption | exact RW.s (by assumption) | exact TW.s (by assumption)) rfl rfl ?_
  refine g_getR (p0 := 95) dX9_count_92 fX9_143 (by first | rfl | assumption | exact RW.s (by assumption) | exact TW.s (by assumption)) rfl rfl ?_
  refine g_cV1R (p0 := 98) (r1 := mX4_totalOf) dX9_count_95 lX9_240 vX4_totalOf (by first | rfl | assumption | exact RW.s (by assumption) | exact TW.s (by assumption)) ⟨_, _, rfl⟩ (FITi rfl rfl) (Nat.le_of_ble_eq_true rfl) (h) rfl ?_
  refine g_ireturn dX9_count_98 rfl rfl (?_)
  exact ⟨rfl, rfl⟩
set_option maxRecDepth 20000 in
set_option maxHeartbeats 2000000 in
theorem co_c5 {v : Int32} {σ : Sg} (h : CM mX4_totalOf [ar 45, ar 52] σ (Ret v σ)) : CM mX9_count [ar 0, ai (nI 5)] σ (Ret v σ) := by
  refine CM_in (ls := [some (ar 0), some (ai (nI 5))]) rfl ?_
  refine g_iload_n (p0 := 1) (i := 1) dX9_count_0 rfl rfl rfl ?_
  refine g_tabIn (tgt := 107) (off := 106) dX9_count_1 (by decide) (by decide) (by decide +kernel) rfl ?_
  refine g_aload_n (p0 := 108) (i := 0) dX9_count_107 rfl rfl rfl ?_
  refine g_getR (p0 := 111) dX9_count_108 fX9_29 (by first | rfl | assumption | exact RW.s (by assumption) | exact TW.s (by assumption)) rfl rfl ?_
  refine g_getR (p0 := 114) dX9_count_111 fX9_139 (by first | rfl | assumption | exact RW.s (by assumption) | exact TW.s (by assumption)) rfl rfl ?_
  refine g_aload_n (p0 := 115) (i := 0) dX9_count_114 rfl rfl rfl ?_
  refine g_getR (p0 := 118) dX9_count_115 fX9_29 (by first | rfl | assumption | exact RW.s (by assumption) | exact TW.s (by assumption)) rfl rfl ?_
  refine g_getR (p0 := 121) dX9_count_118 fX9_139 (by first | rfl | assumption | exact RW.s (by assumption) | exact TW.s (by assumption)) rfl rfl ?_
  refine g_getR (p0 := 124) dX9_count_121 fX9_151 (by first | rfl | assumption | exact RW.s (by assumption) | exact TW.s (by assumption)) rfl rfl ?_
  refine g_cV1R (p0 := 127) (r1 := mX4_totalOf) dX9_count_124 lX9_240 vX4_totalOf (by first | rfl | assumption | exact RW.s (by assumption) | exact TW.s (by assumption)) ⟨_, _, rfl⟩ (FITi rfl rfl) (Nat.le_of_ble_eq_true rfl) (h) rfl ?_
  refine g_ireturn dX9_count_127 rfl rfl (?_)
  exact ⟨rfl, rfl⟩
set_option maxRecDepth 20000 in
set_option maxHeartbeats 2000000 in
theorem co_c6 {v : Int32} {σ : Sg} (h : CM mX4_totalOf [ar 45, ar 54] σ (Ret v σ)) : CM mX9_count [ar 0, ai (nI 6)] σ (Ret v σ) := by
  refine CM_in (ls := [some (ar 0), some (ai (nI 6))]) rfl ?_
  refine g_iload_n (p0 := 1) (i := 1) dX9_count_0 rfl rfl rfl ?_
  refine g_tabIn (tgt := 128) (off := 127) dX9_count_1 (by decide) (by decide) (by decide +kernel) rfl ?_
  refine g_aload_n (p0 := 129) (i := 0) dX9_count_128 rfl rfl rfl ?_
  refine g_getR (p0 := 132) dX9_count_129 fX9_29 (by first | rfl | assumption | exact RW.s (by assumption) | exact TW.s (by assumption)) rfl rfl ?_
  refine g_getR (p0 := 135) dX9_count_132 fX9_139 (by first | rfl | assumption | exact RW.s (by assumption) | exact TW.s (by assumption)) rfl rfl ?_
  refine g_aload_n (p0 := 136) (i := 0) dX9_count_135 rfl rfl rfl ?_
  refine g_getR (p0 := 139) dX9_count_136 fX9_29 (by first | rfl | assumption | exact RW.s (by assumption) | exact TW.s (by assumption)) rfl rfl ?_
  refine g_getR (p0 := 142) dX9_count_139 fX9_139 (by first | rfl | assumption | exact RW.s (by assumption) | exact TW.s (by assumption)) rfl rfl ?_
  refine g_getR (p0 := 145) dX9_count_142 fX9_161 (by first | rfl | assumption | exact RW.s (by assumption) | exact TW.s (by assumption)) rfl rfl ?_
  refine g_cV1R (p0 := 148) (r1 := mX4_totalOf) dX9_count_145 lX9_240 vX4_totalOf (by first | rfl | assumption | exact RW.s (by assumption) | exact TW.s (by assumption)) ⟨_, _, rfl⟩ (FITi rfl rfl) (Nat.le_of_ble_eq_true rfl) (h) rfl ?_
  refine g_ireturn dX9_count_148 rfl rfl (?_)
  exact ⟨rfl, rfl⟩
set_option maxRecDepth 20000 in
set_option maxHeartbeats 2000000 in
theorem co_c7 {v : Int32} {σ : Sg} (h : CM mX6_rightOnes [ar 33] σ (Ret v σ)) : CM mX9_count [ar 0, ai (nI 7)] σ (Ret v σ) := by
  refine CM_in (ls := [some (ar 0), some (ai (nI 7))]) rfl ?_
  refine g_iload_n (p0 := 1) (i := 1) dX9_count_0 rfl rfl rfl ?_
  refine g_tabIn (tgt := 149) (off := 148) dX9_count_1 (by decide) (by decide) (by decide +kernel) rfl ?_
  refine g_aload_n (p0 := 150) (i := 0) dX9_count_149 rfl rfl rfl ?_
  refine g_getR (p0 := 153) dX9_count_150 fX9_29 (by first | rfl | assumption | exact RW.s (by assumption) | exact TW.s (by assumption)) rfl rfl ?_
  refine g_cV0R (p0 := 156) (r1 := mX6_rightOnes) dX9_count_153 lX9_247 vX6_rightOnes (by first | rfl | assumption | exact RW.s (by assumption) | exact TW.s (by assumption)) ⟨_, _, rfl⟩ (FITi rfl rfl) (Nat.le_of_ble_eq_true rfl) (h) rfl ?_
  refine g_ireturn dX9_count_156 rfl rfl (?_)
  exact ⟨rfl, rfl⟩
set_option maxRecDepth 20000 in
set_option maxHeartbeats 2000000 in
theorem cs_8z {σ : Sg} (h : σ 1 5 = nI 0) : CM mX9_countOfState [ar 0, ai (nI 8)] σ (Ret (nI 0) σ) := by
  refine CM_in (ls := [some (ar 0), some (ai (nI 8))]) rfl ?_
  refine g_iload_n (p0 := 1) (i := 1) dX9_countOfState_0 rfl rfl rfl ?_
  refine g_tabIn (tgt := 72) (off := 71) dX9_countOfState_1 (by decide) (by decide) (by decide +kernel) rfl ?_
  refine g_aload_n (p0 := 73) (i := 0) dX9_countOfState_72 rfl rfl rfl ?_
  refine g_getR (p0 := 76) dX9_countOfState_73 fX9_10 (by first | rfl | assumption | exact RW.s (by assumption) | exact TW.s (by assumption)) rfl rfl ?_
  refine g_getI (p0 := 79) dX9_countOfState_76 fX9_92 (by first | rfl | assumption | exact RW.s (by assumption) | exact TW.s (by assumption)) rfl (by first | assumption | ((repeat (first | exact up_hit | refine up_nv (by decide) ?_ | refine up_mv (by first | decide | omega) ?_)) <;> first | assumption | rfl)) rfl ?_
  first | ((with_reducible refine isN1 ?_); refine g_ifN_eq (tgt := 86) (p1 := 82) dX9_countOfState_79 rfl (by omega) rfl (fun c_79 => ?_) (fun c_79 => by exfalso; first | omega | contradiction | exact absurd (by assumption) c_79 | (simp_all; done))) | refine g_if_eq (tgt := 86) (p1 := 82) dX9_countOfState_79 rfl rfl (fun c_79 => ?_) (fun c_79 => by exfalso; first | omega | contradiction | exact absurd (by assumption) c_79 | (simp_all; done))
  refine g_iconst (p0 := 87) (v := nI 0) dX9_countOfState_86 rfl rfl ?_
  refine g_ireturn dX9_countOfState_87 rfl rfl (?_)
  exact ⟨rfl, rfl⟩
set_option maxRecDepth 20000 in
set_option maxHeartbeats 2000000 in
theorem cs_8o {σ : Sg} (h : σ 1 5 = nI 1) : CM mX9_countOfState [ar 0, ai (nI 8)] σ (Ret (nI 1) σ) := by
  refine CM_in (ls := [some (ar 0), some (ai (nI 8))]) rfl ?_
  refine g_iload_n (p0 := 1) (i := 1) dX9_countOfState_0 rfl rfl rfl ?_
  refine g_tabIn (tgt := 72) (off := 71) dX9_countOfState_1 (by decide) (by decide) (by decide +kernel) rfl ?_
  refine g_aload_n (p0 := 73) (i := 0) dX9_countOfState_72 rfl rfl rfl ?_
  refine g_getR (p0 := 76) dX9_countOfState_73 fX9_10 (by first | rfl | assumption | exact RW.s (by assumption) | exact TW.s (by assumption)) rfl rfl ?_
  refine g_getI (p0 := 79) dX9_countOfState_76 fX9_92 (by first | rfl | assumption | exact RW.s (by assumption) | exact TW.s (by assumption)) rfl (by first | assumption | ((repeat (first | exact up_hit | refine up_nv (by decide) ?_ | refine up_mv (by first | decide | omega) ?_)) <;> first | assumption | rfl)) rfl ?_
  first | ((with_reducible refine isN1 ?_); refine g_ifN_eq (tgt := 86) (p1 := 82) dX9_countOfState_79 rfl (by omega) rfl (fun c_79 => by exfalso; first | omega | contradiction | exact absurd (by assumption) c_79 | (simp_all; done)) (fun c_79 => ?_)) | refine g_if_eq (tgt := 86) (p1 := 82) dX9_countOfState_79 rfl rfl (fun c_79 => by exfalso; first | omega | contradiction | exact absurd (by assumption) c_79 | (simp_all; done)) (fun c_79 => ?_)
  refine g_iconst (p0 := 83) (v := nI 1) dX9_countOfState_82 rfl rfl ?_
  refine g_goto (tgt := 87) dX9_countOfState_83 rfl ?_
  refine g_ireturn dX9_countOfState_87 rfl rfl (?_)
  exact ⟨rfl, rfl⟩
set_option maxRecDepth 20000 in
set_option maxHeartbeats 2000000 in
theorem cs_9z {σ : Sg} (h : σ 1 2 = nI 0) : CM mX9_countOfState [ar 0, ai (nI 9)] σ (Ret (-1000004) σ) := by
  refine CM_in (ls := [some (ar 0), some (ai (nI 9))]) rfl ?_
  refine g_iload_n (p0 := 1) (i := 1) dX9_countOfState_0 rfl rfl rfl ?_
  refine g_tabIn (tgt := 88) (off := 87) dX9_countOfState_1 (by decide) (by decide) (by decide +kernel) rfl ?_
  refine g_aload_n (p0 := 89) (i := 0) dX9_countOfState_88 rfl rfl rfl ?_
  refine g_getR (p0 := 92) dX9_countOfState_89 fX9_10 (by first | rfl | assumption | exact RW.s (by assumption) | exact TW.s (by assumption)) rfl rfl ?_
  refine g_getI (p0 := 95) dX9_countOfState_92 fX9_85 (by first | rfl | assumption | exact RW.s (by assumption) | exact TW.s (by assumption)) rfl (by first | assumption | ((repeat (first | exact up_hit | refine up_nv (by decide) ?_ | refine up_mv (by first | decide | omega) ?_)) <;> first | assumption | rfl)) rfl ?_
  first | ((with_reducible refine isN1 ?_); refine g_ifN_ne (tgt := 103) (p1 := 98) dX9_countOfState_95 rfl (by omega) rfl (fun c_95 => by exfalso; first | omega | contradiction | exact absurd (by assumption) c_95 | (simp_all; done)) (fun c_95 => ?_)) | refine g_if_ne (tgt := 103) (p1 := 98) dX9_countOfState_95 rfl rfl (fun c_95 => by exfalso; first | omega | contradiction | exact absurd (by assumption) c_95 | (simp_all; done)) (fun c_95 => ?_)
  refine g_ldc (p0 := 100) dX9_countOfState_98 qX9_122 rfl ?_
  refine g_goto (tgt := 110) dX9_countOfState_100 rfl ?_
  refine g_ireturn dX9_countOfState_110 rfl rfl (?_)
  exact ⟨rfl, rfl⟩
set_option maxRecDepth 20000 in
set_option maxHeartbeats 2000000 in
theorem cs_9 {s : Nat} {v : Int32} {σ : Sg} (h : σ 1 2 = nI s) (h0 : 0 < s) (h1 : s ≤ 160) (hv : σ 3 (s - 1) = v) : CM mX9_countOfState [ar 0, ai (nI 9)] σ (Ret v σ) := by
  refine CM_in (ls := [some (ar 0), some (ai (nI 9))]) rfl ?_
  refine g_iload_n (p0 := 1) (i := 1) dX9_countOfState_0 rfl rfl rfl ?_
  refine g_tabIn (tgt := 88) (off := 87) dX9_countOfState_1 (by decide) (by decide) (by decide +kernel) rfl ?_
  refine g_aload_n (p0 := 89) (i := 0) dX9_countOfState_88 rfl rfl rfl ?_
  refine g_getR (p0 := 92) dX9_countOfState_89 fX9_10 (by first | rfl | assumption | exact RW.s (by assumption) | exact TW.s (by assumption)) rfl rfl ?_
  refine g_getI (p0 := 95) dX9_countOfState_92 fX9_85 (by first | rfl | assumption | exact RW.s (by assumption) | exact TW.s (by assumption)) rfl (by first | assumption | ((repeat (first | exact up_hit | refine up_nv (by decide) ?_ | refine up_mv (by first | decide | omega) ?_)) <;> first | assumption | rfl)) rfl ?_
  first | ((with_reducible refine isN1 ?_); refine g_ifN_ne (tgt := 103) (p1 := 98) dX9_countOfState_95 rfl (by omega) rfl (fun c_95 => ?_) (fun c_95 => by exfalso; first | omega | contradiction | exact absurd (by assumption) c_95 | (simp_all; done))) | refine g_if_ne (tgt := 103) (p1 := 98) dX9_countOfState_95 rfl rfl (fun c_95 => ?_) (fun c_95 => by exfalso; first | omega | contradiction | exact absurd (by assumption) c_95 | (simp_all; done))
  refine g_aload_n (p0 := 104) (i := 0) dX9_countOfState_103 rfl rfl rfl ?_
  refine g_getR (p0 := 107) dX9_countOfState_104 fX9_10 (by first | rfl | assumption | exact RW.s (by assumption) | exact TW.s (by assumption)) rfl rfl ?_
  refine g_cV0R (p0 := 110) (r1 := mX8_lastTime) dX9_countOfState_107 lX9_278 vX8_lastTime (by first | rfl | assumption | exact RW.s (by assumption) | exact TW.s (by assumption)) ⟨_, _, rfl⟩ (FITi rfl rfl) (Nat.le_of_ble_eq_true rfl) (lastTime_sp TW1 h h0 h1 hv) rfl ?_
  refine g_ireturn dX9_countOfState_110 rfl rfl (?_)
  exact ⟨rfl, rfl⟩
set_option maxRecDepth 20000 in
set_option maxHeartbeats 2000000 in
theorem cs_11 {v : Int32} {σ : Sg} (h : σ 76 1 = v) : CM mX9_countOfState [ar 0, ai (nI 11)] σ (Ret v σ) := by
  refine CM_in (ls := [some (ar 0), some (ai (nI 11))]) rfl ?_
  refine g_iload_n (p0 := 1) (i := 1) dX9_countOfState_0 rfl rfl rfl ?_
  refine g_tabIn (tgt := 119) (off := 118) dX9_countOfState_1 (by decide) (by decide) (by decide +kernel) rfl ?_
  refine g_aload_n (p0 := 120) (i := 0) dX9_countOfState_119 rfl rfl rfl ?_
  refine g_getR (p0 := 123) dX9_countOfState_120 fX9_50 (by first | rfl | assumption | exact RW.s (by assumption) | exact TW.s (by assumption)) rfl rfl ?_
  refine g_getI (p0 := 126) dX9_countOfState_123 fX9_259 (by first | rfl | assumption | exact RW.s (by assumption) | exact TW.s (by assumption)) rfl (by first | assumption | ((repeat (first | exact up_hit | refine up_nv (by decide) ?_ | refine up_mv (by first | decide | omega) ?_)) <;> first | assumption | rfl)) rfl ?_
  refine g_ireturn dX9_countOfState_126 rfl rfl (?_)
  exact ⟨rfl, rfl⟩
set_option maxRecDepth 20000 in
set_option maxHeartbeats 2000000 in
theorem cs_20 {v : Int32} {σ : Sg} (h : σ 1 3 = v) : CM mX9_countOfState [ar 0, ai (nI 20)] σ (Ret v σ) := by
  refine CM_in (ls := [some (ar 0), some (ai (nI 20))]) rfl ?_
  refine g_iload_n (p0 := 1) (i := 1) dX9_countOfState_0 rfl rfl rfl ?_
  refine g_tabIn (tgt := 127) (off := 126) dX9_countOfState_1 (by decide) (by decide) (by decide +kernel) rfl ?_
  refine g_aload_n (p0 := 128) (i := 0) dX9_countOfState_127 rfl rfl rfl ?_
  refine g_getR (p0 := 131) dX9_countOfState_128 fX9_10 (by first | rfl | assumption | exact RW.s (by assumption) | exact TW.s (by assumption)) rfl rfl ?_
  refine g_getI (p0 := 134) dX9_countOfState_131 fX9_54 (by first | rfl | assumption | exact RW.s (by assumption) | exact TW.s (by assumption)) rfl (by first | assumption | ((repeat (first | exact up_hit | refine up_nv (by decide) ?_ | refine up_mv (by first | decide | omega) ?_)) <;> first | assumption | rfl)) rfl ?_
  refine g_ireturn dX9_countOfState_134 rfl rfl (?_)
  exact ⟨rfl, rfl⟩
set_option maxRecDepth 20000 in
set_option maxHeartbeats 2000000 in
theorem cs_21 {v : Int32} {σ : Sg} (h : σ 1 4 = v) : CM mX9_countOfState [ar 0, ai (nI 21)] σ (Ret v σ) := by
  refine CM_in (ls := [some (ar 0), some (ai (nI 21))]) rfl ?_
  refine g_iload_n (p0 := 1) (i := 1) dX9_countOfState_0 rfl rfl rfl ?_
  refine g_tabIn (tgt := 135) (off := 134) dX9_countOfState_1 (by decide) (by decide) (by decide +kernel) rfl ?_
  refine g_aload_n (p0 := 136) (i := 0) dX9_countOfState_135 rfl rfl rfl ?_
  refine g_getR (p0 := 139) dX9_countOfState_136 fX9_10 (by first | rfl | assumption | exact RW.s (by assumption) | exact TW.s (by assumption)) rfl rfl ?_
  refine g_getI (p0 := 142) dX9_countOfState_139 fX9_65 (by first | rfl | assumption | exact RW.s (by assumption) | exact TW.s (by assumption)) rfl (by first | assumption | ((repeat (first | exact up_hit | refine up_nv (by decide) ?_ | refine up_mv (by first | decide | omega) ?_)) <;> first | assumption | rfl)) rfl ?_
  refine g_ireturn dX9_countOfState_142 rfl rfl (?_)
  exact ⟨rfl, rfl⟩
set_option maxRecDepth 20000 in
set_option maxHeartbeats 2000000 in
theorem cs_12 {σ : Sg} : CM mX9_countOfState [ar 0, ai (nI 12)] σ (Ret (-1000001) σ) := by
  refine CM_in (ls := [some (ar 0), some (ai (nI 12))]) rfl ?_
  refine g_iload_n (p0 := 1) (i := 1) dX9_countOfState_0 rfl rfl rfl ?_
  refine g_tabIn (tgt := 143) (off := 142) dX9_countOfState_1 (by decide) (by decide) (by decide +kernel) rfl ?_
  refine g_ldc (p0 := 145) dX9_countOfState_143 qX9_68 rfl ?_
  refine g_ireturn dX9_countOfState_145 rfl rfl (?_)
  exact ⟨rfl, rfl⟩
set_option maxRecDepth 20000 in
set_option maxHeartbeats 2000000 in
theorem cs_19 {σ : Sg} : CM mX9_countOfState [ar 0, ai (nI 19)] σ (Ret (-1000001) σ) := by
  refine CM_in (ls := [some (ar 0), some (ai (nI 19))]) rfl ?_
  refine g_iload_n (p0 := 1) (i := 1) dX9_countOfState_0 rfl rfl rfl ?_
  refine g_tabIn (tgt := 143) (off := 142) dX9_countOfState_1 (by decide) (by decide) (by decide +kernel) rfl ?_
  refine g_ldc (p0 := 145) dX9_countOfState_143 qX9_68 rfl ?_
  refine g_ireturn dX9_countOfState_145 rfl rfl (?_)
  exact ⟨rfl, rfl⟩
set_option maxRecDepth 20000 in
set_option maxHeartbeats 2000000 in
theorem cs_x {x : Int32} {σ : Sg} (h : x.toInt < 0 ∨ 21 < x.toInt) : CM mX9_countOfState [ar 0, ai x] σ (Ret (-1000001) σ) := by
  refine CM_in (ls := [some (ar 0), some (ai x)]) rfl ?_
  refine g_iload_n (p0 := 1) (i := 1) dX9_countOfState_0 rfl rfl rfl ?_
  refine g_tabOut (tgt := 143) dX9_countOfState_1 (by omega) rfl ?_
  refine g_ldc (p0 := 145) dX9_countOfState_143 qX9_68 rfl ?_
  refine g_ireturn dX9_countOfState_145 rfl rfl (?_)
  exact ⟨rfl, rfl⟩
set_option maxRecDepth 20000 in
set_option maxHeartbeats 2000000 in
theorem co_cx {x : Int32} {σ : Sg} (h : x.toInt < 0 ∨ 21 < x.toInt) : CM mX9_count [ar 0, ai x] σ (Ret (-1000001) σ) := by
  refine CM_in (ls := [some (ar 0), some (ai x)]) rfl ?_
  refine g_iload_n (p0 := 1) (i := 1) dX9_count_0 rfl rfl rfl ?_
  refine g_tabOut (tgt := 157) dX9_count_1 (by omega) rfl ?_
  refine g_aload_n (p0 := 158) (i := 0) dX9_count_157 rfl rfl rfl ?_
  refine g_iload_n (p0 := 159) (i := 1) dX9_count_158 rfl rfl rfl ?_
  refine g_cV1R (p0 := 162) (r1 := mX9_countOfState) dX9_count_159 lX9_250 vX9_countOfState (by first | rfl | assumption | exact RW.s (by assumption) | exact TW.s (by assumption)) ⟨_, _, rfl⟩ (FITi rfl rfl) (Nat.le_of_ble_eq_true rfl) (cs_x h) rfl ?_
  refine g_ireturn dX9_count_162 rfl rfl (?_)
  exact ⟨rfl, rfl⟩
set_option maxRecDepth 20000 in
set_option maxHeartbeats 2000000 in
theorem co_cs8 {v : Int32} {σ : Sg} (h : CM mX9_countOfState [ar 0, ai (nI 8)] σ (Ret v σ)) : CM mX9_count [ar 0, ai (nI 8)] σ (Ret v σ) := by
  refine CM_in (ls := [some (ar 0), some (ai (nI 8))]) rfl ?_
  refine g_iload_n (p0 := 1) (i := 1) dX9_count_0 rfl rfl rfl ?_
  refine g_tabOut (tgt := 157) dX9_count_1 (by decide) rfl ?_
  refine g_aload_n (p0 := 158) (i := 0) dX9_count_157 rfl rfl rfl ?_
  refine g_iload_n (p0 := 159) (i := 1) dX9_count_158 rfl rfl rfl ?_
  refine g_cV1R (p0 := 162) (r1 := mX9_countOfState) dX9_count_159 lX9_250 vX9_countOfState (by first | rfl | assumption | exact RW.s (by assumption) | exact TW.s (by assumption)) ⟨_, _, rfl⟩ (FITi rfl rfl) (Nat.le_of_ble_eq_true rfl) (h) rfl ?_
  refine g_ireturn dX9_count_162 rfl rfl (?_)
  exact ⟨rfl, rfl⟩
set_option maxRecDepth 20000 in
set_option maxHeartbeats 2000000 in
theorem co_cs9 {v : Int32} {σ : Sg} (h : CM mX9_countOfState [ar 0, ai (nI 9)] σ (Ret v σ)) : CM mX9_count [ar 0, ai (nI 9)] σ (Ret v σ) := by
  refine CM_in (ls := [some (ar 0), some (ai (nI 9))]) rfl ?_
  refine g_iload_n (p0 := 1) (i := 1) dX9_count_0 rfl rfl rfl ?_
  refine g_tabOut (tgt := 157) dX9_count_1 (by decide) rfl ?_
  refine g_aload_n (p0 := 158) (i := 0) dX9_count_157 rfl rfl rfl ?_
  refine g_iload_n (p0 := 159) (i := 1) dX9_count_158 rfl rfl rfl ?_
  refine g_cV1R (p0 := 162) (r1 := mX9_countOfState) dX9_count_159 lX9_250 vX9_countOfState (by first | rfl | assumption | exact RW.s (by assumption) | exact TW.s (by assumption)) ⟨_, _, rfl⟩ (FITi rfl rfl) (Nat.le_of_ble_eq_true rfl) (h) rfl ?_
  refine g_ireturn dX9_count_162 rfl rfl (?_)
  exact ⟨rfl, rfl⟩
set_option maxRecDepth 20000 in
set_option maxHeartbeats 2000000 in
theorem co_cs11 {v : Int32} {σ : Sg} (h : CM mX9_countOfState [ar 0, ai (nI 11)] σ (Ret v σ)) : CM mX9_count [ar 0, ai (nI 11)] σ (Ret v σ) := by
  refine CM_in (ls := [some (ar 0), some (ai (nI 11))]) rfl ?_
  refine g_iload_n (p0 := 1) (i := 1) dX9_count_0 rfl rfl rfl ?_
  refine g_tabOut (tgt := 157) dX9_count_1 (by decide) rfl ?_
  refine g_aload_n (p0 := 158) (i := 0) dX9_count_157 rfl rfl rfl ?_
  refine g_iload_n (p0 := 159) (i := 1) dX9_count_158 rfl rfl rfl ?_
  refine g_cV1R (p0 := 162) (r1 := mX9_countOfState) dX9_count_159 lX9_250 vX9_countOfState (by first | rfl | assumption | exact RW.s (by assumption) | exact TW.s (by assumption)) ⟨_, _, rfl⟩ (FITi rfl rfl) (Nat.le_of_ble_eq_true rfl) (h) rfl ?_
  refine g_ireturn dX9_count_162 rfl rfl (?_)
  exact ⟨rfl, rfl⟩
set_option maxRecDepth 20000 in
set_option maxHeartbeats 2000000 in
theorem co_cs12 {v : Int32} {σ : Sg} (h : CM mX9_countOfState [ar 0, ai (nI 12)] σ (Ret v σ)) : CM mX9_count [ar 0, ai (nI 12)] σ (Ret v σ) := by
  refine CM_in (ls := [some (ar 0), some (ai (nI 12))]) rfl ?_
  refine g_iload_n (p0 := 1) (i := 1) dX9_count_0 rfl rfl rfl ?_
  refine g_tabOut (tgt := 157) dX9_count_1 (by decide) rfl ?_
  refine g_aload_n (p0 := 158) (i := 0) dX9_count_157 rfl rfl rfl ?_
  refine g_iload_n (p0 := 159) (i := 1) dX9_count_158 rfl rfl rfl ?_
  refine g_cV1R (p0 := 162) (r1 := mX9_countOfState) dX9_count_159 lX9_250 vX9_countOfState (by first | rfl | assumption | exact RW.s (by assumption) | exact TW.s (by assumption)) ⟨_, _, rfl⟩ (FITi rfl rfl) (Nat.le_of_ble_eq_true rfl) (h) rfl ?_
  refine g_ireturn dX9_count_162 rfl rfl (?_)
  exact ⟨rfl, rfl⟩
set_option maxRecDepth 20000 in
set_option maxHeartbeats 2000000 in
theorem co_cs19 {v : Int32} {σ : Sg} (h : CM mX9_countOfState [ar 0, ai (nI 19)] σ (Ret v σ)) : CM mX9_count [ar 0, ai (nI 19)] σ (Ret v σ) := by
  refine CM_in (ls := [some (ar 0), some (ai (nI 19))]) rfl ?_
  refine g_iload_n (p0 := 1) (i := 1) dX9_count_0 rfl rfl rfl ?_
  refine g_tabOut (tgt := 157) dX9_count_1 (by decide) rfl ?_
  refine g_aload_n (p0 := 158) (i := 0) dX9_count_157 rfl rfl rfl ?_
  refine g_iload_n (p0 := 159) (i := 1) dX9_count_158 rfl rfl rfl ?_
  refine g_cV1R (p0 := 162) (r1 := mX9_countOfState) dX9_count_159 lX9_250 vX9_countOfState (by first | rfl | assumption | exact RW.s (by assumption) | exact TW.s (by assumption)) ⟨_, _, rfl⟩ (FITi rfl rfl) (Nat.le_of_ble_eq_true rfl) (h) rfl ?_
  refine g_ireturn dX9_count_162 rfl rfl (?_)
  exact ⟨rfl, rfl⟩
set_option maxRecDepth 20000 in
set_option maxHeartbeats 2000000 in
theorem co_cs20 {v : Int32} {σ : Sg} (h : CM mX9_countOfState [ar 0, ai (nI 20)] σ (Ret v σ)) : CM mX9_count [ar 0, ai (nI 20)] σ (Ret v σ) := by
  refine CM_in (ls := [some (ar 0), some (ai (nI 20))]) rfl ?_
  refine g_iload_n (p0 := 1) (i := 1) dX9_count_0 rfl rfl rfl ?_
  refine g_tabOut (tgt := 157) dX9_count_1 (by decide) rfl ?_
  refine g_aload_n (p0 := 158) (i := 0) dX9_count_157 rfl rfl rfl ?_
  refine g_iload_n (p0 := 159) (i := 1) dX9_count_158 rfl rfl rfl ?_
  refine g_cV1R (p0 := 162) (r1 := mX9_countOfState) dX9_count_159 lX9_250 vX9_countOfState (by first | rfl | assumption | exact RW.s (by assumption) | exact TW.s (by assumption)) ⟨_, _, rfl⟩ (FITi rfl rfl) (Nat.le_of_ble_eq_true rfl) (h) rfl ?_
  refine g_ireturn dX9_count_162 rfl rfl (?_)
  exact ⟨rfl, rfl⟩
set_option maxRecDepth 20000 in
set_option maxHeartbeats 2000000 in
theorem co_cs21 {v : Int32} {σ : Sg} (h : CM mX9_countOfState [ar 0, ai (nI 21)] σ (Ret v σ)) : CM mX9_count [ar 0, ai (nI 21)] σ (Ret v σ) := by
  refine CM_in (ls := [some (ar 0), some (ai (nI 21))]) rfl ?_
  refine g_iload_n (p0 := 1) (i := 1) dX9_count_0 rfl rfl rfl ?_
  refine g_tabOut (tgt := 157) dX9_count_1 (by decide) rfl ?_
  refine g_aload_n (p0 := 158) (i := 0) dX9_count_157 rfl rfl rfl ?_
  refine g_iload_n (p0 := 159) (i := 1) dX9_count_158 rfl rfl rfl ?_
  refine g_cV1R (p0 := 162) (r1 := mX9_countOfState) dX9_count_159 lX9_250 vX9_countOfState (by first | rfl | assumption | exact RW.s (by assumption) | exact TW.s (by assumption)) ⟨_, _, rfl⟩ (FITi rfl rfl) (Nat.le_of_ble_eq_true rfl) (h) rfl ?_
  refine g_ireturn dX9_count_162 rfl rfl (?_)
  exact ⟨rfl, rfl⟩
theorem rgC {σ : Sg} {s M L : Nat} {c fs f n p d g a b : Nat → Nat} (hC : CLS σ s M L c fs f n p d g a b) {i : Nat} (hi : i < M) : ind (RGT (σ 42) (f i) (n i)) ≤ 1 ∧ CM mX6_isRight [ar 33, ai (nI i)] σ (Ret (nI (ind (RGT (σ 42) (f i) (n i)))) σ) := by
  obtain ⟨⟨q1, q2, q3, q4, q5, q6⟩, hM, hL⟩ := hC
  obtain ⟨⟨n1, n2⟩, a1, a2, a3, a4, a5, a6, a7⟩ := hM i hi
  refine ⟨ind_le _, ?_⟩
  rcases cRight_sp (σ := σ) (m := i) (by omega) n1 a2 (by omega) a3 a6 a7 with ⟨h, k⟩ | ⟨h, k⟩
  · rw [ind_T h]; exact k
  · rw [ind_F h]; exact k
