/-! QUESTIONS: count -/
set_option maxRecDepth 20000 in
set_option maxHeartbeats 2000000 in
theorem co_c0 {v : Int32} {σ : Sg} (h : σ 1 2 = v) : CM mX9_count [ar 0, ai (nI 0)] σ (Ret v σ) := by
  refine CM_in (ls := [some (ar 0), some (ai (nI 0))]) rfl ?_
  refine g_iload_n (p0 := 1) (i := 1) dX9_count_0 rfl rfl rfl ?_
  refine g_tabIn (tgt := 48) (off := 47) dX9_count_1 (by decide) (by decide) (by decide +kernel) rfl ?_
  refine g_aload_n (p0 := 49) (i := 0) dX9_count_48 rfl rfl rfl ?_
  refine g_getR (p0 := 52) dX9_count_49 fX9_10 (by first | rfl | assumption | exact RW.s (by assumption) | exact TW.s (by assumption)) rfl rfl ?_
  refine g_getI (p0 := 55) dX9_count_52 fX9_85 (by first | rfl | assumption | exact RW.s (by assumption) | exact TW.s (by assumption)) rfl (by first | assumption | ((repeat (first | exact up_hit | refine up_nv (by decide) ?_ | refine up_mv (by first | decide | omega) ?_)) <;> first | assumption | rfl)) rfl ?_
  refine g_ireturn dX9_count_55 rfl rfl (?_)
  exact ⟨rfl, rfl⟩
set_option maxRecDepth 20000 in
set_option maxHeartbeats 2000000 in
theorem co_c1 {v : Int32} {σ : Sg} (h : σ 45 7 = v) : CM mX9_count [ar 0, ai (nI 1)] σ (Ret v σ) := by
  refine CM_in (ls := [some (ar 0), some (ai (nI 1))]) rfl ?_
  refine g_iload_n (p0 := 1) (i := 1) dX9_count_0 rfl rfl rfl ?_
  refine g_tabIn (tgt := 56) (off := 55) dX9_count_1 (by decide) (by decide) (by decide +kernel) rfl ?_
  refine g_aload_n (p0 := 57) (i := 0) dX9_count_56 rfl rfl rfl ?_
  refine g_getR (p0 := 60) dX9_count_57 fX9_29 (by first | rfl | assumption | exact RW.s (by assumption) | exact TW.s (by assumption)) rfl rfl ?_
  refine g_getR (p0 := 63) dX9_count_60 fX9_139 (by first | rfl | assumption | exact RW.s (by assumption) | exact TW.s (by assumption)) rfl rfl ?_
  refine g_getI (p0 := 66) dX9_count_63 fX9_236 (by first | rfl | assumption | exact RW.s (by assumption) | exact TW.s (by assumption)) rfl (by first | assumption | ((repeat (first | exact up_hit | refine up_nv (by decide) ?_ | refine up_mv (by first | decide | omega) ?_)) <;> first | assumption | rfl)) rfl ?_
  refine g_ireturn dX9_count_66 rfl rfl (?_)
  exact ⟨rfl, rfl⟩
set_option maxRecDepth 20000 in
set_option maxHeartbeats 2000000 in
theorem co_c2 {v : Int32} {σ : Sg} (h : σ 34 5 = v) : CM mX9_count [ar 0, ai (nI 2)] σ (Ret v σ) := by
  refine CM_in (ls := [some (ar 0), some (ai (nI 2))]) rfl ?_
  refine g_iload_n (p0 := 1) (i := 1) dX9_count_0 rfl rfl rfl ?_
  refine g_tabIn (tgt := 67) (off := 66) dX9_count_1 (by decide) (by decide) (by decide +kernel) rfl ?_
  refine g_aload_n (p0 := 68) (i := 0) dX9_count_67 rfl rfl rfl ?_
  refine g_getR (p0 := 71) dX9_count_68 fX9_29 (by first | rfl | assumption | exact RW.s (by assumption) | exact TW.s (by assumption)) rfl rfl ?_
  refine g_getR (p0 := 74) dX9_count_71 fX9_164 (by first | rfl | assumption | exact RW.s (by assumption) | exact TW.s (by assumption)) rfl rfl ?_
  refine g_getI (p0 := 77) dX9_count_74 fX9_239 (by first | rfl | assumption | exact RW.s (by assumption) | exact TW.s (by assumption)) rfl (by first | assumption | ((repeat (first | exact up_hit | refine up_nv (by decide) ?_ | refine up_mv (by first | decide | omega) ?_)) <;> first | assumption | rfl)) rfl ?_
  refine g_ireturn dX9_count_77 rfl rfl (?_)
  exact ⟨rfl, rfl⟩
set_option maxRecDepth 20000 in
set_option maxHeartbeats 2000000 in
theorem co_c4 {v : Int32} {σ : Sg} (h : σ 33 8 = v) : CM mX9_count [ar 0, ai (nI 4)] σ (Ret v σ) := by
  refine CM_in (ls := [some (ar 0), some (ai (nI 4))]) rfl ?_
  refine g_iload_n (p0 := 1) (i := 1) dX9_count_0 rfl rfl rfl ?_
  refine g_tabIn (tgt := 99) (off := 98) dX9_count_1 (by decide) (by decide) (by decide +kernel) rfl ?_
  refine g_aload_n (p0 := 100) (i := 0) dX9_count_99 rfl rfl rfl ?_
  refine g_getR (p0 := 103) dX9_count_100 fX9_29 (by first | rfl | assumption | exact RW.s (by assumption) | exact TW.s (by assumption)) rfl rfl ?_
  refine g_getI (p0 := 106) dX9_count_103 fX9_244 (by first | rfl | assumption | exact RW.s (by assumption) | exact TW.s (by assumption)) rfl (by first | assumption | ((repeat (first | exact up_hit | refine up_nv (by decide) ?_ | refine up_mv (by first | decide | omega) ?_)) <;> first | assumption | rfl)) rfl ?_
  refine g_ireturn dX9_count_106 rfl rfl (?_)
  exact ⟨rfl, rfl⟩
set_option maxRecDepth 20000 in
set_option maxHeartbeats 2000000 in
theorem co_c3 {v : Int32} {σ : Sg} (h : CM mX4_totalOf [ar 45, ar 56] σ (Ret v σ)) : CM mX9_count [ar 0, ai (nI 3)] σ (Ret v σ) := by
  refine CM_in (ls := [some (ar 0), some (ai (nI 3))]) rfl ?_
  refine g_iload_n (p0 := 1) (i := 1) dX9_count_0 rfl rfl rfl ?_
  refine g_tabIn (tgt := 78) (off := 77) dX9_count_1 (by decide) (by decide) (by decide +kernel) rfl ?_
  refine g_aload_n (p0 := 79) (i := 0) dX9_count_78 rfl rfl rfl ?_
  refine g_getR (p0 := 82) dX9_count_79 fX9_29 (by first | rfl | assumption | exact RW.s (by assumption) | exact TW.s (by assumption)) rfl rfl ?_
  refine g_getR (p0 := 85) dX9_count_82 fX9_139 (by first | rfl | assumption | exact RW.s (by assumption) | exact TW.s (by assumption)) rfl rfl ?_
  refine g_aload_n (p0 := 86) (i := 0) dX9_count_85 rfl rfl rfl ?_
  refine g_getR (p0 := 89) dX9_count_86 fX9_29 (by first | rfl | assumption | exact RW.s (by assumption) | exact TW.s (by assumption)) rfl rfl ?_
  refine g_getR (p0 := 92) dX9_count_89 fX9_139 (by first | rfl | assumption | exact RW.s (by assumption) | exact TW.s (by assumption)) rfl rfl ?_
  refine g_getR (p0 := 95) dX9_count_92 fX9_143 (by first | rfl | assumption | exact RW.s (by assumption) | exact TW.s (by assumption)) rfl rfl ?_
  refine g_cV1R (p0 := 98) (r1 := mX4_totalOf) dX9_count_95 lX9_240 vX4_totalOf (by first | rfl | assumption | exact RW.s (by assumption) | exact TW.s (by assumption)) ⟨_, _, rfl⟩ (FITi rfl rfl) (Nat.le_of_ble_eq_true rfl) (h) rfl ?_
  refine g_ireturn dX9_count_98 rfl rfl (?_)
  exact ⟨rfl, rfl⟩
set_option maxRecDepth 20000 in
set_option maxHeartbeats 2000000 in
theorem co_c5 {v : Int32} {σ : Sg} (h : CM mX4_totalOf [ar 45, ar 52] σ (Ret v σ)) : CM mX9_count [ar 0, ai (nI 5)] σ (Ret v σ) := by
  refine CM_in (ls := [some (ar 0), some (ai (nI 5))]) rfl ?_
  refine g_iload_n (p0 := 1) (i := 1) dX9_count_0 rfl rfl rfl ?_
  refine g_tabIn (tgt := 107) (off := 106) dX9_count_1 (by decide) (by decide) (by decide +kernel) rfl ?_
  refine g_aload_n (p0 := 108) (i := 0) dX9_count_107 rfl rfl rfl ?_
  refine g_getR (p0 := 111) dX9_count_108 fX9_29 (by first | rfl | assumption | exact RW.s (by assumption) | exact TW.s (by assumption)) rfl rfl ?_
  refine g_getR (p0 := 114) dX9_count_111 fX9_139 (by first | rfl | assumption | exact RW.s (by assumption) | exact TW.s (by assumption)) rfl rfl ?_
  refine g_aload_n (p0 := 115) (i := 0) dX9_count_114 rfl rfl rfl ?_
  refine g_getR (p0 := 118) dX9_count_115 fX9_29 (by first | rfl | assumption | exact RW.s (by assumption) | exact TW.s (by assumption)) rfl rfl ?_
  refine g_getR (p0 := 121) dX9_count_118 fX9_139 (by first | rfl | assumption | exact RW.s (by assumption) | exact TW.s (by assumption)) rfl rfl ?_
  refine g_getR (p0 := 124) dX9_count_121 fX9_151 (by first | rfl | assumption | exact RW.s (by assumption) | exact TW.s (by assumption)) rfl rfl ?_
  refine g_cV1R (p0 := 127) (r1 := mX4_totalOf) dX9_count_124 lX9_240 vX4_totalOf (by first | rfl | assumption | exact RW.s (by assumption) | exact TW.s (by assumption)) ⟨_, _, rfl⟩ (FITi rfl rfl) (Nat.le_of_ble_eq_true rfl) (h) rfl ?_
  refine g_ireturn dX9_count_127 rfl rfl (?_)
  exact ⟨rfl, rfl⟩
set_option maxRecDepth 20000 in
set_option maxHeartbeats 2000000 in
theorem co_c6 {v : Int32} {σ : Sg} (h : CM mX4_totalOf [ar 45, ar 54] σ (Ret v σ)) : CM mX9_count [ar 0, ai (nI 6)] σ (Ret v σ) := by
  refine CM_in (ls := [some (ar 0), some (ai (nI 6))]) rfl ?_
  refine g_iload_n (p0 := 1) (i := 1) dX9_count_0 rfl rfl rfl ?_
  refine g_tabIn (tgt := 128) (off := 127) dX9_count_1 (by decide) (by decide) (by decide +kernel) rfl ?_
  refine g_aload_n (p0 := 129) (i := 0) dX9_count_128 rfl rfl rfl ?_
  refine g_getR (p0 := 132) dX9_count_129 fX9_29 (by first | rfl | assumption | exact RW.s (by assumption) | exact TW.s (by assumption)) rfl rfl ?_
  refine g_getR (p0 := 135) dX9_count_132 fX9_139 (by first | rfl | assumption | exact RW.s (by assumption) | exact TW.s (by assumption)) rfl rfl ?_
  refine g_aload_n (p0 := 136) (i := 0) dX9_count_135 rfl rfl rfl ?_
  refine g_getR (p0 := 139) dX9_count_136 fX9_29 (by first | rfl | assumption | exact RW.s (by assumption) | exact TW.s (by assumption)) rfl rfl ?_
  refine g_getR (p0 := 142) dX9_count_139 fX9_139 (by first | rfl | assumption | exact RW.s (by assumption) | exact TW.s (by assumption)) rfl rfl ?_
  refine g_getR (p0 := 145) dX9_count_142 fX9_161 (by first | rfl | assumption | exact RW.s (by assumption) | exact TW.s (by assumption)) rfl rfl ?_
  refine g_cV1R (p0 := 148) (r1 := mX4_totalOf) dX9_count_145 lX9_240 vX4_totalOf (by first | rfl | assumption | exact RW.s (by assumption) | exact TW.s (by assumption)) ⟨_, _, rfl⟩ (FITi rfl rfl) (Nat.le_of_ble_eq_true rfl) (h) rfl ?_
  refine g_ireturn dX9_count_148 rfl rfl (?_)
  exact ⟨rfl, rfl⟩
set_option maxRecDepth 20000 in
set_option maxHeartbeats 2000000 in
theorem co_c7 {v : Int32} {σ : Sg} (h : CM mX6_rightOnes [ar 33] σ (Ret v σ)) : CM mX9_count [ar 0, ai (nI 7)] σ (Ret v σ) := by
  refine CM_in (ls := [some (ar 0), some (ai (nI 7))]) rfl ?_
  refine g_iload_n (p0 := 1) (i := 1) dX9_count_0 rfl rfl rfl ?_
  refine g_tabIn (tgt := 149) (off := 148) dX9_count_1 (by decide) (by decide) (by decide +kernel) rfl ?_
  refine g_aload_n (p0 := 150) (i := 0) dX9_count_149 rfl rfl rfl ?_
  refine g_getR (p0 := 153) dX9_count_150 fX9_29 (by first | rfl | assumption | exact RW.s (by assumption) | exact TW.s (by assumption)) rfl rfl ?_
  refine g_cV0R (p0 := 156) (r1 := mX6_rightOnes) dX9_count_153 lX9_247 vX6_rightOnes (by first | rfl | assumption | exact RW.s (by assumption) | exact TW.s (by assumption)) ⟨_, _, rfl⟩ (FITi rfl rfl) (Nat.le_of_ble_eq_true rfl) (h) rfl ?_
  refine g_ireturn dX9_count_156 rfl rfl (?_)
  exact ⟨rfl, rfl⟩
set_option maxRecDepth 20000 in
set_option maxHeartbeats 2000000 in
theorem cs_8z {σ : Sg} (h : σ 1 5 = nI 0) : CM mX9_countOfState [ar 0, ai (nI 8)] σ (Ret (nI 0) σ) := by
  refine CM_in (ls := [some (ar 0), some (ai (nI 8))]) rfl ?_
  refine g_iload_n (p0 := 1) (i := 1) dX9_countOfState_0 rfl rfl rfl ?_
  refine g_tabIn (tgt := 72) (off := 71) dX9_countOfState_1 (by decide) (by decide) (by decide +kernel) rfl ?_
  refine g_aload_n (p0 := 73) (i := 0) dX9_countOfState_72 rfl rfl rfl ?_
  refine g_getR (p0 := 76) dX9_countOfState_73 fX9_10 (by first | rfl | assumption | exact RW.s (by assumption) | exact TW.s (by assumption)) rfl rfl ?_
  refine g_getI (p0 := 79) dX9_countOfState_76 fX9_92 (by first | rfl | assumption | exact RW.s (by assumption) | exact TW.s (by assumption)) rfl (by first | assumption | ((repeat (first | exact up_hit | refine up_nv (by decide) ?_ | refine up_mv (by first | decide | omega) ?_)) <;> first | assumption | rfl)) rfl ?_
  first | ((with_reducible refine isN1 ?_); refine g_ifN_eq (tgt := 86) (p1 := 82) dX9_countOfState_79 rfl (by omega) rfl (fun c_79 => ?_) (fun c_79 => by exfalso; first | omega | contradiction | exact absurd (by assumption) c_79 | (simp_all; done))) | refine g_if_eq (tgt := 86) (p1 := 82) dX9_countOfState_79 rfl rfl (fun c_79 => ?_) (fun c_79 => by exfalso; first | omega | contradiction | exact absurd (by assumption) c_79 | (simp_all; done))
  refine g_iconst (p0 := 87) (v := nI 0) dX9_countOfState_86 rfl rfl ?_
  refine g_ireturn dX9_countOfState_87 rfl rfl (?_)
  exact ⟨rfl, rfl⟩
set_option maxRecDepth 20000 in
set_option maxHeartbeats 2000000 in
theorem cs_8o {σ : Sg} (h : σ 1 5 = nI 1) : CM mX9_countOfState [ar 0, ai (nI 8)] σ (Ret (nI 1) σ) := by
  refine CM_in (ls := [some (ar 0), some (ai (nI 8))]) rfl ?_
  refine g_iload_n (p0 := 1) (i := 1) dX9_countOfState_0 rfl rfl rfl ?_
  refine g_tabIn (tgt := 72) (off := 71) dX9_countOfState_1 (by decide) (by decide) (by decide +kernel) rfl ?_
  refine g_aload_n (p0 := 73) (i := 0) dX9_countOfState_72 rfl rfl rfl ?_
  refine g_getR (p0 := 76) dX9_countOfState_73 fX9_10 (by first | rfl | assumption | exact RW.s (by assumption) | exact TW.s (by assumption)) rfl rfl ?_
  refine g_getI (p0 := 79) dX9_countOfState_76 fX9_92 (by first | rfl | assumption | exact RW.s (by assumption) | exact TW.s (by assumption)) rfl (by first | assumption | ((repeat (first | exact up_hit | refine up_nv (by decide) ?_ | refine up_mv (by first | decide | omega) ?_)) <;> first | assumption | rfl)) rfl ?_
  first | ((with_reducible refine isN1 ?_); refine g_ifN_eq (tgt := 86) (p1 := 82) dX9_countOfState_79 rfl (by omega) rfl (fun c_79 => by exfalso; first | omega | contradiction | exact absurd (by assumption) c_79 | (simp_all; done)) (fun c_79 => ?_)) | refine g_if_eq (tgt := 86) (p1 := 82) dX9_countOfState_79 rfl rfl (fun c_79 => by exfalso; first | omega | contradiction | exact absurd (by assumption) c_79 | (simp_all; done)) (fun c_79 => ?_)
  refine g_iconst (p0 := 83) (v := nI 1) dX9_countOfState_82 rfl rfl ?_
  refine g_goto (tgt := 87) dX9_countOfState_83 rfl ?_
  refine g_ireturn dX9_countOfState_87 rfl rfl (?_)
  exact ⟨rfl, rfl⟩
set_option maxRecDepth 20000 in
set_option maxHeartbeats 2000000 in
theorem cs_9z {σ : Sg} (h : σ 1 2 = nI 0) : CM mX9_countOfState [ar 0, ai (nI 9)] σ (Ret (-1000004) σ) := by
  refine CM_in (ls := [some (ar 0), some (ai (nI 9))]) rfl ?_
  refine g_iload_n (p0 := 1) (i := 1) dX9_countOfState_0 rfl rfl rfl ?_
  refine g_tabIn (tgt := 88) (off := 87) dX9_countOfState_1 (by decide) (by decide) (by decide +kernel) rfl ?_
  refine g_aload_n (p0 := 89) (i := 0) dX9_countOfState_88 rfl rfl rfl ?_
  refine g_getR (p0 := 92) dX9_countOfState_89 fX9_10 (by first | rfl | assumption | exact RW.s (by assumption) | exact TW.s (by assumption)) rfl rfl ?_
  refine g_getI (p0 := 95) dX9_countOfState_92 fX9_85 (by first | rfl | assumption | exact RW.s (by assumption) | exact TW.s (by assumption)) rfl (by first | assumption | ((repeat (first | exact up_hit | refine up_nv (by decide) ?_ | refine up_mv (by first | decide | omega) ?_)) <;> first | assumption | rfl)) rfl ?_
  first | ((with_reducible refine isN1 ?_); refine g_ifN_ne (tgt := 103) (p1 := 98) dX9_countOfState_95 rfl (by omega) rfl (fun c_95 => by exfalso; first | omega | contradiction | exact absurd (by assumption) c_95 | (simp_all; done)) (fun c_95 => ?_)) | refine g_if_ne (tgt := 103) (p1 := 98) dX9_countOfState_95 rfl rfl (fun c_95 => by exfalso; first | omega | contradiction | exact absurd (by assumption) c_95 | (simp_all; done)) (fun c_95 => ?_)
  refine g_ldc (p0 := 100) dX9_countOfState_98 qX9_122 rfl ?_
  refine g_goto (tgt := 110) dX9_countOfState_100 rfl ?_
  refine g_ireturn dX9_countOfState_110 rfl rfl (?_)
  exact ⟨rfl, rfl⟩
set_option maxRecDepth 20000 in
set_option maxHeartbeats 2000000 in
theorem cs_9 {s : Nat} {v : Int32} {σ : Sg} (h : σ 1 2 = nI s) (h0 : 0 < s) (h1 : s ≤ 160) (hv : σ 3 (s - 1) = v) : CM mX9_countOfState [ar 0, ai (nI 9)] σ (Ret v σ) := by
  refine CM_in (ls := [some (ar 0), some (ai (nI 9))]) rfl ?_
  refine g_iload_n (p0 := 1) (i := 1) dX9_countOfState_0 rfl rfl rfl ?_
  refine g_tabIn (tgt := 88) (off := 87) dX9_countOfState_1 (by decide) (by decide) (by decide +kernel) rfl ?_
  refine g_aload_n (p0 := 89) (i := 0) dX9_countOfState_88 rfl rfl rfl ?_
  refine g_getR (p0 := 92) dX9_countOfState_89 fX9_10 (by first | rfl | assumption | exact RW.s (by assumption) | exact TW.s (by assumption)) rfl rfl ?_
  refine g_getI (p0 := 95) dX9_countOfState_92 fX9_85 (by first | rfl | assumption | exact RW.s (by assumption) | exact TW.s (by assumption)) rfl (by first | assumption | ((repeat (first | exact up_hit | refine up_nv (by decide) ?_ | refine up_mv (by first | decide | omega) ?_)) <;> first | assumption | rfl)) rfl ?_
  first | ((with_reducible refine isN1 ?_); refine g_ifN_ne (tgt := 103) (p1 := 98) dX9_countOfState_95 rfl (by omega) rfl (fun c_95 => ?_) (fun c_95 => by exfalso; first | omega | contradiction | exact absurd (by assumption) c_95 | (simp_all; done))) | refine g_if_ne (tgt := 103) (p1 := 98) dX9_countOfState_95 rfl rfl (fun c_95 => ?_) (fun c_95 => by exfalso; first | omega | contradiction | exact absurd (by assumption) c_95 | (simp_all; done))
  refine g_aload_n (p0 := 104) (i := 0) dX9_countOfState_103 rfl rfl rfl ?_
  refine g_getR (p0 := 107) dX9_countOfState_104 fX9_10 (by first | rfl | assumption | exact RW.s (by assumption) | exact TW.s (by assumption)) rfl rfl ?_
  refine g_cV0R (p0 := 110) (r1 := mX8_lastTime) dX9_countOfState_107 lX9_278 vX8_lastTime (by first | rfl | assumption | exact RW.s (by assumption) | exact TW.s (by assumption)) ⟨_, _, rfl⟩ (FITi rfl rfl) (Nat.le_of_ble_eq_true rfl) (lastTime_sp TW1 h h0 h1 hv) rfl ?_
  refine g_ireturn dX9_countOfState_110 rfl rfl (?_)
  exact ⟨rfl, rfl⟩
set_option maxRecDepth 20000 in
set_option maxHeartbeats 2000000 in
theorem cs_10 {v : Int32} {σ : Sg} (h : σ 11 2 = v) : CM mX9_countOfState [ar 0, ai (nI 10)] σ (Ret v σ) := by
  refine CM_in (ls := [some (ar 0), some (ai (nI 10))]) rfl ?_
  refine g_iload_n (p0 := 1) (i := 1) dX9_countOfState_0 rfl rfl rfl ?_
  refine g_tabIn (tgt := 111) (off := 110) dX9_countOfState_1 (by decide) (by decide) (by decide +kernel) rfl ?_
  refine g_aload_n (p0 := 112) (i := 0) dX9_countOfState_111 rfl rfl rfl ?_
  refine g_getR (p0 := 115) dX9_countOfState_112 fX9_22 (by first | rfl | assumption | exact RW.s (by assumption) | exact TW.s (by assumption)) rfl rfl ?_
  refine g_getI (p0 := 118) dX9_countOfState_115 fX9_253 (by first | rfl | assumption | exact RW.s (by assumption) | exact TW.s (by assumption)) rfl (by first | assumption | ((repeat (first | exact up_hit | refine up_nv (by decide) ?_ | refine up_mv (by first | decide | omega) ?_)) <;> first | assumption | rfl)) rfl ?_
  refine g_ireturn dX9_countOfState_118 rfl rfl (?_)
  exact ⟨rfl, rfl⟩
set_option maxRecDepth 20000 in
set_option maxHeartbeats 2000000 in
theorem cs_11 {v : Int32} {σ : Sg} (h : σ 76 1 = v) : CM mX9_countOfState [ar 0, ai (nI 11)] σ (Ret v σ) := by
  refine CM_in (ls := [some (ar 0), some (ai (nI 11))]) rfl ?_
  refine g_iload_n (p0 := 1) (i := 1) dX9_countOfState_0 rfl rfl rfl ?_
  refine g_tabIn (tgt := 119) (off := 118) dX9_countOfState_1 (by decide) (by decide) (by decide +kernel) rfl ?_
  refine g_aload_n (p0 := 120) (i := 0) dX9_countOfState_119 rfl rfl rfl ?_
  refine g_getR (p0 := 123) dX9_countOfState_120 fX9_50 (by first | rfl | assumption | exact RW.s (by assumption) | exact TW.s (by assumption)) rfl rfl ?_
  refine g_getI (p0 := 126) dX9_countOfState_123 fX9_259 (by first | rfl | assumption | exact RW.s (by assumption) | exact TW.s (by assumption)) rfl (by first | assumption | ((repeat (first | exact up_hit | refine up_nv (by decide) ?_ | refine up_mv (by first | decide | omega) ?_)) <;> first | assumption | rfl)) rfl ?_
  refine g_ireturn dX9_countOfState_126 rfl rfl (?_)
  exact ⟨rfl, rfl⟩
set_option maxRecDepth 20000 in
set_option maxHeartbeats 2000000 in
theorem cs_20 {v : Int32} {σ : Sg} (h : σ 1 3 = v) : CM mX9_countOfState [ar 0, ai (nI 20)] σ (Ret v σ) := by
  refine CM_in (ls := [some (ar 0), some (ai (nI 20))]) rfl ?_
  refine g_iload_n (p0 := 1) (i := 1) dX9_countOfState_0 rfl rfl rfl ?_
  refine g_tabIn (tgt := 127) (off := 126) dX9_countOfState_1 (by decide) (by decide) (by decide +kernel) rfl ?_
  refine g_aload_n (p0 := 128) (i := 0) dX9_countOfState_127 rfl rfl rfl ?_
  refine g_getR (p0 := 131) dX9_countOfState_128 fX9_10 (by first | rfl | assumption | exact RW.s (by assumption) | exact TW.s (by assumption)) rfl rfl ?_
  refine g_getI (p0 := 134) dX9_countOfState_131 fX9_54 (by first | rfl | assumption | exact RW.s (by assumption) | exact TW.s (by assumption)) rfl (by first | assumption | ((repeat (first | exact up_hit | refine up_nv (by decide) ?_ | refine up_mv (by first | decide | omega) ?_)) <;> first | assumption | rfl)) rfl ?_
  refine g_ireturn dX9_countOfState_134 rfl rfl (?_)
  exact ⟨rfl, rfl⟩
set_option maxRecDepth 20000 in
set_option maxHeartbeats 2000000 in
theorem cs_21 {v : Int32} {σ : Sg} (h : σ 1 4 = v) : CM mX9_countOfState [ar 0, ai (nI 21)] σ (Ret v σ) := by
  refine CM_in (ls := [some (ar 0), some (ai (nI 21))]) rfl ?_
  refine g_iload_n (p0 := 1) (i := 1) dX9_countOfState_0 rfl rfl rfl ?_
  refine g_tabIn (tgt := 135) (off := 134) dX9_countOfState_1 (by decide) (by decide) (by decide +kernel) rfl ?_
  refine g_aload_n (p0 := 136) (i := 0) dX9_countOfState_135 rfl rfl rfl ?_
  refine g_getR (p0 := 139) dX9_countOfState_136 fX9_10 (by first | rfl | assumption | exact RW.s (by assumption) | exact TW.s (by assumption)) rfl rfl ?_
  refine g_getI (p0 := 142) dX9_countOfState_139 fX9_65 (by first | rfl | assumption | exact RW.s (by assumption) | exact TW.s (by assumption)) rfl (by first | assumption | ((repeat (first | exact up_hit | refine up_nv (by decide) ?_ | refine up_mv (by first | decide | omega) ?_)) <;> first | assumption | rfl)) rfl ?_
  refine g_ireturn dX9_countOfState_142 rfl rfl (?_)
  exact ⟨rfl, rfl⟩
set_option maxRecDepth 20000 in
set_option maxHeartbeats 2000000 in
theorem cs_12 {σ : Sg} : CM mX9_countOfState [ar 0, ai (nI 12)] σ (Ret (-1000001) σ) := by
  refine CM_in (ls := [some (ar 0), some (ai (nI 12))]) rfl ?_
  refine g_iload_n (p0 := 1) (i := 1) dX9_countOfState_0 rfl rfl rfl ?_
  refine g_tabIn (tgt := 143) (off := 142) dX9_countOfState_1 (by decide) (by decide) (by decide +kernel) rfl ?_
  refine g_ldc (p0 := 145) dX9_countOfState_143 qX9_68 rfl ?_
  refine g_ireturn dX9_countOfState_145 rfl rfl (?_)
  exact ⟨rfl, rfl⟩
set_option maxRecDepth 20000 in
set_option maxHeartbeats 2000000 in
theorem cs_13 {σ : Sg} : CM mX9_countOfState [ar 0, ai (nI 13)] σ (Ret (-1000001) σ) := by
  refine CM_in (ls := [some (ar 0), some (ai (nI 13))]) rfl ?_
  refine g_iload_n (p0 := 1) (i := 1) dX9_countOfState_0 rfl rfl rfl ?_
  refine g_tabIn (tgt := 143) (off := 142) dX9_countOfState_1 (by decide) (by decide) (by decide +kernel) rfl ?_
  refine g_ldc (p0 := 145) dX9_countOfState_143 qX9_68 rfl ?_
  refine g_ireturn dX9_countOfState_145 rfl rfl (?_)
  exact ⟨rfl, rfl⟩
set_option maxRecDepth 20000 in
set_option maxHeartbeats 2000000 in
theorem cs_14 {σ : Sg} : CM mX9_countOfState [ar 0, ai (nI 14)] σ (Ret (-1000001) σ) := by
  refine CM_in (ls := [some (ar 0), some (ai (nI 14))]) rfl ?_
  refine g_iload_n (p0 := 1) (i := 1) dX9_countOfState_0 rfl rfl rfl ?_
  refine g_tabIn (tgt := 143) (off := 142) dX9_countOfState_1 (by decide) (by decide) (by decide +kernel) rfl ?_
  refine g_ldc (p0 := 145) dX9_countOfState_143 qX9_68 rfl ?_
  refine g_ireturn dX9_countOfState_145 rfl rfl (?_)
  exact ⟨rfl, rfl⟩
set_option maxRecDepth 20000 in
set_option maxHeartbeats 2000000 in
theorem cs_15 {σ : Sg} : CM mX9_countOfState [ar 0, ai (nI 15)] σ (Ret (-1000001) σ) := by
  refine CM_in (ls := [some (ar 0), some (ai (nI 15))]) rfl ?_
  refine g_iload_n (p0 := 1) (i := 1) dX9_countOfState_0 rfl rfl rfl ?_
  refine g_tabIn (tgt := 143) (off := 142) dX9_countOfState_1 (by decide) (by decide) (by decide +kernel) rfl ?_
  refine g_ldc (p0 := 145) dX9_countOfState_143 qX9_68 rfl ?_
  refine g_ireturn dX9_countOfState_145 rfl rfl (?_)
  exact ⟨rfl, rfl⟩
set_option maxRecDepth 20000 in
set_option maxHeartbeats 2000000 in
theorem cs_16 {σ : Sg} : CM mX9_countOfState [ar 0, ai (nI 16)] σ (Ret (-1000001) σ) := by
  refine CM_in (ls := [some (ar 0), some (ai (nI 16))]) rfl ?_
  refine g_iload_n (p0 := 1) (i := 1) dX9_countOfState_0 rfl rfl rfl ?_
  refine g_tabIn (tgt := 143) (off := 142) dX9_countOfState_1 (by decide) (by decide) (by decide +kernel) rfl ?_
  refine g_ldc (p0 := 145) dX9_countOfState_143 qX9_68 rfl ?_
  refine g_ireturn dX9_countOfState_145 rfl rfl (?_)
  exact ⟨rfl, rfl⟩
set_option maxRecDepth 20000 in
set_option maxHeartbeats 2000000 in
theorem cs_17 {σ : Sg} : CM mX9_countOfState [ar 0, ai (nI 17)] σ (Ret (-1000001) σ) := by
  refine CM_in (ls := [some (ar 0), some (ai (nI 17))]) rfl ?_
  refine g_iload_n (p0 := 1) (i := 1) dX9_countOfState_0 rfl rfl rfl ?_
  refine g_tabIn (tgt := 143) (off := 142) dX9_countOfState_1 (by decide) (by decide) (by decide +kernel) rfl ?_
  refine g_ldc (p0 := 145) dX9_countOfState_143 qX9_68 rfl ?_
  refine g_ireturn dX9_countOfState_145 rfl rfl (?_)
  exact ⟨rfl, rfl⟩
set_option maxRecDepth 20000 in
set_option maxHeartbeats 2000000 in
theorem cs_18 {σ : Sg} : CM mX9_countOfState [ar 0, ai (nI 18)] σ (Ret (-1000001) σ) := by
  refine CM_in (ls := [some (ar 0), some (ai (nI 18))]) rfl ?_
  refine g_iload_n (p0 := 1) (i := 1) dX9_countOfState_0 rfl rfl rfl ?_
  refine g_tabIn (tgt := 143) (off := 142) dX9_countOfState_1 (by decide) (by decide) (by decide +kernel) rfl ?_
  refine g_ldc (p0 := 145) dX9_countOfState_143 qX9_68 rfl ?_
  refine g_ireturn dX9_countOfState_145 rfl rfl (?_)
  exact ⟨rfl, rfl⟩
set_option maxRecDepth 20000 in
set_option maxHeartbeats 2000000 in
theorem cs_19 {σ : Sg} : CM mX9_countOfState [ar 0, ai (nI 19)] σ (Ret (-1000001) σ) := by
  refine CM_in (ls := [some (ar 0), some (ai (nI 19))]) rfl ?_
  refine g_iload_n (p0 := 1) (i := 1) dX9_countOfState_0 rfl rfl rfl ?_
  refine g_tabIn (tgt := 143) (off := 142) dX9_countOfState_1 (by decide) (by decide) (by decide +kernel) rfl ?_
  refine g_ldc (p0 := 145) dX9_countOfState_143 qX9_68 rfl ?_
  refine g_ireturn dX9_countOfState_145 rfl rfl (?_)
  exact ⟨rfl, rfl⟩
set_option maxRecDepth 20000 in
set_option maxHeartbeats 2000000 in
theorem cs_x {x : Int32} {σ : Sg} (h : x.toInt < 0 ∨ 21 < x.toInt) : CM mX9_countOfState [ar 0, ai x] σ (Ret (-1000001) σ) := by
  refine CM_in (ls := [some (ar 0), some (ai x)]) rfl ?_
  refine g_iload_n (p0 := 1) (i := 1) dX9_countOfState_0 rfl rfl rfl ?_
  refine g_tabOut (tgt := 143) dX9_countOfState_1 (by omega) rfl ?_
  refine g_ldc (p0 := 145) dX9_countOfState_143 qX9_68 rfl ?_
  refine g_ireturn dX9_countOfState_145 rfl rfl (?_)
  exact ⟨rfl, rfl⟩
set_option maxRecDepth 20000 in
set_option maxHeartbeats 2000000 in
theorem co_cx {x : Int32} {σ : Sg} (h : x.toInt < 0 ∨ 21 < x.toInt) : CM mX9_count [ar 0, ai x] σ (Ret (-1000001) σ) := by
  refine CM_in (ls := [some (ar 0), some (ai x)]) rfl ?_
  refine g_iload_n (p0 := 1) (i := 1) dX9_count_0 rfl rfl rfl ?_
  refine g_tabOut (tgt := 157) dX9_count_1 (by omega) rfl ?_
  refine g_aload_n (p0 := 158) (i := 0) dX9_count_157 rfl rfl rfl ?_
  refine g_iload_n (p0 := 159) (i := 1) dX9_count_158 rfl rfl rfl ?_
  refine g_cV1R (p0 := 162) (r1 := mX9_countOfState) dX9_count_159 lX9_250 vX9_countOfState (by first | rfl | assumption | exact RW.s (by assumption) | exact TW.s (by assumption)) ⟨_, _, rfl⟩ (FITi rfl rfl) (Nat.le_of_ble_eq_true rfl) (cs_x h) rfl ?_
  refine g_ireturn dX9_count_162 rfl rfl (?_)
  exact ⟨rfl, rfl⟩
set_option maxRecDepth 20000 in
set_option maxHeartbeats 2000000 in
theorem co_cs8 {v : Int32} {σ : Sg} (h : CM mX9_countOfState [ar 0, ai (nI 8)] σ (Ret v σ)) : CM mX9_count [ar 0, ai (nI 8)] σ (Ret v σ) := by
  refine CM_in (ls := [some (ar 0), some (ai (nI 8))]) rfl ?_
  refine g_iload_n (p0 := 1) (i := 1) dX9_count_0 rfl rfl rfl ?_
  refine g_tabOut (tgt := 157) dX9_count_1 (by decide) rfl ?_
  refine g_aload_n (p0 := 158) (i := 0) dX9_count_157 rfl rfl rfl ?_
  refine g_iload_n (p0 := 159) (i := 1) dX9_count_158 rfl rfl rfl ?_
  refine g_cV1R (p0 := 162) (r1 := mX9_countOfState) dX9_count_159 lX9_250 vX9_countOfState (by first | rfl | assumption | exact RW.s (by assumption) | exact TW.s (by assumption)) ⟨_, _, rfl⟩ (FITi rfl rfl) (Nat.le_of_ble_eq_true rfl) (h) rfl ?_
  refine g_ireturn dX9_count_162 rfl rfl (?_)
  exact ⟨rfl, rfl⟩
set_option maxRecDepth 20000 in
set_option maxHeartbeats 2000000 in
theorem co_cs9 {v : Int32} {σ : Sg} (h : CM mX9_countOfState [ar 0, ai (nI 9)] σ (Ret v σ)) : CM mX9_count [ar 0, ai (nI 9)] σ (Ret v σ) := by
  refine CM_in (ls := [some (ar 0), some (ai (nI 9))]) rfl ?_
  refine g_iload_n (p0 := 1) (i := 1) dX9_count_0 rfl rfl rfl ?_
  refine g_tabOut (tgt := 157) dX9_count_1 (by decide) rfl ?_
  refine g_aload_n (p0 := 158) (i := 0) dX9_count_157 rfl rfl rfl ?_
  refine g_iload_n (p0 := 159) (i := 1) dX9_count_158 rfl rfl rfl ?_
  refine g_cV1R (p0 := 162) (r1 := mX9_countOfState) dX9_count_159 lX9_250 vX9_countOfState (by first | rfl | assumption | exact RW.s (by assumption) | exact TW.s (by assumption)) ⟨_, _, rfl⟩ (FITi rfl rfl) (Nat.le_of_ble_eq_true rfl) (h) rfl ?_
  refine g_ireturn dX9_count_162 rfl rfl (?_)
  exact ⟨rfl, rfl⟩
set_option maxRecDepth 20000 in
set_option maxHeartbeats 2000000 in
theorem co_cs10 {v : Int32} {σ : Sg} (h : CM mX9_countOfState [ar 0, ai (nI 10)] σ (Ret v σ)) : CM mX9_count [ar 0, ai (nI 10)] σ (Ret v σ) := by
  refine CM_in (ls := [some (ar 0), some (ai (nI 10))]) rfl ?_
  refine g_iload_n (p0 := 1) (i := 1) dX9_count_0 rfl rfl rfl ?_
  refine g_tabOut (tgt := 157) dX9_count_1 (by decide) rfl ?_
  refine g_aload_n (p0 := 158) (i := 0) dX9_count_157 rfl rfl rfl ?_
  refine g_iload_n (p0 := 159) (i := 1) dX9_count_158 rfl rfl rfl ?_
  refine g_cV1R (p0 := 162) (r1 := mX9_countOfState) dX9_count_159 lX9_250 vX9_countOfState (by first | rfl | assumption | exact RW.s (by assumption) | exact TW.s (by assumption)) ⟨_, _, rfl⟩ (FITi rfl rfl) (Nat.le_of_ble_eq_true rfl) (h) rfl ?_
  refine g_ireturn dX9_count_162 rfl rfl (?_)
  exact ⟨rfl, rfl⟩
set_option maxRecDepth 20000 in
set_option maxHeartbeats 2000000 in
theorem co_cs11 {v : Int32} {σ : Sg} (h : CM mX9_countOfState [ar 0, ai (nI 11)] σ (Ret v σ)) : CM mX9_count [ar 0, ai (nI 11)] σ (Ret v σ) := by
  refine CM_in (ls := [some (ar 0), some (ai (nI 11))]) rfl ?_
  refine g_iload_n (p0 := 1) (i := 1) dX9_count_0 rfl rfl rfl ?_
  refine g_tabOut (tgt := 157) dX9_count_1 (by decide) rfl ?_
  refine g_aload_n (p0 := 158) (i := 0) dX9_count_157 rfl rfl rfl ?_
  refine g_iload_n (p0 := 159) (i := 1) dX9_count_158 rfl rfl rfl ?_
  refine g_cV1R (p0 := 162) (r1 := mX9_countOfState) dX9_count_159 lX9_250 vX9_countOfState (by first | rfl | assumption | exact RW.s (by assumption) | exact TW.s (by assumption)) ⟨_, _, rfl⟩ (FITi rfl rfl) (Nat.le_of_ble_eq_true rfl) (h) rfl ?_
  refine g_ireturn dX9_count_162 rfl rfl (?_)
  exact ⟨rfl, rfl⟩
set_option maxRecDepth 20000 in
set_option maxHeartbeats 2000000 in
theorem co_cs12 {v : Int32} {σ : Sg} (h : CM mX9_countOfState [ar 0, ai (nI 12)] σ (Ret v σ)) : CM mX9_count [ar 0, ai (nI 12)] σ (Ret v σ) := by
  refine CM_in (ls := [some (ar 0), some (ai (nI 12))]) rfl ?_
  refine g_iload_n (p0 := 1) (i := 1) dX9_count_0 rfl rfl rfl ?_
  refine g_tabOut (tgt := 157) dX9_count_1 (by decide) rfl ?_
  refine g_aload_n (p0 := 158) (i := 0) dX9_count_157 rfl rfl rfl ?_
  refine g_iload_n (p0 := 159) (i := 1) dX9_count_158 rfl rfl rfl ?_
  refine g_cV1R (p0 := 162) (r1 := mX9_countOfState) dX9_count_159 lX9_250 vX9_countOfState (by first | rfl | assumption | exact RW.s (by assumption) | exact TW.s (by assumption)) ⟨_, _, rfl⟩ (FITi rfl rfl) (Nat.le_of_ble_eq_true rfl) (h) rfl ?_
  refine g_ireturn dX9_count_162 rfl rfl (?_)
  exact ⟨rfl, rfl⟩
set_option maxRecDepth 20000 in
set_option maxHeartbeats 2000000 in
theorem co_cs13 {v : Int32} {σ : Sg} (h : CM mX9_countOfState [ar 0, ai (nI 13)] σ (Ret v σ)) : CM mX9_count [ar 0, ai (nI 13)] σ (Ret v σ) := by
  refine CM_in (ls := [some (ar 0), some (ai (nI 13))]) rfl ?_
  refine g_iload_n (p0 := 1) (i := 1) dX9_count_0 rfl rfl rfl ?_
  refine g_tabOut (tgt := 157) dX9_count_1 (by decide) rfl ?_
  refine g_aload_n (p0 := 158) (i := 0) dX9_count_157 rfl rfl rfl ?_
  refine g_iload_n (p0 := 159) (i := 1) dX9_count_158 rfl rfl rfl ?_
  refine g_cV1R (p0 := 162) (r1 := mX9_countOfState) dX9_count_159 lX9_250 vX9_countOfState (by first | rfl | assumption | exact RW.s (by assumption) | exact TW.s (by assumption)) ⟨_, _, rfl⟩ (FITi rfl rfl) (Nat.le_of_ble_eq_true rfl) (h) rfl ?_
  refine g_ireturn dX9_count_162 rfl rfl (?_)
  exact ⟨rfl, rfl⟩
set_option maxRecDepth 20000 in
set_option maxHeartbeats 2000000 in
theorem co_cs14 {v : Int32} {σ : Sg} (h : CM mX9_countOfState [ar 0, ai (nI 14)] σ (Ret v σ)) : CM mX9_count [ar 0, ai (nI 14)] σ (Ret v σ) := by
  refine CM_in (ls := [some (ar 0), some (ai (nI 14))]) rfl ?_
  refine g_iload_n (p0 := 1) (i := 1) dX9_count_0 rfl rfl rfl ?_
  refine g_tabOut (tgt := 157) dX9_count_1 (by decide) rfl ?_
  refine g_aload_n (p0 := 158) (i := 0) dX9_count_157 rfl rfl rfl ?_
  refine g_iload_n (p0 := 159) (i := 1) dX9_count_158 rfl rfl rfl ?_
  refine g_cV1R (p0 := 162) (r1 := mX9_countOfState) dX9_count_159 lX9_250 vX9_countOfState (by first | rfl | assumption | exact RW.s (by assumption) | exact TW.s (by assumption)) ⟨_, _, rfl⟩ (FITi rfl rfl) (Nat.le_of_ble_eq_true rfl) (h) rfl ?_
  refine g_ireturn dX9_count_162 rfl rfl (?_)
  exact ⟨rfl, rfl⟩
set_option maxRecDepth 20000 in
set_option maxHeartbeats 2000000 in
theorem co_cs15 {v : Int32} {σ : Sg} (h : CM mX9_countOfState [ar 0, ai (nI 15)] σ (Ret v σ)) : CM mX9_count [ar 0, ai (nI 15)] σ (Ret v σ) := by
  refine CM_in (ls := [some (ar 0), some (ai (nI 15))]) rfl ?_
  refine g_iload_n (p0 := 1) (i := 1) dX9_count_0 rfl rfl rfl ?_
  refine g_tabOut (tgt := 157) dX9_count_1 (by decide) rfl ?_
  refine g_aload_n (p0 := 158) (i := 0) dX9_count_157 rfl rfl rfl ?_
  refine g_iload_n (p0 := 159) (i := 1) dX9_count_158 rfl rfl rfl ?_
  refine g_cV1R (p0 := 162) (r1 := mX9_countOfState) dX9_count_159 lX9_250 vX9_countOfState (by first | rfl | assumption | exact RW.s (by assumption) | exact TW.s (by assumption)) ⟨_, _, rfl⟩ (FITi rfl rfl) (Nat.le_of_ble_eq_true rfl) (h) rfl ?_
  refine g_ireturn dX9_count_162 rfl rfl (?_)
  exact ⟨rfl, rfl⟩
set_option maxRecDepth 20000 in
set_option maxHeartbeats 2000000 in
theorem co_cs16 {v : Int32} {σ : Sg} (h : CM mX9_countOfState [ar 0, ai (nI 16)] σ (Ret v σ)) : CM mX9_count [ar 0, ai (nI 16)] σ (Ret v σ) := by
  refine CM_in (ls := [some (ar 0), some (ai (nI 16))]) rfl ?_
  refine g_iload_n (p0 := 1) (i := 1) dX9_count_0 rfl rfl rfl ?_
  refine g_tabOut (tgt := 157) dX9_count_1 (by decide) rfl ?_
  refine g_aload_n (p0 := 158) (i := 0) dX9_count_157 rfl rfl rfl ?_
  refine g_iload_n (p0 := 159) (i := 1) dX9_count_158 rfl rfl rfl ?_
  refine g_cV1R (p0 := 162) (r1 := mX9_countOfState) dX9_count_159 lX9_250 vX9_countOfState (by first | rfl | assumption | exact RW.s (by assumption) | exact TW.s (by assumption)) ⟨_, _, rfl⟩ (FITi rfl rfl) (Nat.le_of_ble_eq_true rfl) (h) rfl ?_
  refine g_ireturn dX9_count_162 rfl rfl (?_)
  exact ⟨rfl, rfl⟩
set_option maxRecDepth 20000 in
set_option maxHeartbeats 2000000 in
theorem co_cs17 {v : Int32} {σ : Sg} (h : CM mX9_countOfState [ar 0, ai (nI 17)] σ (Ret v σ)) : CM mX9_count [ar 0, ai (nI 17)] σ (Ret v σ) := by
  refine CM_in (ls := [some (ar 0), some (ai (nI 17))]) rfl ?_
  refine g_iload_n (p0 := 1) (i := 1) dX9_count_0 rfl rfl rfl ?_
  refine g_tabOut (tgt := 157) dX9_count_1 (by decide) rfl ?_
  refine g_aload_n (p0 := 158) (i := 0) dX9_count_157 rfl rfl rfl ?_
  refine g_iload_n (p0 := 159) (i := 1) dX9_count_158 rfl rfl rfl ?_
  refine g_cV1R (p0 := 162) (r1 := mX9_countOfState) dX9_count_159 lX9_250 vX9_countOfState (by first | rfl | assumption | exact RW.s (by assumption) | exact TW.s (by assumption)) ⟨_, _, rfl⟩ (FITi rfl rfl) (Nat.le_of_ble_eq_true rfl) (h) rfl ?_
  refine g_ireturn dX9_count_162 rfl rfl (?_)
  exact ⟨rfl, rfl⟩
set_option maxRecDepth 20000 in
set_option maxHeartbeats 2000000 in
theorem co_cs18 {v : Int32} {σ : Sg} (h : CM mX9_countOfState [ar 0, ai (nI 18)] σ (Ret v σ)) : CM mX9_count [ar 0, ai (nI 18)] σ (Ret v σ) := by
  refine CM_in (ls := [some (ar 0), some (ai (nI 18))]) rfl ?_
  refine g_iload_n (p0 := 1) (i := 1) dX9_count_0 rfl rfl rfl ?_
  refine g_tabOut (tgt := 157) dX9_count_1 (by decide) rfl ?_
  refine g_aload_n (p0 := 158) (i := 0) dX9_count_157 rfl rfl rfl ?_
  refine g_iload_n (p0 := 159) (i := 1) dX9_count_158 rfl rfl rfl ?_
  refine g_cV1R (p0 := 162) (r1 := mX9_countOfState) dX9_count_159 lX9_250 vX9_countOfState (by first | rfl | assumption | exact RW.s (by assumption) | exact TW.s (by assumption)) ⟨_, _, rfl⟩ (FITi rfl rfl) (Nat.le_of_ble_eq_true rfl) (h) rfl ?_
  refine g_ireturn dX9_count_162 rfl rfl (?_)
  exact ⟨rfl, rfl⟩
set_option maxRecDepth 20000 in
set_option maxHeartbeats 2000000 in
theorem co_cs19 {v : Int32} {σ : Sg} (h : CM mX9_countOfState [ar 0, ai (nI 19)] σ (Ret v σ)) : CM mX9_count [ar 0, ai (nI 19)] σ (Ret v σ) := by
  refine CM_in (ls := [some (ar 0), some (ai (nI 19))]) rfl ?_
  refine g_iload_n (p0 := 1) (i := 1) dX9_count_0 rfl rfl rfl ?_
  refine g_tabOut (tgt := 157) dX9_count_1 (by decide) rfl ?_
  refine g_aload_n (p0 := 158) (i := 0) dX9_count_157 rfl rfl rfl ?_
  refine g_iload_n (p0 := 159) (i := 1) dX9_count_158 rfl rfl rfl ?_
  refine g_cV1R (p0 := 162) (r1 := mX9_countOfState) dX9_count_159 lX9_250 vX9_countOfState (by first | rfl | assumption | exact RW.s (by assumption) | exact TW.s (by assumption)) ⟨_, _, rfl⟩ (FITi rfl rfl) (Nat.le_of_ble_eq_true rfl) (h) rfl ?_
  refine g_ireturn dX9_count_162 rfl rfl (?_)
  exact ⟨rfl, rfl⟩
set_option maxRecDepth 20000 in
set_option maxHeartbeats 2000000 in
theorem co_cs20 {v : Int32} {σ : Sg} (h : CM mX9_countOfState [ar 0, ai (nI 20)] σ (Ret v σ)) : CM mX9_count [ar 0, ai (nI 20)] σ (Ret v σ) := by
  refine CM_in (ls := [some (ar 0), some (ai (nI 20))]) rfl ?_
  refine g_iload_n (p0 := 1) (i := 1) dX9_count_0 rfl rfl rfl ?_
  refine g_tabOut (tgt := 157) dX9_count_1 (by decide) rfl ?_
  refine g_aload_n (p0 := 158) (i := 0) dX9_count_157 rfl rfl rfl ?_
  refine g_iload_n (p0 := 159) (i := 1) dX9_count_158 rfl rfl rfl ?_
  refine g_cV1R (p0 := 162) (r1 := mX9_countOfState) dX9_count_159 lX9_250 vX9_countOfState (by first | rfl | assumption | exact RW.s (by assumption) | exact TW.s (by assumption)) ⟨_, _, rfl⟩ (FITi rfl rfl) (Nat.le_of_ble_eq_true rfl) (h) rfl ?_
  refine g_ireturn dX9_count_162 rfl rfl (?_)
  exact ⟨rfl, rfl⟩
set_option maxRecDepth 20000 in
set_option maxHeartbeats 2000000 in
theorem co_cs21 {v : Int32} {σ : Sg} (h : CM mX9_countOfState [ar 0, ai (nI 21)] σ (Ret v σ)) : CM mX9_count [ar 0, ai (nI 21)] σ (Ret v σ) := by
  refine CM_in (ls := [some (ar 0), some (ai (nI 21))]) rfl ?_
  refine g_iload_n (p0 := 1) (i := 1) dX9_count_0 rfl rfl rfl ?_
  refine g_tabOut (tgt := 157) dX9_count_1 (by decide) rfl ?_
  refine g_aload_n (p0 := 158) (i := 0) dX9_count_157 rfl rfl rfl ?_
  refine g_iload_n (p0 := 159) (i := 1) dX9_count_158 rfl rfl rfl ?_
  refine g_cV1R (p0 := 162) (r1 := mX9_countOfState) dX9_count_159 lX9_250 vX9_countOfState (by first | rfl | assumption | exact RW.s (by assumption) | exact TW.s (by assumption)) ⟨_, _, rfl⟩ (FITi rfl rfl) (Nat.le_of_ble_eq_true rfl) (h) rfl ?_
  refine g_ireturn dX9_count_162 rfl rfl (?_)
  exact ⟨rfl, rfl⟩
set_option maxRecDepth 20000 in
set_option maxHeartbeats 2000000 in
theorem co_r0 {P : Sg → Prop} {v : Int32} {σ : Sg} (hly : CM mX10_lays [ar 79] σ (RelV (fun σ' => P σ' ∧ FRl σ σ'))) (hv : σ 80 3 = v) : CM mX10_count [ar 79, ai (nI 0)] σ (RPQ σ v) := by
  refine CM_in (ls := [some (ar 79), some (ai (nI 0))]) rfl ?_
  refine g_aload_n (p0 := 1) (i := 0) dX10_count_0 rfl rfl rfl ?_
  refine g_cV0P (p0 := 4) (r1 := mX10_lays) dX10_count_1 lX10_151 vX10_lays (by first | rfl | assumption | exact RW.s (by assumption) | exact TW.s (by assumption)) ⟨_, _, rfl⟩ (FITi rfl rfl) (Nat.le_of_ble_eq_true rfl) (hly) rfl ?_
  rintro σ1 ⟨hP, hf⟩
  have e80 : σ1 80 = σ 80 := hf.1 80 (by decide) (by decide)
  have w : σ1 80 3 = v := by rw [e80]; exact hv
  refine g_iload_n (p0 := 5) (i := 1) dX10_count_4 rfl rfl rfl ?_
  refine g_tabIn (tgt := 108) (off := 103) dX10_count_5 (by decide) (by decide) (by decide +kernel) rfl ?_
  refine g_aload_n (p0 := 109) (i := 0) dX10_count_108 rfl rfl rfl ?_
  refine g_getR (p0 := 112) dX10_count_109 fX10_7 (by first | rfl | assumption | exact RW.s (by assumption) | exact TW.s (by assumption)) rfl rfl ?_
  refine g_iconst (p0 := 113) (v := nI 3) dX10_count_112 rfl rfl ?_
  first | ((with_reducible refine isN1 ?_); refine g_aldN (p0 := 114) dX10_count_113 (by first | rfl | assumption | exact RW.s (by assumption) | exact TW.s (by assumption)) (by first | decide | assumption) (by omega) (by first | assumption | ((repeat (first | exact up_hit | refine up_nv (by decide) ?_ | refine up_mv (by first | decide | omega) ?_)) <;> first | assumption | rfl)) rfl ?_) | refine g_ald (p0 := 114) dX10_count_113 (by first | rfl | assumption | exact RW.s (by assumption) | exact TW.s (by assumption)) (by assumption) (by first | assumption | ((repeat (first | exact up_hit | refine up_nv (by decide) ?_ | refine up_mv (by first | decide | omega) ?_)) <;> first | assumption | rfl)) rfl ?_
  refine g_ireturn dX10_count_114 rfl rfl (?_)
  exact ⟨rfl, hf.fq⟩
set_option maxRecDepth 20000 in
set_option maxHeartbeats 2000000 in
theorem co_r1 {P : Sg → Prop} {v : Int32} {σ : Sg} (hly : CM mX10_lays [ar 79] σ (RelV (fun σ' => P σ' ∧ FRl σ σ'))) (hv : ∀ σ', P σ' → σ' 79 11 = v) : CM mX10_count [ar 79, ai (nI 1)] σ (RPQ σ v) := by
  refine CM_in (ls := [some (ar 79), some (ai (nI 1))]) rfl ?_
  refine g_aload_n (p0 := 1) (i := 0) dX10_count_0 rfl rfl rfl ?_
  refine g_cV0P (p0 := 4) (r1 := mX10_lays) dX10_count_1 lX10_151 vX10_lays (by first | rfl | assumption | exact RW.s (by assumption) | exact TW.s (by assumption)) ⟨_, _, rfl⟩ (FITi rfl rfl) (Nat.le_of_ble_eq_true rfl) (hly) rfl ?_
  rintro σ1 ⟨hP, hf⟩
  have w := hv σ1 hP
  refine g_iload_n (p0 := 5) (i := 1) dX10_count_4 rfl rfl rfl ?_
  refine g_tabIn (tgt := 115) (off := 110) dX10_count_5 (by decide) (by decide) (by decide +kernel) rfl ?_
  refine g_aload_n (p0 := 116) (i := 0) dX10_count_115 rfl rfl rfl ?_
  refine g_getI (p0 := 119) dX10_count_116 fX10_121 (by first | rfl | assumption | exact RW.s (by assumption) | exact TW.s (by assumption)) rfl (by first | assumption | ((repeat (first | exact up_hit | refine up_nv (by decide) ?_ | refine up_mv (by first | decide | omega) ?_)) <;> first | assumption | rfl)) rfl ?_
  refine g_ireturn dX10_count_119 rfl rfl (?_)
  exact ⟨rfl, hf.fq⟩
set_option maxRecDepth 20000 in
set_option maxHeartbeats 2000000 in
theorem co_r2 {P : Sg → Prop} {v : Int32} {σ : Sg} (hly : CM mX10_lays [ar 79] σ (RelV (fun σ' => P σ' ∧ FRl σ σ'))) (hv : ∀ σ', P σ' → σ' 79 12 = v) : CM mX10_count [ar 79, ai (nI 2)] σ (RPQ σ v) := by
  refine CM_in (ls := [some (ar 79), some (ai (nI 2))]) rfl ?_
  refine g_aload_n (p0 := 1) (i := 0) dX10_count_0 rfl rfl rfl ?_
  refine g_cV0P (p0 := 4) (r1 := mX10_lays) dX10_count_1 lX10_151 vX10_lays (by first | rfl | assumption | exact RW.s (by assumption) | exact TW.s (by assumption)) ⟨_, _, rfl⟩ (FITi rfl rfl) (Nat.le_of_ble_eq_true rfl) (hly) rfl ?_
  rintro σ1 ⟨hP, hf⟩
  have w := hv σ1 hP
  refine g_iload_n (p0 := 5) (i := 1) dX10_count_4 rfl rfl rfl ?_
  refine g_tabIn (tgt := 120) (off := 115) dX10_count_5 (by decide) (by decide) (by decide +kernel) rfl ?_
  refine g_aload_n (p0 := 121) (i := 0) dX10_count_120 rfl rfl rfl ?_
  refine g_getI (p0 := 124) dX10_count_121 fX10_118 (by first | rfl | assumption | exact RW.s (by assumption) | exact TW.s (by assumption)) rfl (by first | assumption | ((repeat (first | exact up_hit | refine up_nv (by decide) ?_ | refine up_mv (by first | decide | omega) ?_)) <;> first | assumption | rfl)) rfl ?_
  refine g_ireturn dX10_count_124 rfl rfl (?_)
  exact ⟨rfl, hf.fq⟩
set_option maxRecDepth 20000 in
set_option maxHeartbeats 2000000 in
theorem co_r3 {P : Sg → Prop} {v : Int32} {σ : Sg} (hly : CM mX10_lays [ar 79] σ (RelV (fun σ' => P σ' ∧ FRl σ σ'))) (hv : ∀ σ', P σ' → CM mX10_sums [ar 79, ai (nI 3)] σ' (Ret v σ')) : CM mX10_count [ar 79, ai (nI 3)] σ (RPQ σ v) := by
  refine CM_in (ls := [some (ar 79), some (ai (nI 3))]) rfl ?_
  refine g_aload_n (p0 := 1) (i := 0) dX10_count_0 rfl rfl rfl ?_
  refine g_cV0P (p0 := 4) (r1 := mX10_lays) dX10_count_1 lX10_151 vX10_lays (by first | rfl | assumption | exact RW.s (by assumption) | exact TW.s (by assumption)) ⟨_, _, rfl⟩ (FITi rfl rfl) (Nat.le_of_ble_eq_true rfl) (hly) rfl ?_
  rintro σ1 ⟨hP, hf⟩
  have w := hv σ1 hP
  refine g_iload_n (p0 := 5) (i := 1) dX10_count_4 rfl rfl rfl ?_
  refine g_tabIn (tgt := 125) (off := 120) dX10_count_5 (by decide) (by decide) (by decide +kernel) rfl ?_
  refine g_aload_n (p0 := 126) (i := 0) dX10_count_125 rfl rfl rfl ?_
  refine g_iload_n (p0 := 127) (i := 1) dX10_count_126 rfl rfl rfl ?_
  refine g_cV1R (p0 := 130) (r1 := mX10_sums) dX10_count_127 lX10_184 vX10_sums (by first | rfl | assumption | exact RW.s (by assumption) | exact TW.s (by assumption)) ⟨_, _, rfl⟩ (FITi rfl rfl) (Nat.le_of_ble_eq_true rfl) (w) rfl ?_
  refine g_ireturn dX10_count_130 rfl rfl (?_)
  exact ⟨rfl, hf.fq⟩
set_option maxRecDepth 20000 in
set_option maxHeartbeats 2000000 in
theorem co_r4 {P : Sg → Prop} {v : Int32} {σ : Sg} (hly : CM mX10_lays [ar 79] σ (RelV (fun σ' => P σ' ∧ FRl σ σ'))) (hv : ∀ σ', P σ' → CM mX10_sums [ar 79, ai (nI 4)] σ' (Ret v σ')) : CM mX10_count [ar 79, ai (nI 4)] σ (RPQ σ v) := by
  refine CM_in (ls := [some (ar 79), some (ai (nI 4))]) rfl ?_
  refine g_aload_n (p0 := 1) (i := 0) dX10_count_0 rfl rfl rfl ?_
  refine g_cV0P (p0 := 4) (r1 := mX10_lays) dX10_count_1 lX10_151 vX10_lays (by first | rfl | assumption | exact RW.s (by assumption) | exact TW.s (by assumption)) ⟨_, _, rfl⟩ (FITi rfl rfl) (Nat.le_of_ble_eq_true rfl) (hly) rfl ?_
  rintro σ1 ⟨hP, hf⟩
  have w := hv σ1 hP
  refine g_iload_n (p0 := 5) (i := 1) dX10_count_4 rfl rfl rfl ?_
  refine g_tabIn (tgt := 125) (off := 120) dX10_count_5 (by decide) (by decide) (by decide +kernel) rfl ?_
  refine g_aload_n (p0 := 126) (i := 0) dX10_count_125 rfl rfl rfl ?_
  refine g_iload_n (p0 := 127) (i := 1) dX10_count_126 rfl rfl rfl ?_
  refine g_cV1R (p0 := 130) (r1 := mX10_sums) dX10_count_127 lX10_184 vX10_sums (by first | rfl | assumption | exact RW.s (by assumption) | exact TW.s (by assumption)) ⟨_, _, rfl⟩ (FITi rfl rfl) (Nat.le_of_ble_eq_true rfl) (w) rfl ?_
  refine g_ireturn dX10_count_130 rfl rfl (?_)
  exact ⟨rfl, hf.fq⟩
set_option maxRecDepth 20000 in
set_option maxHeartbeats 2000000 in
theorem co_r5 {P : Sg → Prop} {v : Int32} {σ : Sg} (hly : CM mX10_lays [ar 79] σ (RelV (fun σ' => P σ' ∧ FRl σ σ'))) (hv : ∀ σ', P σ' → CM mX10_sums [ar 79, ai (nI 5)] σ' (Ret v σ')) : CM mX10_count [ar 79, ai (nI 5)] σ (RPQ σ v) := by
  refine CM_in (ls := [some (ar 79), some (ai (nI 5))]) rfl ?_
  refine g_aload_n (p0 := 1) (i := 0) dX10_count_0 rfl rfl rfl ?_
  refine g_cV0P (p0 := 4) (r1 := mX10_lays) dX10_count_1 lX10_151 vX10_lays (by first | rfl | assumption | exact RW.s (by assumption) | exact TW.s (by assumption)) ⟨_, _, rfl⟩ (FITi rfl rfl) (Nat.le_of_ble_eq_true rfl) (hly) rfl ?_
  rintro σ1 ⟨hP, hf⟩
  have w := hv σ1 hP
  refine g_iload_n (p0 := 5) (i := 1) dX10_count_4 rfl rfl rfl ?_
  refine g_tabIn (tgt := 125) (off := 120) dX10_count_5 (by decide) (by decide) (by decide +kernel) rfl ?_
  refine g_aload_n (p0 := 126) (i := 0) dX10_count_125 rfl rfl rfl ?_
  refine g_iload_n (p0 := 127) (i := 1) dX10_count_126 rfl rfl rfl ?_
  refine g_cV1R (p0 := 130) (r1 := mX10_sums) dX10_count_127 lX10_184 vX10_sums (by first | rfl | assumption | exact RW.s (by assumption) | exact TW.s (by assumption)) ⟨_, _, rfl⟩ (FITi rfl rfl) (Nat.le_of_ble_eq_true rfl) (w) rfl ?_
  refine g_ireturn dX10_count_130 rfl rfl (?_)
  exact ⟨rfl, hf.fq⟩
set_option maxRecDepth 20000 in
set_option maxHeartbeats 2000000 in
theorem co_r6 {P : Sg → Prop} {v : Int32} {σ : Sg} (hly : CM mX10_lays [ar 79] σ (RelV (fun σ' => P σ' ∧ FRl σ σ'))) (hv : ∀ σ', P σ' → CM mX10_sums [ar 79, ai (nI 6)] σ' (Ret v σ')) : CM mX10_count [ar 79, ai (nI 6)] σ (RPQ σ v) := by
  refine CM_in (ls := [some (ar 79), some (ai (nI 6))]) rfl ?_
  refine g_aload_n (p0 := 1) (i := 0) dX10_count_0 rfl rfl rfl ?_
  refine g_cV0P (p0 := 4) (r1 := mX10_lays) dX10_count_1 lX10_151 vX10_lays (by first | rfl | assumption | exact RW.s (by assumption) | exact TW.s (by assumption)) ⟨_, _, rfl⟩ (FITi rfl rfl) (Nat.le_of_ble_eq_true rfl) (hly) rfl ?_
  rintro σ1 ⟨hP, hf⟩
  have w := hv σ1 hP
  refine g_iload_n (p0 := 5) (i := 1) dX10_count_4 rfl rfl rfl ?_
  refine g_tabIn (tgt := 125) (off := 120) dX10_count_5 (by decide) (by decide) (by decide +kernel) rfl ?_
  refine g_aload_n (p0 := 126) (i := 0) dX10_count_125 rfl rfl rfl ?_
  refine g_iload_n (p0 := 127) (i := 1) dX10_count_126 rfl rfl rfl ?_
  refine g_cV1R (p0 := 130) (r1 := mX10_sums) dX10_count_127 lX10_184 vX10_sums (by first | rfl | assumption | exact RW.s (by assumption) | exact TW.s (by assumption)) ⟨_, _, rfl⟩ (FITi rfl rfl) (Nat.le_of_ble_eq_true rfl) (w) rfl ?_
  refine g_ireturn dX10_count_130 rfl rfl (?_)
  exact ⟨rfl, hf.fq⟩
set_option maxRecDepth 20000 in
set_option maxHeartbeats 2000000 in
theorem co_r7 {P : Sg → Prop} {v : Int32} {σ : Sg} (hly : CM mX10_lays [ar 79] σ (RelV (fun σ' => P σ' ∧ FRl σ σ'))) (hv : ∀ σ', P σ' → CM mX10_sums [ar 79, ai (nI 7)] σ' (Ret v σ')) : CM mX10_count [ar 79, ai (nI 7)] σ (RPQ σ v) := by
  refine CM_in (ls := [some (ar 79), some (ai (nI 7))]) rfl ?_
  refine g_aload_n (p0 := 1) (i := 0) dX10_count_0 rfl rfl rfl ?_
  refine g_cV0P (p0 := 4) (r1 := mX10_lays) dX10_count_1 lX10_151 vX10_lays (by first | rfl | assumption | exact RW.s (by assumption) | exact TW.s (by assumption)) ⟨_, _, rfl⟩ (FITi rfl rfl) (Nat.le_of_ble_eq_true rfl) (hly) rfl ?_
  rintro σ1 ⟨hP, hf⟩
  have w := hv σ1 hP
  refine g_iload_n (p0 := 5) (i := 1) dX10_count_4 rfl rfl rfl ?_
  refine g_tabIn (tgt := 125) (off := 120) dX10_count_5 (by decide) (by decide) (by decide +kernel) rfl ?_
  refine g_aload_n (p0 := 126) (i := 0) dX10_count_125 rfl rfl rfl ?_
  refine g_iload_n (p0 := 127) (i := 1) dX10_count_126 rfl rfl rfl ?_
  refine g_cV1R (p0 := 130) (r1 := mX10_sums) dX10_count_127 lX10_184 vX10_sums (by first | rfl | assumption | exact RW.s (by assumption) | exact TW.s (by assumption)) ⟨_, _, rfl⟩ (FITi rfl rfl) (Nat.le_of_ble_eq_true rfl) (w) rfl ?_
  refine g_ireturn dX10_count_130 rfl rfl (?_)
  exact ⟨rfl, hf.fq⟩
set_option maxRecDepth 20000 in
set_option maxHeartbeats 2000000 in
theorem co_r8 {P : Sg → Prop} {v : Int32} {σ : Sg} (hly : CM mX10_lays [ar 79] σ (RelV (fun σ' => P σ' ∧ FRl σ σ'))) (hv : σ 80 2 = v) : CM mX10_count [ar 79, ai (nI 8)] σ (RPQ σ v) := by
  refine CM_in (ls := [some (ar 79), some (ai (nI 8))]) rfl ?_
  refine g_aload_n (p0 := 1) (i := 0) dX10_count_0 rfl rfl rfl ?_
  refine g_cV0P (p0 := 4) (r1 := mX10_lays) dX10_count_1 lX10_151 vX10_lays (by first | rfl | assumption | exact RW.s (by assumption) | exact TW.s (by assumption)) ⟨_, _, rfl⟩ (FITi rfl rfl) (Nat.le_of_ble_eq_true rfl) (hly) rfl ?_
  rintro σ1 ⟨hP, hf⟩
  have e80 : σ1 80 = σ 80 := hf.1 80 (by decide) (by decide)
  have w : σ1 80 2 = v := by rw [e80]; exact hv
  refine g_iload_n (p0 := 5) (i := 1) dX10_count_4 rfl rfl rfl ?_
  refine g_tabIn (tgt := 131) (off := 126) dX10_count_5 (by decide) (by decide) (by decide +kernel) rfl ?_
  refine g_aload_n (p0 := 132) (i := 0) dX10_count_131 rfl rfl rfl ?_
  refine g_getR (p0 := 135) dX10_count_132 fX10_7 (by first | rfl | assumption | exact RW.s (by assumption) | exact TW.s (by assumption)) rfl rfl ?_
  refine g_iconst (p0 := 136) (v := nI 2) dX10_count_135 rfl rfl ?_
  first | ((with_reducible refine isN1 ?_); refine g_aldN (p0 := 137) dX10_count_136 (by first | rfl | assumption | exact RW.s (by assumption) | exact TW.s (by assumption)) (by first | decide | assumption) (by omega) (by first | assumption | ((repeat (first | exact up_hit | refine up_nv (by decide) ?_ | refine up_mv (by first | decide | omega) ?_)) <;> first | assumption | rfl)) rfl ?_) | refine g_ald (p0 := 137) dX10_count_136 (by first | rfl | assumption | exact RW.s (by assumption) | exact TW.s (by assumption)) (by assumption) (by first | assumption | ((repeat (first | exact up_hit | refine up_nv (by decide) ?_ | refine up_mv (by first | decide | omega) ?_)) <;> first | assumption | rfl)) rfl ?_
  refine g_ireturn dX10_count_137 rfl rfl (?_)
  exact ⟨rfl, hf.fq⟩
set_option maxRecDepth 20000 in
set_option maxHeartbeats 2000000 in
theorem co_r9z {P : Sg → Prop} {σ : Sg} (hly : CM mX10_lays [ar 79] σ (RelV (fun σ' => P σ' ∧ FRl σ σ'))) (hv : σ 80 3 = nI 0) : CM mX10_count [ar 79, ai (nI 9)] σ (RPQ σ (-1000004)) := by
  refine CM_in (ls := [some (ar 79), some (ai (nI 9))]) rfl ?_
  refine g_aload_n (p0 := 1) (i := 0) dX10_count_0 rfl rfl rfl ?_
  refine g_cV0P (p0 := 4) (r1 := mX10_lays) dX10_count_1 lX10_151 vX10_lays (by first | rfl | assumption | exact RW.s (by assumption) | exact TW.s (by assumption)) ⟨_, _, rfl⟩ (FITi rfl rfl) (Nat.le_of_ble_eq_true rfl) (hly) rfl ?_
  rintro σ1 ⟨hP, hf⟩
  have e80 : σ1 80 = σ 80 := hf.1 80 (by decide) (by decide)
  have w : σ1 80 3 = nI 0 := by rw [e80]; exact hv
  refine g_iload_n (p0 := 5) (i := 1) dX10_count_4 rfl rfl rfl ?_
  refine g_tabIn (tgt := 138) (off := 133) dX10_count_5 (by decide) (by decide) (by decide +kernel) rfl ?_
  refine g_aload_n (p0 := 139) (i := 0) dX10_count_138 rfl rfl rfl ?_
  refine g_getR (p0 := 142) dX10_count_139 fX10_7 (by first | rfl | assumption | exact RW.s (by assumption) | exact TW.s (by assumption)) rfl rfl ?_
  refine g_iconst (p0 := 143) (v := nI 3) dX10_count_142 rfl rfl ?_
  first | ((with_reducible refine isN1 ?_); refine g_aldN (p0 := 144) dX10_count_143 (by first | rfl | assumption | exact RW.s (by assumption) | exact TW.s (by assumption)) (by first | decide | assumption) (by omega) (by first | assumption | ((repeat (first | exact up_hit | refine up_nv (by decide) ?_ | refine up_mv (by first | decide | omega) ?_)) <;> first | assumption | rfl)) rfl ?_) | refine g_ald (p0 := 144) dX10_count_143 (by first | rfl | assumption | exact RW.s (by assumption) | exact TW.s (by assumption)) (by assumption) (by first | assumption | ((repeat (first | exact up_hit | refine up_nv (by decide) ?_ | refine up_mv (by first | decide | omega) ?_)) <;> first | assumption | rfl)) rfl ?_
  first | ((with_reducible refine isN1 ?_); refine g_ifN_ne (tgt := 152) (p1 := 147) dX10_count_144 rfl (by omega) rfl (fun c_144 => by exfalso; first | omega | contradiction | exact absurd (by assumption) c_144 | (simp_all; done)) (fun c_144 => ?_)) | refine g_if_ne (tgt := 152) (p1 := 147) dX10_count_144 rfl rfl (fun c_144 => by exfalso; first | omega | contradiction | exact absurd (by assumption) c_144 | (simp_all; done)) (fun c_144 => ?_)
  refine g_ldc (p0 := 149) dX10_count_147 qX10_154 rfl ?_
  refine g_goto (tgt := 168) dX10_count_149 rfl ?_
  refine g_ireturn dX10_count_168 rfl rfl (?_)
  exact ⟨rfl, hf.fq⟩
set_option maxRecDepth 20000 in
set_option maxHeartbeats 2000000 in
theorem co_r9 {P : Sg → Prop} {v : Int32} {σ : Sg} (hly : CM mX10_lays [ar 79] σ (RelV (fun σ' => P σ' ∧ FRl σ σ'))) {s : Nat} (hs : σ 80 3 = nI s) (h0 : 0 < s) (h1 : s ≤ 160) (hv : σ 80 (28 + s) = v) : CM mX10_count [ar 79, ai (nI 9)] σ (RPQ σ v) := by
  refine CM_in (ls := [some (ar 79), some (ai (nI 9))]) rfl ?_
  refine g_aload_n (p0 := 1) (i := 0) dX10_count_0 rfl rfl rfl ?_
  refine g_cV0P (p0 := 4) (r1 := mX10_lays) dX10_count_1 lX10_151 vX10_lays (by first | rfl | assumption | exact RW.s (by assumption) | exact TW.s (by assumption)) ⟨_, _, rfl⟩ (FITi rfl rfl) (Nat.le_of_ble_eq_true rfl) (hly) rfl ?_
  rintro σ1 ⟨hP, hf⟩
  have e80 : σ1 80 = σ 80 := hf.1 80 (by decide) (by decide)
  have w1 : σ1 80 3 = nI s := by rw [e80]; exact hs
  have w2 : σ1 80 (29 + s - 1) = v := by rw [e80, show 29 + s - 1 = 28 + s by omega]; exact hv
  refine g_iload_n (p0 := 5) (i := 1) dX10_count_4 rfl rfl rfl ?_
  refine g_tabIn (tgt := 138) (off := 133) dX10_count_5 (by decide) (by decide) (by decide +kernel) rfl ?_
  refine g_aload_n (p0 := 139) (i := 0) dX10_count_138 rfl rfl rfl ?_
  refine g_getR (p0 := 142) dX10_count_139 fX10_7 (by first | rfl | assumption | exact RW.s (by assumption) | exact TW.s (by assumption)) rfl rfl ?_
  refine g_iconst (p0 := 143) (v := nI 3) dX10_count_142 rfl rfl ?_
  first | ((with_reducible refine isN1 ?_); refine g_aldN (p0 := 144) dX10_count_143 (by first | rfl | assumption | exact RW.s (by assumption) | exact TW.s (by assumption)) (by first | decide | assumption) (by omega) (by first | assumption | ((repeat (first | exact up_hit | refine up_nv (by decide) ?_ | refine up_mv (by first | decide | omega) ?_)) <;> first | assumption | rfl)) rfl ?_) | refine g_ald (p0 := 144) dX10_count_143 (by first | rfl | assumption | exact RW.s (by assumption) | exact TW.s (by assumption)) (by assumption) (by first | assumption | ((repeat (first | exact up_hit | refine up_nv (by decide) ?_ | refine up_mv (by first | decide | omega) ?_)) <;> first | assumption | rfl)) rfl ?_
  first | ((with_reducible refine isN1 ?_); refine g_ifN_ne (tgt := 152) (p1 := 147) dX10_count_144 rfl (by omega) rfl (fun c_144 => ?_) (fun c_144 => by exfalso; first | omega | contradiction | exact absurd (by assumption) c_144 | (simp_all; done))) | refine g_if_ne (tgt := 152) (p1 := 147) dX10_count_144 rfl rfl (fun c_144 => ?_) (fun c_144 => by exfalso; first | omega | contradiction | exact absurd (by assumption) c_144 | (simp_all; done))
  refine g_aload_n (p0 := 153) (i := 0) dX10_count_152 rfl rfl rfl ?_
  refine g_getR (p0 := 156) dX10_count_153 fX10_7 (by first | rfl | assumption | exact RW.s (by assumption) | exact TW.s (by assumption)) rfl rfl ?_
  refine g_bipush (p0 := 158) (v := nI 29) dX10_count_156 (by decide) rfl ?_
  refine g_aload_n (p0 := 159) (i := 0) dX10_count_158 rfl rfl rfl ?_
  refine g_getR (p0 := 162) dX10_count_159 fX10_7 (by first | rfl | assumption | exact RW.s (by assumption) | exact TW.s (by assumption)) rfl rfl ?_
  refine g_iconst (p0 := 163) (v := nI 3) dX10_count_162 rfl rfl ?_
  first | ((with_reducible refine isN1 ?_); refine g_aldN (p0 := 164) dX10_count_163 (by first | rfl | assumption | exact RW.s (by assumption) | exact TW.s (by assumption)) (by first | decide | assumption) (by omega) (by first | assumption | ((repeat (first | exact up_hit | refine up_nv (by decide) ?_ | refine up_mv (by first | decide | omega) ?_)) <;> first | assumption | rfl)) rfl ?_) | refine g_ald (p0 := 164) dX10_count_163 (by first | rfl | assumption | exact RW.s (by assumption) | exact TW.s (by assumption)) (by assumption) (by first | assumption | ((repeat (first | exact up_hit | refine up_nv (by decide) ?_ | refine up_mv (by first | decide | omega) ?_)) <;> first | assumption | rfl)) rfl ?_
  first | ((with_reducible refine isN2 ?_); refine g_iaddN (p0 := 165) dX10_count_164 rfl ?_) | refine g_iadd (p0 := 165) dX10_count_164 rfl ?_
  refine g_iconst (p0 := 166) (v := nI 1) dX10_count_165 rfl rfl ?_
  first | ((with_reducible refine isN2 ?_); refine g_isubN (p0 := 167) dX10_count_166 (by omega) rfl ?_) | refine g_isub (p0 := 167) dX10_count_166 rfl ?_
  first | ((with_reducible refine isN1 ?_); refine g_aldN (p0 := 168) dX10_count_167 (by first | rfl | assumption | exact RW.s (by assumption) | exact TW.s (by assumption)) (by first | decide | assumption) (by omega) (by first | assumption | ((repeat (first | exact up_hit | refine up_nv (by decide) ?_ | refine up_mv (by first | decide | omega) ?_)) <;> first | assumption | rfl)) rfl ?_) | refine g_ald (p0 := 168) dX10_count_167 (by first | rfl | assumption | exact RW.s (by assumption) | exact TW.s (by assumption)) (by assumption) (by first | assumption | ((repeat (first | exact up_hit | refine up_nv (by decide) ?_ | refine up_mv (by first | decide | omega) ?_)) <;> first | assumption | rfl)) rfl ?_
  refine g_ireturn dX10_count_168 rfl rfl (?_)
  exact ⟨rfl, hf.fq⟩
set_option maxRecDepth 20000 in
set_option maxHeartbeats 2000000 in
theorem co_r10 {P : Sg → Prop} {v : Int32} {σ : Sg} (hly : CM mX10_lays [ar 79] σ (RelV (fun σ' => P σ' ∧ FRl σ σ'))) (hv : σ 79 3 = v) : CM mX10_count [ar 79, ai (nI 10)] σ (RPQ σ v) := by
  refine CM_in (ls := [some (ar 79), some (ai (nI 10))]) rfl ?_
  refine g_aload_n (p0 := 1) (i := 0) dX10_count_0 rfl rfl rfl ?_
  refine g_cV0P (p0 := 4) (r1 := mX10_lays) dX10_count_1 lX10_151 vX10_lays (by first | rfl | assumption | exact RW.s (by assumption) | exact TW.s (by assumption)) ⟨_, _, rfl⟩ (FITi rfl rfl) (Nat.le_of_ble_eq_true rfl) (hly) rfl ?_
  rintro σ1 ⟨hP, hf⟩
  have w : σ1 79 3 = v := (hf.2 3 (by decide) (by decide)).trans hv
  refine g_iload_n (p0 := 5) (i := 1) dX10_count_4 rfl rfl rfl ?_
  refine g_tabIn (tgt := 169) (off := 164) dX10_count_5 (by decide) (by decide) (by decide +kernel) rfl ?_
  refine g_aload_n (p0 := 170) (i := 0) dX10_count_169 rfl rfl rfl ?_
  refine g_getI (p0 := 173) dX10_count_170 fX10_61 (by first | rfl | assumption | exact RW.s (by assumption) | exact TW.s (by assumption)) rfl (by first | assumption | ((repeat (first | exact up_hit | refine up_nv (by decide) ?_ | refine up_mv (by first | decide | omega) ?_)) <;> first | assumption | rfl)) rfl ?_
  refine g_ireturn dX10_count_173 rfl rfl (?_)
  exact ⟨rfl, hf.fq⟩
set_option maxRecDepth 20000 in
set_option maxHeartbeats 2000000 in
theorem co_r11 {P : Sg → Prop} {v : Int32} {σ : Sg} (hly : CM mX10_lays [ar 79] σ (RelV (fun σ' => P σ' ∧ FRl σ σ'))) (hv : σ 79 5 = v) : CM mX10_count [ar 79, ai (nI 11)] σ (RPQ σ v) := by
  refine CM_in (ls := [some (ar 79), some (ai (nI 11))]) rfl ?_
  refine g_aload_n (p0 := 1) (i := 0) dX10_count_0 rfl rfl rfl ?_
  refine g_cV0P (p0 := 4) (r1 := mX10_lays) dX10_count_1 lX10_151 vX10_lays (by first | rfl | assumption | exact RW.s (by assumption) | exact TW.s (by assumption)) ⟨_, _, rfl⟩ (FITi rfl rfl) (Nat.le_of_ble_eq_true rfl) (hly) rfl ?_
  rintro σ1 ⟨hP, hf⟩
  have w : σ1 79 5 = v := (hf.2 5 (by decide) (by decide)).trans hv
  refine g_iload_n (p0 := 5) (i := 1) dX10_count_4 rfl rfl rfl ?_
  refine g_tabIn (tgt := 174) (off := 169) dX10_count_5 (by decide) (by decide) (by decide +kernel) rfl ?_
  refine g_aload_n (p0 := 175) (i := 0) dX10_count_174 rfl rfl rfl ?_
  refine g_getI (p0 := 178) dX10_count_175 fX10_187 (by first | rfl | assumption | exact RW.s (by assumption) | exact TW.s (by assumption)) rfl (by first | assumption | ((repeat (first | exact up_hit | refine up_nv (by decide) ?_ | refine up_mv (by first | decide | omega) ?_)) <;> first | assumption | rfl)) rfl ?_
  refine g_ireturn dX10_count_178 rfl rfl (?_)
  exact ⟨rfl, hf.fq⟩
set_option maxRecDepth 20000 in
set_option maxHeartbeats 2000000 in
theorem co_r20 {P : Sg → Prop} {v : Int32} {σ : Sg} (hly : CM mX10_lays [ar 79] σ (RelV (fun σ' => P σ' ∧ FRl σ σ'))) (hv : σ 80 0 = v) : CM mX10_count [ar 79, ai (nI 20)] σ (RPQ σ v) := by
  refine CM_in (ls := [some (ar 79), some (ai (nI 20))]) rfl ?_
  refine g_aload_n (p0 := 1) (i := 0) dX10_count_0 rfl rfl rfl ?_
  refine g_cV0P (p0 := 4) (r1 := mX10_lays) dX10_count_1 lX10_151 vX10_lays (by first | rfl | assumption | exact RW.s (by assumption) | exact TW.s (by assumption)) ⟨_, _, rfl⟩ (FITi rfl rfl) (Nat.le_of_ble_eq_true rfl) (hly) rfl ?_
  rintro σ1 ⟨hP, hf⟩
  have e80 : σ1 80 = σ 80 := hf.1 80 (by decide) (by decide)
  have w : σ1 80 0 = v := by rw [e80]; exact hv
  refine g_iload_n (p0 := 5) (i := 1) dX10_count_4 rfl rfl rfl ?_
  refine g_tabIn (tgt := 179) (off := 174) dX10_count_5 (by decide) (by decide) (by decide +kernel) rfl ?_
  refine g_aload_n (p0 := 180) (i := 0) dX10_count_179 rfl rfl rfl ?_
  refine g_getR (p0 := 183) dX10_count_180 fX10_7 (by first | rfl | assumption | exact RW.s (by assumption) | exact TW.s (by assumption)) rfl rfl ?_
  refine g_iload_n (p0 := 184) (i := 1) dX10_count_183 rfl rfl rfl ?_
  refine g_bipush (p0 := 186) (v := nI 20) dX10_count_184 (by decide) rfl ?_
  first | ((with_reducible refine isN2 ?_); refine g_isubN (p0 := 187) dX10_count_186 (by omega) rfl ?_) | refine g_isub (p0 := 187) dX10_count_186 rfl ?_
  first | ((with_reducible refine isN1 ?_); refine g_aldN (p0 := 188) dX10_count_187 (by first | rfl | assumption | exact RW.s (by assumption) | exact TW.s (by assumption)) (by first | decide | assumption) (by omega) (by first | assumption | ((repeat (first | exact up_hit | refine up_nv (by decide) ?_ | refine up_mv (by first | decide | omega) ?_)) <;> first | assumption | rfl)) rfl ?_) | refine g_ald (p0 := 188) dX10_count_187 (by first | rfl | assumption | exact RW.s (by assumption) | exact TW.s (by assumption)) (by assumption) (by first | assumption | ((repeat (first | exact up_hit | refine up_nv (by decide) ?_ | refine up_mv (by first | decide | omega) ?_)) <;> first | assumption | rfl)) rfl ?_
  refine g_ireturn dX10_count_188 rfl rfl (?_)
  exact ⟨rfl, hf.fq⟩
set_option maxRecDepth 20000 in
set_option maxHeartbeats 2000000 in
theorem co_r21 {P : Sg → Prop} {v : Int32} {σ : Sg} (hly : CM mX10_lays [ar 79] σ (RelV (fun σ' => P σ' ∧ FRl σ σ'))) (hv : σ 80 1 = v) : CM mX10_count [ar 79, ai (nI 21)] σ (RPQ σ v) := by
  refine CM_in (ls := [some (ar 79), some (ai (nI 21))]) rfl ?_
  refine g_aload_n (p0 := 1) (i := 0) dX10_count_0 rfl rfl rfl ?_
  refine g_cV0P (p0 := 4) (r1 := mX10_lays) dX10_count_1 lX10_151 vX10_lays (by first | rfl | assumption | exact RW.s (by assumption) | exact TW.s (by assumption)) ⟨_, _, rfl⟩ (FITi rfl rfl) (Nat.le_of_ble_eq_true rfl) (hly) rfl ?_
  rintro σ1 ⟨hP, hf⟩
  have e80 : σ1 80 = σ 80 := hf.1 80 (by decide) (by decide)
  have w : σ1 80 1 = v := by rw [e80]; exact hv
  refine g_iload_n (p0 := 5) (i := 1) dX10_count_4 rfl rfl rfl ?_
  refine g_tabIn (tgt := 179) (off := 174) dX10_count_5 (by decide) (by decide) (by decide +kernel) rfl ?_
  refine g_aload_n (p0 := 180) (i := 0) dX10_count_179 rfl rfl rfl ?_
  refine g_getR (p0 := 183) dX10_count_180 fX10_7 (by first | rfl | assumption | exact RW.s (by assumption) | exact TW.s (by assumption)) rfl rfl ?_
  refine g_iload_n (p0 := 184) (i := 1) dX10_count_183 rfl rfl rfl ?_
  refine g_bipush (p0 := 186) (v := nI 20) dX10_count_184 (by decide) rfl ?_
  first | ((with_reducible refine isN2 ?_); refine g_isubN (p0 := 187) dX10_count_186 (by omega) rfl ?_) | refine g_isub (p0 := 187) dX10_count_186 rfl ?_
  first | ((with_reducible refine isN1 ?_); refine g_aldN (p0 := 188) dX10_count_187 (by first | rfl | assumption | exact RW.s (by assumption) | exact TW.s (by assumption)) (by first | decide | assumption) (by omega) (by first | assumption | ((repeat (first | exact up_hit | refine up_nv (by decide) ?_ | refine up_mv (by first | decide | omega) ?_)) <;> first | assumption | rfl)) rfl ?_) | refine g_ald (p0 := 188) dX10_count_187 (by first | rfl | assumption | exact RW.s (by assumption) | exact TW.s (by assumption)) (by assumption) (by first | assumption | ((repeat (first | exact up_hit | refine up_nv (by decide) ?_ | refine up_mv (by first | decide | omega) ?_)) <;> first | assumption | rfl)) rfl ?_
  refine g_ireturn dX10_count_188 rfl rfl (?_)
  exact ⟨rfl, hf.fq⟩
set_option maxRecDepth 20000 in
set_option maxHeartbeats 2000000 in
theorem co_r12 {P : Sg → Prop} {σ : Sg} (hly : CM mX10_lays [ar 79] σ (RelV (fun σ' => P σ' ∧ FRl σ σ')))  : CM mX10_count [ar 79, ai (nI 12)] σ (RPQ σ (-1000001)) := by
  refine CM_in (ls := [some (ar 79), some (ai (nI 12))]) rfl ?_
  refine g_aload_n (p0 := 1) (i := 0) dX10_count_0 rfl rfl rfl ?_
  refine g_cV0P (p0 := 4) (r1 := mX10_lays) dX10_count_1 lX10_151 vX10_lays (by first | rfl | assumption | exact RW.s (by assumption) | exact TW.s (by assumption)) ⟨_, _, rfl⟩ (FITi rfl rfl) (Nat.le_of_ble_eq_true rfl) (hly) rfl ?_
  rintro σ1 ⟨hP, hf⟩
  refine g_iload_n (p0 := 5) (i := 1) dX10_count_4 rfl rfl rfl ?_
  refine g_tabIn (tgt := 189) (off := 184) dX10_count_5 (by decide) (by decide) (by decide +kernel) rfl ?_
  refine g_ldc (p0 := 191) dX10_count_189 qX10_76 rfl ?_
  refine g_ireturn dX10_count_191 rfl rfl (?_)
  exact ⟨rfl, hf.fq⟩
set_option maxRecDepth 20000 in
set_option maxHeartbeats 2000000 in
theorem co_r13 {P : Sg → Prop} {σ : Sg} (hly : CM mX10_lays [ar 79] σ (RelV (fun σ' => P σ' ∧ FRl σ σ')))  : CM mX10_count [ar 79, ai (nI 13)] σ (RPQ σ (-1000001)) := by
  refine CM_in (ls := [some (ar 79), some (ai (nI 13))]) rfl ?_
  refine g_aload_n (p0 := 1) (i := 0) dX10_count_0 rfl rfl rfl ?_
  refine g_cV0P (p0 := 4) (r1 := mX10_lays) dX10_count_1 lX10_151 vX10_lays (by first | rfl | assumption | exact RW.s (by assumption) | exact TW.s (by assumption)) ⟨_, _, rfl⟩ (FITi rfl rfl) (Nat.le_of_ble_eq_true rfl) (hly) rfl ?_
  rintro σ1 ⟨hP, hf⟩
  refine g_iload_n (p0 := 5) (i := 1) dX10_count_4 rfl rfl rfl ?_
  refine g_tabIn (tgt := 189) (off := 184) dX10_count_5 (by decide) (by decide) (by decide +kernel) rfl ?_
  refine g_ldc (p0 := 191) dX10_count_189 qX10_76 rfl ?_
  refine g_ireturn dX10_count_191 rfl rfl (?_)
  exact ⟨rfl, hf.fq⟩
set_option maxRecDepth 20000 in
set_option maxHeartbeats 2000000 in
theorem co_r14 {P : Sg → Prop} {σ : Sg} (hly : CM mX10_lays [ar 79] σ (RelV (fun σ' => P σ' ∧ FRl σ σ')))  : CM mX10_count [ar 79, ai (nI 14)] σ (RPQ σ (-1000001)) := by
  refine CM_in (ls := [some (ar 79), some (ai (nI 14))]) rfl ?_
  refine g_aload_n (p0 := 1) (i := 0) dX10_count_0 rfl rfl rfl ?_
  refine g_cV0P (p0 := 4) (r1 := mX10_lays) dX10_count_1 lX10_151 vX10_lays (by first | rfl | assumption | exact RW.s (by assumption) | exact TW.s (by assumption)) ⟨_, _, rfl⟩ (FITi rfl rfl) (Nat.le_of_ble_eq_true rfl) (hly) rfl ?_
  rintro σ1 ⟨hP, hf⟩
  refine g_iload_n (p0 := 5) (i := 1) dX10_count_4 rfl rfl rfl ?_
  refine g_tabIn (tgt := 189) (off := 184) dX10_count_5 (by decide) (by decide) (by decide +kernel) rfl ?_
  refine g_ldc (p0 := 191) dX10_count_189 qX10_76 rfl ?_
  refine g_ireturn dX10_count_191 rfl rfl (?_)
  exact ⟨rfl, hf.fq⟩
set_option maxRecDepth 20000 in
set_option maxHeartbeats 2000000 in
theorem co_r15 {P : Sg → Prop} {σ : Sg} (hly : CM mX10_lays [ar 79] σ (RelV (fun σ' => P σ' ∧ FRl σ σ')))  : CM mX10_count [ar 79, ai (nI 15)] σ (RPQ σ (-1000001)) := by
  refine CM_in (ls := [some (ar 79), some (ai (nI 15))]) rfl ?_
  refine g_aload_n (p0 := 1) (i := 0) dX10_count_0 rfl rfl rfl ?_
  refine g_cV0P (p0 := 4) (r1 := mX10_lays) dX10_count_1 lX10_151 vX10_lays (by first | rfl | assumption | exact RW.s (by assumption) | exact TW.s (by assumption)) ⟨_, _, rfl⟩ (FITi rfl rfl) (Nat.le_of_ble_eq_true rfl) (hly) rfl ?_
  rintro σ1 ⟨hP, hf⟩
  refine g_iload_n (p0 := 5) (i := 1) dX10_count_4 rfl rfl rfl ?_
  refine g_tabIn (tgt := 189) (off := 184) dX10_count_5 (by decide) (by decide) (by decide +kernel) rfl ?_
  refine g_ldc (p0 := 191) dX10_count_189 qX10_76 rfl ?_
  refine g_ireturn dX10_count_191 rfl rfl (?_)
  exact ⟨rfl, hf.fq⟩
set_option maxRecDepth 20000 in
set_option maxHeartbeats 2000000 in
theorem co_r16 {P : Sg → Prop} {σ : Sg} (hly : CM mX10_lays [ar 79] σ (RelV (fun σ' => P σ' ∧ FRl σ σ')))  : CM mX10_count [ar 79, ai (nI 16)] σ (RPQ σ (-1000001)) := by
  refine CM_in (ls := [some (ar 79), some (ai (nI 16))]) rfl ?_
  refine g_aload_n (p0 := 1) (i := 0) dX10_count_0 rfl rfl rfl ?_
  refine g_cV0P (p0 := 4) (r1 := mX10_lays) dX10_count_1 lX10_151 vX10_lays (by first | rfl | assumption | exact RW.s (by assumption) | exact TW.s (by assumption)) ⟨_, _, rfl⟩ (FITi rfl rfl) (Nat.le_of_ble_eq_true rfl) (hly) rfl ?_
  rintro σ1 ⟨hP, hf⟩
  refine g_iload_n (p0 := 5) (i := 1) dX10_count_4 rfl rfl rfl ?_
  refine g_tabIn (tgt := 189) (off := 184) dX10_count_5 (by decide) (by decide) (by decide +kernel) rfl ?_
  refine g_ldc (p0 := 191) dX10_count_189 qX10_76 rfl ?_
  refine g_ireturn dX10_count_191 rfl rfl (?_)
  exact ⟨rfl, hf.fq⟩
set_option maxRecDepth 20000 in
set_option maxHeartbeats 2000000 in
theorem co_r17 {P : Sg → Prop} {σ : Sg} (hly : CM mX10_lays [ar 79] σ (RelV (fun σ' => P σ' ∧ FRl σ σ')))  : CM mX10_count [ar 79, ai (nI 17)] σ (RPQ σ (-1000001)) := by
  refine CM_in (ls := [some (ar 79), some (ai (nI 17))]) rfl ?_
  refine g_aload_n (p0 := 1) (i := 0) dX10_count_0 rfl rfl rfl ?_
  refine g_cV0P (p0 := 4) (r1 := mX10_lays) dX10_count_1 lX10_151 vX10_lays (by first | rfl | assumption | exact RW.s (by assumption) | exact TW.s (by assumption)) ⟨_, _, rfl⟩ (FITi rfl rfl) (Nat.le_of_ble_eq_true rfl) (hly) rfl ?_
  rintro σ1 ⟨hP, hf⟩
  refine g_iload_n (p0 := 5) (i := 1) dX10_count_4 rfl rfl rfl ?_
  refine g_tabIn (tgt := 189) (off := 184) dX10_count_5 (by decide) (by decide) (by decide +kernel) rfl ?_
  refine g_ldc (p0 := 191) dX10_count_189 qX10_76 rfl ?_
  refine g_ireturn dX10_count_191 rfl rfl (?_)
  exact ⟨rfl, hf.fq⟩
set_option maxRecDepth 20000 in
set_option maxHeartbeats 2000000 in
theorem co_r18 {P : Sg → Prop} {σ : Sg} (hly : CM mX10_lays [ar 79] σ (RelV (fun σ' => P σ' ∧ FRl σ σ')))  : CM mX10_count [ar 79, ai (nI 18)] σ (RPQ σ (-1000001)) := by
  refine CM_in (ls := [some (ar 79), some (ai (nI 18))]) rfl ?_
  refine g_aload_n (p0 := 1) (i := 0) dX10_count_0 rfl rfl rfl ?_
  refine g_cV0P (p0 := 4) (r1 := mX10_lays) dX10_count_1 lX10_151 vX10_lays (by first | rfl | assumption | exact RW.s (by assumption) | exact TW.s (by assumption)) ⟨_, _, rfl⟩ (FITi rfl rfl) (Nat.le_of_ble_eq_true rfl) (hly) rfl ?_
  rintro σ1 ⟨hP, hf⟩
  refine g_iload_n (p0 := 5) (i := 1) dX10_count_4 rfl rfl rfl ?_
  refine g_tabIn (tgt := 189) (off := 184) dX10_count_5 (by decide) (by decide) (by decide +kernel) rfl ?_
  refine g_ldc (p0 := 191) dX10_count_189 qX10_76 rfl ?_
  refine g_ireturn dX10_count_191 rfl rfl (?_)
  exact ⟨rfl, hf.fq⟩
set_option maxRecDepth 20000 in
set_option maxHeartbeats 2000000 in
theorem co_r19 {P : Sg → Prop} {σ : Sg} (hly : CM mX10_lays [ar 79] σ (RelV (fun σ' => P σ' ∧ FRl σ σ')))  : CM mX10_count [ar 79, ai (nI 19)] σ (RPQ σ (-1000001)) := by
  refine CM_in (ls := [some (ar 79), some (ai (nI 19))]) rfl ?_
  refine g_aload_n (p0 := 1) (i := 0) dX10_count_0 rfl rfl rfl ?_
  refine g_cV0P (p0 := 4) (r1 := mX10_lays) dX10_count_1 lX10_151 vX10_lays (by first | rfl | assumption | exact RW.s (by assumption) | exact TW.s (by assumption)) ⟨_, _, rfl⟩ (FITi rfl rfl) (Nat.le_of_ble_eq_true rfl) (hly) rfl ?_
  rintro σ1 ⟨hP, hf⟩
  refine g_iload_n (p0 := 5) (i := 1) dX10_count_4 rfl rfl rfl ?_
  refine g_tabIn (tgt := 189) (off := 184) dX10_count_5 (by decide) (by decide) (by decide +kernel) rfl ?_
  refine g_ldc (p0 := 191) dX10_count_189 qX10_76 rfl ?_
  refine g_ireturn dX10_count_191 rfl rfl (?_)
  exact ⟨rfl, hf.fq⟩
set_option maxRecDepth 20000 in
set_option maxHeartbeats 2000000 in
theorem co_rx {P : Sg → Prop} {σ : Sg} (hly : CM mX10_lays [ar 79] σ (RelV (fun σ' => P σ' ∧ FRl σ σ'))) {x : Int32} (h : x.toInt < 0 ∨ 21 < x.toInt) : CM mX10_count [ar 79, ai x] σ (RPQ σ (-1000001)) := by
  refine CM_in (ls := [some (ar 79), some (ai x)]) rfl ?_
  refine g_aload_n (p0 := 1) (i := 0) dX10_count_0 rfl rfl rfl ?_
  refine g_cV0P (p0 := 4) (r1 := mX10_lays) dX10_count_1 lX10_151 vX10_lays (by first | rfl | assumption | exact RW.s (by assumption) | exact TW.s (by assumption)) ⟨_, _, rfl⟩ (FITi rfl rfl) (Nat.le_of_ble_eq_true rfl) (hly) rfl ?_
  rintro σ1 ⟨hP, hf⟩
  refine g_iload_n (p0 := 5) (i := 1) dX10_count_4 rfl rfl rfl ?_
  refine g_tabOut (tgt := 189) dX10_count_5 (by omega) rfl ?_
  refine g_ldc (p0 := 191) dX10_count_189 qX10_76 rfl ?_
  refine g_ireturn dX10_count_191 rfl rfl (?_)
  exact ⟨rfl, hf.fq⟩
theorem rgC {σ : Sg} {s M L : Nat} {c fs f n p d g a b : Nat → Nat} (hC : CLS σ s M L c fs f n p d g a b) {i : Nat} (hi : i < M) : ind (RGT (σ 42) (f i) (n i)) ≤ 1 ∧ CM mX6_isRight [ar 33, ai (nI i)] σ (Ret (nI (ind (RGT (σ 42) (f i) (n i)))) σ) := by
  obtain ⟨⟨q1, q2, q3, q4, q5, q6⟩, hM, hL⟩ := hC
  obtain ⟨⟨n1, n2⟩, a1, a2, a3, a4, a5, a6, a7⟩ := hM i hi
  refine ⟨ind_le _, ?_⟩
  rcases cRight_sp (σ := σ) (m := i) (by omega) n1 a2 (by omega) a3 a6 a7 with ⟨h, k⟩ | ⟨h, k⟩
  · rw [ind_T h]; exact k
  · rw [ind_F h]; exact k
theorem rgtR {σ : Sg} {s M L : Nat} {c fs f n p d g a b : Nat → Nat} {v lc : Nat → Int32} (hP : REF σ s M L c fs f n p d g a b v lc) {i : Nat} (hi : i < M) : ind (RGT v (f i) (n i)) ≤ 1 ∧ CM mX10_isRight [ar 79, ai (nI i), ai (-1000004), ai (nI 0)] σ (Ret (nI (ind (RGT v (f i) (n i)))) σ) := by
  obtain ⟨⟨q1, q2, q3, q4, q5, q6⟩, hM, hV, _⟩ := hP
  obtain ⟨a1, a2, a3, a4, _⟩ := hM i hi
  refine ⟨ind_le _, ?_⟩
  by_cases h : RGT v (f i) (n i)
  · rw [ind_T h]; exact rR_1 hV (by omega) a2 a3 a4 h
  · rw [ind_F h]
    by_cases h2 : n i < 2
    · exact rR_0s hV (by omega) a2 a3 a4 h2
    · exact rR_0 hV (by omega) a2 a3 a4 (by omega) h
theorem op_count (x0 : Int32) : OpOK Inv mX9_count mX10_count [ai x0] := by
  intro σ hI
  obtain ⟨s', M, L, c, fs, f, n', p, d, g, a, b, hs', _, hC, hJ⟩ := JQ hI
  obtain ⟨s, n, H, len, hR, hRep, hHC, hHR, hRD, t1, t2, t3, t4⟩ := id hI
  have hs1 := hR.2.1
  obtain ⟨⟨c1, c2, c3, k1, k2, k3⟩, cM, cL⟩ := id hC
  obtain ⟨_, _, hHC1, hHC2, _⟩ := hHC
  have hHC : True ∧ σ 11 2 = nI n ∧ True := ⟨trivial, hHC2, trivial⟩
  rcases i32c x0 with h | ⟨j, hj, rfl⟩
  · have h0 : x0.toInt < 0 ∨ 21 < x0.toInt := by
      rw [Int32.lt_iff_toInt_lt] at h
      exact Or.inl h
    exact op_ask hI (CPQ_of (co_cx h0)) (fun σ1 hf hI1 => co_rx (hJ σ1 hf) h0)
  · by_cases h22 : j < 22
    · have hc : j = 0 ∨ j = 1 ∨ j = 2 ∨ j = 3 ∨ j = 4 ∨ j = 5 ∨ j = 6 ∨ j = 7 ∨ j = 8 ∨ j = 9 ∨ j = 10 ∨ j = 11 ∨ j = 12 ∨ j = 13 ∨ j = 14 ∨ j = 15 ∨ j = 16 ∨ j = 17 ∨ j = 18 ∨ j = 19 ∨ j = 20 ∨ j = 21 := by omega
      rcases hc with rfl | rfl | rfl | rfl | rfl | rfl | rfl | rfl | rfl | rfl | rfl | rfl | rfl | rfl | rfl | rfl | rfl | rfl | rfl | rfl | rfl | rfl
      · exact op_ask hI (CPQ_of (co_c0 hRep.1)) (fun σ1 hf hI1 => co_r0 (hJ σ1 hf) (by rw [hf 80 (by decide)]; exact hR.1))
      · exact op_ask hI (CPQ_of (co_c1 c1)) (fun σ1 hf hI1 => co_r1 (hJ σ1 hf) (fun σ2 hP => hP.1.2.2.1))
      · exact op_ask hI (CPQ_of (co_c2 c2)) (fun σ1 hf hI1 => co_r2 (hJ σ1 hf) (fun σ2 hP => hP.1.2.2.2.1))
      · exact op_ask hI (CPQ_of (co_c3 (totalOf_sp ⟨rfl, rfl, by decide⟩ c1 (by omega) (by omega) (fun i hi => (cM i hi).2.2.2.2.2.2.1)))) (fun σ1 hf hI1 => co_r3 (hJ σ1 hf) (fun σ2 hP => sums_3 hP.1.1 hP.1.2.1 hP.1.2.2.1 (by omega) (fun i hi => unreadable_sp hP.2.2.1 (by omega) (hP.2.1 i hi).2.1 (hP.2.1 i hi).2.2.1 (hP.2.1 i hi).2.2.2.1)))
      · exact op_ask hI (CPQ_of (co_c4 c3)) (fun σ1 hf hI1 => co_r4 (hJ σ1 hf) (fun σ2 hP => sums_4 hP.1.1 hP.1.2.1 hP.1.2.2.1 (by omega) hP.2.2.2.2))
      · exact op_ask hI (CPQ_of (co_c5 (totalOf_sp ⟨rfl, rfl, by decide⟩ c1 (by omega) (by omega) (fun i hi => (cM i hi).2.2.2.2.1)))) (fun σ1 hf hI1 => co_r5 (hJ σ1 hf) (fun σ2 hP => sums_5 hP.1.1 hP.1.2.1 hP.1.2.2.1 (by omega) (fun i hi => (hP.2.1 i hi).2.2.2.2.1)))
      · exact op_ask hI (CPQ_of (co_c6 (totalOf_sp ⟨rfl, rfl, by decide⟩ c1 (by omega) (by omega) (fun i hi => (cM i hi).2.2.2.2.2.1)))) (fun σ1 hf hI1 => co_r6 (hJ σ1 hf) (fun σ2 hP => sums_6 hP.1.1 hP.1.2.1 hP.1.2.2.1 (by omega) (fun i hi => (hP.2.1 i hi).2.2.2.2.2)))
      · exact op_ask hI (CPQ_of (co_c7 (rightOnes_sp c1 (by omega) (fun i hi => rgC hC hi)))) (fun σ1 hf hI1 => co_r7 (hJ σ1 hf) (fun σ2 hP => sums_7 hP.1.1 hP.1.2.1 hP.1.2.2.1 (by omega) (fun i hi => rgtR hP hi)))
      · rcases hR.2.2.1 with hz | hz
        · exact op_ask hI (CPQ_of (co_cs8 (cs_8z (hRep.2.2.2.1.trans hz)))) (fun σ1 hf hI1 => co_r8 (hJ σ1 hf) (by rw [hf 80 (by decide)]; exact hz))
        · exact op_ask hI (CPQ_of (co_cs8 (cs_8o (hRep.2.2.2.1.trans hz)))) (fun σ1 hf hI1 => co_r8 (hJ σ1 hf) (by rw [hf 80 (by decide)]; exact hz))
      · by_cases h0 : s = 0
        · subst h0
          exact op_ask hI (CPQ_of (co_cs9 (cs_9z hRep.1))) (fun σ1 hf hI1 => co_r9z (hJ σ1 hf) (by rw [hf 80 (by decide)]; exact hR.1))
        · have hv : σ 3 (s - 1) = σ 80 (28 + s) := by
            have h5 := hRep.2.2.2.2.2 (s - 1) (by omega)
            rw [show 29 + (s - 1) = 28 + s by omega] at h5
            exact h5
          exact op_ask hI (CPQ_of (co_cs9 (cs_9 hRep.1 (by omega) hs1 hv))) (fun σ1 hf hI1 => co_r9 (hJ σ1 hf) (s := s) (by rw [hf 80 (by decide)]; exact hR.1) (by omega) hs1 (by rw [hf 80 (by decide)]))
      · exact op_ask hI (CPQ_of (co_cs10 (cs_10 hHC.2.1))) (fun σ1 hf hI1 => co_r10 (hJ σ1 hf) (by rw [hf 79 (by decide)]; exact hHR.1))
      · exact op_ask hI (CPQ_of (co_cs11 (cs_11 t1))) (fun σ1 hf hI1 => co_r11 (hJ σ1 hf) (by rw [hf 79 (by decide)]; exact t2))
      · exact op_ask hI (CPQ_of (co_cs12 cs_12)) (fun σ1 hf hI1 => co_r12 (hJ σ1 hf))
      · exact op_ask hI (CPQ_of (co_cs13 cs_13)) (fun σ1 hf hI1 => co_r13 (hJ σ1 hf))
      · exact op_ask hI (CPQ_of (co_cs14 cs_14)) (fun σ1 hf hI1 => co_r14 (hJ σ1 hf))
      · exact op_ask hI (CPQ_of (co_cs15 cs_15)) (fun σ1 hf hI1 => co_r15 (hJ σ1 hf))
      · exact op_ask hI (CPQ_of (co_cs16 cs_16)) (fun σ1 hf hI1 => co_r16 (hJ σ1 hf))
      · exact op_ask hI (CPQ_of (co_cs17 cs_17)) (fun σ1 hf hI1 => co_r17 (hJ σ1 hf))
      · exact op_ask hI (CPQ_of (co_cs18 cs_18)) (fun σ1 hf hI1 => co_r18 (hJ σ1 hf))
      · exact op_ask hI (CPQ_of (co_cs19 cs_19)) (fun σ1 hf hI1 => co_r19 (hJ σ1 hf))
      · exact op_ask hI (CPQ_of (co_cs20 (cs_20 hRep.2.1))) (fun σ1 hf hI1 => co_r20 (hJ σ1 hf) (by rw [hf 80 (by decide)]))
      · exact op_ask hI (CPQ_of (co_cs21 (cs_21 hRep.2.2.1))) (fun σ1 hf hI1 => co_r21 (hJ σ1 hf) (by rw [hf 80 (by decide)]))
    · have h0 : (nI j).toInt < 0 ∨ 21 < (nI j).toInt := by
        rw [nI_toInt (by omega)]
        omega
      exact op_ask hI (CPQ_of (co_cx h0)) (fun σ1 hf hI1 => co_rx (hJ σ1 hf) h0)
