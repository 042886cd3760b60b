/-! THE CLASS: out of the rows of whole -/
theorem FC_72 {σ σ' : Sg} (h : ∀ z, z ≠ 72 → σ' z = σ z) : FC σ σ' := fun z h2 => h z (by omega)
set_option maxRecDepth 20000 in
set_option maxHeartbeats 2000000 in
theorem mo_cF {x y : Int32} {σ : Sg} (h : CM mX6_hasMessage [ar 33, ai x] σ (Ret (nI 0) σ)) : CM mX9_messageOf [ar 0, ai x, ai y] σ (Ret (-1000001) σ) := by
  refine CM_in (ls := [some (ar 0), some (ai x), some (ai y)]) rfl ?_
  refine g_aload_n (p0 := 1) (i := 0) dX9_messageOf_0 rfl rfl rfl ?_
  refine g_getR (p0 := 4) dX9_messageOf_1 fX9_29 (by first | rfl | assumption | exact RW.s (by assumption) | exact TW.s (by assumption)) rfl rfl ?_
  refine g_iload_n (p0 := 5) (i := 1) dX9_messageOf_4 rfl rfl rfl ?_
  refine g_cV1R (p0 := 8) (r1 := mX6_hasMessage) dX9_messageOf_5 lX9_133 vX6_hasMessage (by first | rfl | assumption | exact RW.s (by assumption) | exact TW.s (by assumption)) ⟨_, _, rfl⟩ (FITi rfl rfl) (Nat.le_of_ble_eq_true rfl) (h) rfl ?_
  first | ((with_reducible refine isN1 ?_); refine g_ifN_ne (tgt := 14) (p1 := 11) dX9_messageOf_8 rfl (by omega) rfl (fun c_8 => by exfalso; first | omega | contradiction | exact absurd (by assumption) c_8 | (simp_all; done)) (fun c_8 => ?_)) | refine g_if_ne (tgt := 14) (p1 := 11) dX9_messageOf_8 rfl rfl (fun c_8 => by exfalso; first | omega | contradiction | exact absurd (by assumption) c_8 | (simp_all; done)) (fun c_8 => ?_)
  refine g_ldc (p0 := 13) dX9_messageOf_11 qX9_68 rfl ?_
  refine g_ireturn dX9_messageOf_13 rfl rfl (?_)
  exact ⟨rfl, rfl⟩
set_option maxRecDepth 20000 in
set_option maxHeartbeats 2000000 in
theorem mo_c0 {m M : Nat} {v : Int32} {σ : Sg} (hM : σ 45 7 = nI M) (hM1 : M ≤ 160) (hm : m < M) (h : σ 51 m = v) : CM mX9_messageOf [ar 0, ai (nI m), ai (nI 0)] σ (Ret v σ) := by
  refine CM_in (ls := [some (ar 0), some (ai (nI m)), some (ai (nI 0))]) rfl ?_
  refine g_aload_n (p0 := 1) (i := 0) dX9_messageOf_0 rfl rfl rfl ?_
  refine g_getR (p0 := 4) dX9_messageOf_1 fX9_29 (by first | rfl | assumption | exact RW.s (by assumption) | exact TW.s (by assumption)) rfl rfl ?_
  refine g_iload_n (p0 := 5) (i := 1) dX9_messageOf_4 rfl rfl rfl ?_
  refine g_cV1R (p0 := 8) (r1 := mX6_hasMessage) dX9_messageOf_5 lX9_133 vX6_hasMessage (by first | rfl | assumption | exact RW.s (by assumption) | exact TW.s (by assumption)) ⟨_, _, rfl⟩ (FITi rfl rfl) (Nat.le_of_ble_eq_true rfl) (hasMessage_T hM hM1 hm) rfl ?_
  first | ((with_reducible refine isN1 ?_); refine g_ifN_ne (tgt := 14) (p1 := 11) dX9_messageOf_8 rfl (by omega) rfl (fun c_8 => ?_) (fun c_8 => by exfalso; first | omega | contradiction | exact absurd (by assumption) c_8 | (simp_all; done))) | refine g_if_ne (tgt := 14) (p1 := 11) dX9_messageOf_8 rfl rfl (fun c_8 => ?_) (fun c_8 => by exfalso; first | omega | contradiction | exact absurd (by assumption) c_8 | (simp_all; done))
  refine g_iload_n (p0 := 15) (i := 2) dX9_messageOf_14 rfl rfl rfl ?_
  refine g_tabIn (tgt := 56) (off := 41) dX9_messageOf_15 (by decide) (by decide) (by decide +kernel) rfl ?_
  refine g_aload_n (p0 := 57) (i := 0) dX9_messageOf_56 rfl rfl rfl ?_
  refine g_getR (p0 := 60) dX9_messageOf_57 fX9_29 (by first | rfl | assumption | exact RW.s (by assumption) | exact TW.s (by assumption)) rfl rfl ?_
  refine g_iload_n (p0 := 61) (i := 1) dX9_messageOf_60 rfl rfl rfl ?_
  refine g_cV1R (p0 := 64) (r1 := mX6_lengthOf) dX9_messageOf_61 lX9_136 vX6_lengthOf (by first | rfl | assumption | exact RW.s (by assumption) | exact TW.s (by assumption)) ⟨_, _, rfl⟩ (FITi rfl rfl) (Nat.le_of_ble_eq_true rfl) (lengthOf_sp (by omega) h) rfl ?_
  refine g_ireturn dX9_messageOf_64 rfl rfl (?_)
  exact ⟨rfl, rfl⟩
set_option maxRecDepth 20000 in
set_option maxHeartbeats 2000000 in
theorem mo_c1 {m M : Nat} {v : Int32} {σ : Sg} (hM : σ 45 7 = nI M) (hM1 : M ≤ 160) (hm : m < M) (h : σ 57 m = v) : CM mX9_messageOf [ar 0, ai (nI m), ai (nI 1)] σ (Ret v σ) := by
  refine CM_in (ls := [some (ar 0), some (ai (nI m)), some (ai (nI 1))]) rfl ?_
  refine g_aload_n (p0 := 1) (i := 0) dX9_messageOf_0 rfl rfl rfl ?_
  refine g_getR (p0 := 4) dX9_messageOf_1 fX9_29 (by first | rfl | assumption | exact RW.s (by assumption) | exact TW.s (by assumption)) rfl rfl ?_
  refine g_iload_n (p0 := 5) (i := 1) dX9_messageOf_4 rfl rfl rfl ?_
  refine g_cV1R (p0 := 8) (r1 := mX6_hasMessage) dX9_messageOf_5 lX9_133 vX6_hasMessage (by first | rfl | assumption | exact RW.s (by assumption) | exact TW.s (by assumption)) ⟨_, _, rfl⟩ (FITi rfl rfl) (Nat.le_of_ble_eq_true rfl) (hasMessage_T hM hM1 hm) rfl ?_
  first | ((with_reducible refine isN1 ?_); refine g_ifN_ne (tgt := 14) (p1 := 11) dX9_messageOf_8 rfl (by omega) rfl (fun c_8 => ?_) (fun c_8 => by exfalso; first | omega | contradiction | exact absurd (by assumption) c_8 | (simp_all; done))) | refine g_if_ne (tgt := 14) (p1 := 11) dX9_messageOf_8 rfl rfl (fun c_8 => ?_) (fun c_8 => by exfalso; first | omega | contradiction | exact absurd (by assumption) c_8 | (simp_all; done))
  refine g_iload_n (p0 := 15) (i := 2) dX9_messageOf_14 rfl rfl rfl ?_
  refine g_tabIn (tgt := 65) (off := 50) dX9_messageOf_15 (by decide) (by decide) (by decide +kernel) rfl ?_
  refine g_aload_n (p0 := 66) (i := 0) dX9_messageOf_65 rfl rfl rfl ?_
  refine g_getR (p0 := 69) dX9_messageOf_66 fX9_29 (by first | rfl | assumption | exact RW.s (by assumption) | exact TW.s (by assumption)) rfl rfl ?_
  refine g_getR (p0 := 72) dX9_messageOf_69 fX9_139 (by first | rfl | assumption | exact RW.s (by assumption) | exact TW.s (by assumption)) rfl rfl ?_
  refine g_getR (p0 := 75) dX9_messageOf_72 fX9_143 (by first | rfl | assumption | exact RW.s (by assumption) | exact TW.s (by assumption)) rfl rfl ?_
  refine g_iload_n (p0 := 76) (i := 1) dX9_messageOf_75 rfl rfl rfl ?_
  refine g_cV1R (p0 := 79) (r1 := mX7_at) dX9_messageOf_76 lX9_114 vX7_at (by first | rfl | assumption | exact RW.s (by assumption) | exact TW.s (by assumption)) ⟨_, _, rfl⟩ (FITi rfl rfl) (Nat.le_of_ble_eq_true rfl) (at_N (by first | exact ⟨rfl, rfl, by decide⟩ | assumption) (by omega) h) rfl ?_
  refine g_ireturn dX9_messageOf_79 rfl rfl (?_)
  exact ⟨rfl, rfl⟩
set_option maxRecDepth 20000 in
set_option maxHeartbeats 2000000 in
theorem mo_c3 {m M : Nat} {v : Int32} {σ : Sg} (hM : σ 45 7 = nI M) (hM1 : M ≤ 160) (hm : m < M) (h : σ 53 m = v) : CM mX9_messageOf [ar 0, ai (nI m), ai (nI 3)] σ (Ret v σ) := by
  refine CM_in (ls := [some (ar 0), some (ai (nI m)), some (ai (nI 3))]) rfl ?_
  refine g_aload_n (p0 := 1) (i := 0) dX9_messageOf_0 rfl rfl rfl ?_
  refine g_getR (p0 := 4) dX9_messageOf_1 fX9_29 (by first | rfl | assumption | exact RW.s (by assumption) | exact TW.s (by assumption)) rfl rfl ?_
  refine g_iload_n (p0 := 5) (i := 1) dX9_messageOf_4 rfl rfl rfl ?_
  refine g_cV1R (p0 := 8) (r1 := mX6_hasMessage) dX9_messageOf_5 lX9_133 vX6_hasMessage (by first | rfl | assumption | exact RW.s (by assumption) | exact TW.s (by assumption)) ⟨_, _, rfl⟩ (FITi rfl rfl) (Nat.le_of_ble_eq_true rfl) (hasMessage_T hM hM1 hm) rfl ?_
  first | ((with_reducible refine isN1 ?_); refine g_ifN_ne (tgt := 14) (p1 := 11) dX9_messageOf_8 rfl (by omega) rfl (fun c_8 => ?_) (fun c_8 => by exfalso; first | omega | contradiction | exact absurd (by assumption) c_8 | (simp_all; done))) | refine g_if_ne (tgt := 14) (p1 := 11) dX9_messageOf_8 rfl rfl (fun c_8 => ?_) (fun c_8 => by exfalso; first | omega | contradiction | exact absurd (by assumption) c_8 | (simp_all; done))
  refine g_iload_n (p0 := 15) (i := 2) dX9_messageOf_14 rfl rfl rfl ?_
  refine g_tabIn (tgt := 97) (off := 82) dX9_messageOf_15 (by decide) (by decide) (by decide +kernel) rfl ?_
  refine g_aload_n (p0 := 98) (i := 0) dX9_messageOf_97 rfl rfl rfl ?_
  refine g_getR (p0 := 101) dX9_messageOf_98 fX9_29 (by first | rfl | assumption | exact RW.s (by assumption) | exact TW.s (by assumption)) rfl rfl ?_
  refine g_getR (p0 := 104) dX9_messageOf_101 fX9_139 (by first | rfl | assumption | exact RW.s (by assumption) | exact TW.s (by assumption)) rfl rfl ?_
  refine g_getR (p0 := 107) dX9_messageOf_104 fX9_151 (by first | rfl | assumption | exact RW.s (by assumption) | exact TW.s (by assumption)) rfl rfl ?_
  refine g_iload_n (p0 := 108) (i := 1) dX9_messageOf_107 rfl rfl rfl ?_
  refine g_cV1R (p0 := 111) (r1 := mX7_at) dX9_messageOf_108 lX9_114 vX7_at (by first | rfl | assumption | exact RW.s (by assumption) | exact TW.s (by assumption)) ⟨_, _, rfl⟩ (FITi rfl rfl) (Nat.le_of_ble_eq_true rfl) (at_N (by first | exact ⟨rfl, rfl, by decide⟩ | assumption) (by omega) h) rfl ?_
  refine g_ireturn dX9_messageOf_111 rfl rfl (?_)
  exact ⟨rfl, rfl⟩
set_option maxRecDepth 20000 in
set_option maxHeartbeats 2000000 in
theorem mo_c5 {m M : Nat} {v : Int32} {σ : Sg} (hM : σ 45 7 = nI M) (hM1 : M ≤ 160) (hm : m < M) (h : σ 47 m = v) : CM mX9_messageOf [ar 0, ai (nI m), ai (nI 5)] σ (Ret v σ) := by
  refine CM_in (ls := [some (ar 0), some (ai (nI m)), some (ai (nI 5))]) rfl ?_
  refine g_aload_n (p0 := 1) (i := 0) dX9_messageOf_0 rfl rfl rfl ?_
  refine g_getR (p0 := 4) dX9_messageOf_1 fX9_29 (by first | rfl | assumption | exact RW.s (by assumption) | exact TW.s (by assumption)) rfl rfl ?_
  refine g_iload_n (p0 := 5) (i := 1) dX9_messageOf_4 rfl rfl rfl ?_
  refine g_cV1R (p0 := 8) (r1 := mX6_hasMessage) dX9_messageOf_5 lX9_133 vX6_hasMessage (by first | rfl | assumption | exact RW.s (by assumption) | exact TW.s (by assumption)) ⟨_, _, rfl⟩ (FITi rfl rfl) (Nat.le_of_ble_eq_true rfl) (hasMessage_T hM hM1 hm) rfl ?_
  first | ((with_reducible refine isN1 ?_); refine g_ifN_ne (tgt := 14) (p1 := 11) dX9_messageOf_8 rfl (by omega) rfl (fun c_8 => ?_) (fun c_8 => by exfalso; first | omega | contradiction | exact absurd (by assumption) c_8 | (simp_all; done))) | refine g_if_ne (tgt := 14) (p1 := 11) dX9_messageOf_8 rfl rfl (fun c_8 => ?_) (fun c_8 => by exfalso; first | omega | contradiction | exact absurd (by assumption) c_8 | (simp_all; done))
  refine g_iload_n (p0 := 15) (i := 2) dX9_messageOf_14 rfl rfl rfl ?_
  refine g_tabIn (tgt := 125) (off := 110) dX9_messageOf_15 (by decide) (by decide) (by decide +kernel) rfl ?_
  refine g_aload_n (p0 := 126) (i := 0) dX9_messageOf_125 rfl rfl rfl ?_
  refine g_getR (p0 := 129) dX9_messageOf_126 fX9_29 (by first | rfl | assumption | exact RW.s (by assumption) | exact TW.s (by assumption)) rfl rfl ?_
  refine g_getR (p0 := 132) dX9_messageOf_129 fX9_139 (by first | rfl | assumption | exact RW.s (by assumption) | exact TW.s (by assumption)) rfl rfl ?_
  refine g_getR (p0 := 135) dX9_messageOf_132 fX9_158 (by first | rfl | assumption | exact RW.s (by assumption) | exact TW.s (by assumption)) rfl rfl ?_
  refine g_iload_n (p0 := 136) (i := 1) dX9_messageOf_135 rfl rfl rfl ?_
  refine g_cV1R (p0 := 139) (r1 := mX7_at) dX9_messageOf_136 lX9_114 vX7_at (by first | rfl | assumption | exact RW.s (by assumption) | exact TW.s (by assumption)) ⟨_, _, rfl⟩ (FITi rfl rfl) (Nat.le_of_ble_eq_true rfl) (at_N (by first | exact ⟨rfl, rfl, by decide⟩ | assumption) (by omega) h) rfl ?_
  refine g_ireturn dX9_messageOf_139 rfl rfl (?_)
  exact ⟨rfl, rfl⟩
set_option maxRecDepth 20000 in
set_option maxHeartbeats 2000000 in
theorem mo_c6 {m M : Nat} {v : Int32} {σ : Sg} (hM : σ 45 7 = nI M) (hM1 : M ≤ 160) (hm : m < M) (h : σ 55 m = v) : CM mX9_messageOf [ar 0, ai (nI m), ai (nI 6)] σ (Ret v σ) := by
  refine CM_in (ls := [some (ar 0), some (ai (nI m)), some (ai (nI 6))]) rfl ?_
  refine g_aload_n (p0 := 1) (i := 0) dX9_messageOf_0 rfl rfl rfl ?_
  refine g_getR (p0 := 4) dX9_messageOf_1 fX9_29 (by first | rfl | assumption | exact RW.s (by assumption) | exact TW.s (by assumption)) rfl rfl ?_
  refine g_iload_n (p0 := 5) (i := 1) dX9_messageOf_4 rfl rfl rfl ?_
  refine g_cV1R (p0 := 8) (r1 := mX6_hasMessage) dX9_messageOf_5 lX9_133 vX6_hasMessage (by first | rfl | assumption | exact RW.s (by assumption) | exact TW.s (by assumption)) ⟨_, _, rfl⟩ (FITi rfl rfl) (Nat.le_of_ble_eq_true rfl) (hasMessage_T hM hM1 hm) rfl ?_
  first | ((with_reducible refine isN1 ?_); refine g_ifN_ne (tgt := 14) (p1 := 11) dX9_messageOf_8 rfl (by omega) rfl (fun c_8 => ?_) (fun c_8 => by exfalso; first | omega | contradiction | exact absurd (by assumption) c_8 | (simp_all; done))) | refine g_if_ne (tgt := 14) (p1 := 11) dX9_messageOf_8 rfl rfl (fun c_8 => ?_) (fun c_8 => by exfalso; first | omega | contradiction | exact absurd (by assumption) c_8 | (simp_all; done))
  refine g_iload_n (p0 := 15) (i := 2) dX9_messageOf_14 rfl rfl rfl ?_
  refine g_tabIn (tgt := 140) (off := 125) dX9_messageOf_15 (by decide) (by decide) (by decide +kernel) rfl ?_
  refine g_aload_n (p0 := 141) (i := 0) dX9_messageOf_140 rfl rfl rfl ?_
  refine g_getR (p0 := 144) dX9_messageOf_141 fX9_29 (by first | rfl | assumption | exact RW.s (by assumption) | exact TW.s (by assumption)) rfl rfl ?_
  refine g_getR (p0 := 147) dX9_messageOf_144 fX9_139 (by first | rfl | assumption | exact RW.s (by assumption) | exact TW.s (by assumption)) rfl rfl ?_
  refine g_getR (p0 := 150) dX9_messageOf_147 fX9_161 (by first | rfl | assumption | exact RW.s (by assumption) | exact TW.s (by assumption)) rfl rfl ?_
  refine g_iload_n (p0 := 151) (i := 1) dX9_messageOf_150 rfl rfl rfl ?_
  refine g_cV1R (p0 := 154) (r1 := mX7_at) dX9_messageOf_151 lX9_114 vX7_at (by first | rfl | assumption | exact RW.s (by assumption) | exact TW.s (by assumption)) ⟨_, _, rfl⟩ (FITi rfl rfl) (Nat.le_of_ble_eq_true rfl) (at_N (by first | exact ⟨rfl, rfl, by decide⟩ | assumption) (by omega) h) rfl ?_
  refine g_ireturn dX9_messageOf_154 rfl rfl (?_)
  exact ⟨rfl, rfl⟩
set_option maxRecDepth 20000 in
set_option maxHeartbeats 2000000 in
theorem mo_c2_0 {m M : Nat} {σ : Sg} (hM : σ 45 7 = nI M) (hM1 : M ≤ 160) (hm : m < M) (h : CM mX6_isRight [ar 33, ai (nI m)] σ (Ret (nI 0) σ)) : CM mX9_messageOf [ar 0, ai (nI m), ai (nI 2)] σ (Ret (nI 0) σ) := by
  refine CM_in (ls := [some (ar 0), some (ai (nI m)), some (ai (nI 2))]) rfl ?_
  refine g_aload_n (p0 := 1) (i := 0) dX9_messageOf_0 rfl rfl rfl ?_
  refine g_getR (p0 := 4) dX9_messageOf_1 fX9_29 (by first | rfl | assumption | exact RW.s (by assumption) | exact TW.s (by assumption)) rfl rfl ?_
  refine g_iload_n (p0 := 5) (i := 1) dX9_messageOf_4 rfl rfl rfl ?_
  refine g_cV1R (p0 := 8) (r1 := mX6_hasMessage) dX9_messageOf_5 lX9_133 vX6_hasMessage (by first | rfl | assumption | exact RW.s (by assumption) | exact TW.s (by assumption)) ⟨_, _, rfl⟩ (FITi rfl rfl) (Nat.le_of_ble_eq_true rfl) (hasMessage_T hM hM1 hm) rfl ?_
  first | ((with_reducible refine isN1 ?_); refine g_ifN_ne (tgt := 14) (p1 := 11) dX9_messageOf_8 rfl (by omega) rfl (fun c_8 => ?_) (fun c_8 => by exfalso; first | omega | contradiction | exact absurd (by assumption) c_8 | (simp_all; done))) | refine g_if_ne (tgt := 14) (p1 := 11) dX9_messageOf_8 rfl rfl (fun c_8 => ?_) (fun c_8 => by exfalso; first | omega | contradiction | exact absurd (by assumption) c_8 | (simp_all; done))
  refine g_iload_n (p0 := 15) (i := 2) dX9_messageOf_14 rfl rfl rfl ?_
  refine g_tabIn (tgt := 80) (off := 65) dX9_messageOf_15 (by decide) (by decide) (by decide +kernel) rfl ?_
  refine g_aload_n (p0 := 81) (i := 0) dX9_messageOf_80 rfl rfl rfl ?_
  refine g_getR (p0 := 84) dX9_messageOf_81 fX9_29 (by first | rfl | assumption | exact RW.s (by assumption) | exact TW.s (by assumption)) rfl rfl ?_
  refine g_iload_n (p0 := 85) (i := 1) dX9_messageOf_84 rfl rfl rfl ?_
  refine g_cV1R (p0 := 88) (r1 := mX6_isRight) dX9_messageOf_85 lX9_148 vX6_isRight (by first | rfl | assumption | exact RW.s (by assumption) | exact TW.s (by assumption)) ⟨_, _, rfl⟩ (FITi rfl rfl) (Nat.le_of_ble_eq_true rfl) (h) rfl ?_
  first | ((with_reducible refine isN1 ?_); refine g_ifN_eq (tgt := 95) (p1 := 91) dX9_messageOf_88 rfl (by omega) rfl (fun c_88 => ?_) (fun c_88 => by exfalso; first | omega | contradiction | exact absurd (by assumption) c_88 | (simp_all; done))) | refine g_if_eq (tgt := 95) (p1 := 91) dX9_messageOf_88 rfl rfl (fun c_88 => ?_) (fun c_88 => by exfalso; first | omega | contradiction | exact absurd (by assumption) c_88 | (simp_all; done))
  refine g_iconst (p0 := 96) (v := nI 0) dX9_messageOf_95 rfl rfl ?_
  refine g_ireturn dX9_messageOf_96 rfl rfl (?_)
  exact ⟨rfl, rfl⟩
set_option maxRecDepth 20000 in
set_option maxHeartbeats 2000000 in
theorem mo_c2_1 {m M : Nat} {σ : Sg} (hM : σ 45 7 = nI M) (hM1 : M ≤ 160) (hm : m < M) (h : CM mX6_isRight [ar 33, ai (nI m)] σ (Ret (nI 1) σ)) : CM mX9_messageOf [ar 0, ai (nI m), ai (nI 2)] σ (Ret (nI 1) σ) := by
  refine CM_in (ls := [some (ar 0), some (ai (nI m)), some (ai (nI 2))]) rfl ?_
  refine g_aload_n (p0 := 1) (i := 0) dX9_messageOf_0 rfl rfl rfl ?_
  refine g_getR (p0 := 4) dX9_messageOf_1 fX9_29 (by first | rfl | assumption | exact RW.s (by assumption) | exact TW.s (by assumption)) rfl rfl ?_
  refine g_iload_n (p0 := 5) (i := 1) dX9_messageOf_4 rfl rfl rfl ?_
  refine g_cV1R (p0 := 8) (r1 := mX6_hasMessage) dX9_messageOf_5 lX9_133 vX6_hasMessage (by first | rfl | assumption | exact RW.s (by assumption) | exact TW.s (by assumption)) ⟨_, _, rfl⟩ (FITi rfl rfl) (Nat.le_of_ble_eq_true rfl) (hasMessage_T hM hM1 hm) rfl ?_
  first | ((with_reducible refine isN1 ?_); refine g_ifN_ne (tgt := 14) (p1 := 11) dX9_messageOf_8 rfl (by omega) rfl (fun c_8 => ?_) (fun c_8 => by exfalso; first | omega | contradiction | exact absurd (by assumption) c_8 | (simp_all; done))) | refine g_if_ne (tgt := 14) (p1 := 11) dX9_messageOf_8 rfl rfl (fun c_8 => ?_) (fun c_8 => by exfalso; first | omega | contradiction | exact absurd (by assumption) c_8 | (simp_all; done))
  refine g_iload_n (p0 := 15) (i := 2) dX9_messageOf_14 rfl rfl rfl ?_
  refine g_tabIn (tgt := 80) (off := 65) dX9_messageOf_15 (by decide) (by decide) (by decide +kernel) rfl ?_
  refine g_aload_n (p0 := 81) (i := 0) dX9_messageOf_80 rfl rfl rfl ?_
  refine g_getR (p0 := 84) dX9_messageOf_81 fX9_29 (by first | rfl | assumption | exact RW.s (by assumption) | exact TW.s (by assumption)) rfl rfl ?_
  refine g_iload_n (p0 := 85) (i := 1) dX9_messageOf_84 rfl rfl rfl ?_
  refine g_cV1R (p0 := 88) (r1 := mX6_isRight) dX9_messageOf_85 lX9_148 vX6_isRight (by first | rfl | assumption | exact RW.s (by assumption) | exact TW.s (by assumption)) ⟨_, _, rfl⟩ (FITi rfl rfl) (Nat.le_of_ble_eq_true rfl) (h) rfl ?_
  first | ((with_reducible refine isN1 ?_); refine g_ifN_eq (tgt := 95) (p1 := 91) dX9_messageOf_88 rfl (by omega) rfl (fun c_88 => by exfalso; first | omega | contradiction | exact absurd (by assumption) c_88 | (simp_all; done)) (fun c_88 => ?_)) | refine g_if_eq (tgt := 95) (p1 := 91) dX9_messageOf_88 rfl rfl (fun c_88 => by exfalso; first | omega | contradiction | exact absurd (by assumption) c_88 | (simp_all; done)) (fun c_88 => ?_)
  refine g_iconst (p0 := 92) (v := nI 1) dX9_messageOf_91 rfl rfl ?_
  refine g_goto (tgt := 96) dX9_messageOf_92 rfl ?_
  refine g_ireturn dX9_messageOf_96 rfl rfl (?_)
  exact ⟨rfl, rfl⟩
