/-! THE CLASS: out of the rows of whole -/
set_option maxRecDepth 20000 in
set_option maxHeartbeats 2000000 in
theorem lo_cb {m t M f n : Nat} {x : Int32} {σ : Sg} (hM : σ 45 7 = nI M) (hM1 : M ≤ 160) (hm : m < M) (hl : σ 51 m = nI n) (hn : n ≤ 160) (h : n ≤ t) (ht : t < 2147483648) : CM mX9_letterOf [ar 0, ai (nI m), ai (nI t), ai x] σ (Ret (-1000001) σ) := by
  refine CM_in (ls := [some (ar 0), some (ai (nI m)), some (ai (nI t)), some (ai x), none, none, none]) rfl ?_
  refine g_aload_n (p0 := 1) (i := 0) dX9_letterOf_0 rfl rfl rfl ?_
  refine g_getR (p0 := 4) dX9_letterOf_1 fX9_29 (by first | rfl | assumption | exact RW.s (by assumption) | exact TW.s (by assumption)) rfl rfl ?_
  refine g_iload_n (p0 := 5) (i := 1) dX9_letterOf_4 rfl rfl rfl ?_
  refine g_cV1R (p0 := 8) (r1 := mX6_hasMessage) dX9_letterOf_5 lX9_133 vX6_hasMessage (by first | rfl | assumption | exact RW.s (by assumption) | exact TW.s (by assumption)) ⟨_, _, rfl⟩ (FITi rfl rfl) (Nat.le_of_ble_eq_true rfl) (hasMessage_T hM hM1 hm) rfl ?_
  first | ((with_reducible refine isN1 ?_); refine g_ifN_eq (tgt := 27) (p1 := 11) dX9_letterOf_8 rfl (by omega) rfl (fun c_8 => by exfalso; first | omega | contradiction | exact absurd (by assumption) c_8 | (simp_all; done)) (fun c_8 => ?_)) | refine g_if_eq (tgt := 27) (p1 := 11) dX9_letterOf_8 rfl rfl (fun c_8 => by exfalso; first | omega | contradiction | exact absurd (by assumption) c_8 | (simp_all; done)) (fun c_8 => ?_)
  refine g_iload_n (p0 := 12) (i := 2) dX9_letterOf_11 rfl rfl rfl ?_
  first | ((with_reducible refine isN1 ?_); refine g_ifN_lt (tgt := 27) (p1 := 15) dX9_letterOf_12 rfl (by omega) rfl (fun c_12 => by exfalso; first | omega | contradiction | exact absurd (by assumption) c_12 | (simp_all; done)) (fun c_12 => ?_)) | refine g_if_lt (tgt := 27) (p1 := 15) dX9_letterOf_12 rfl rfl (fun c_12 => by exfalso; first | omega | contradiction | exact absurd (by assumption) c_12 | (simp_all; done)) (fun c_12 => ?_)
  refine g_iload_n (p0 := 16) (i := 2) dX9_letterOf_15 rfl rfl rfl ?_
  refine g_aload_n (p0 := 17) (i := 0) dX9_letterOf_16 rfl rfl rfl ?_
  refine g_getR (p0 := 20) dX9_letterOf_17 fX9_29 (by first | rfl | assumption | exact RW.s (by assumption) | exact TW.s (by assumption)) rfl rfl ?_
  refine g_iload_n (p0 := 21) (i := 1) dX9_letterOf_20 rfl rfl rfl ?_
  refine g_cV1R (p0 := 24) (r1 := mX6_lengthOf) dX9_letterOf_21 lX9_136 vX6_lengthOf (by first | rfl | assumption | exact RW.s (by assumption) | exact TW.s (by assumption)) ⟨_, _, rfl⟩ (FITi rfl rfl) (Nat.le_of_ble_eq_true rfl) (lengthOf_sp (by omega) hl) rfl ?_
  first | ((with_reducible refine isN2 ?_); refine g_icmpN_lt (tgt := 30) (p1 := 27) dX9_letterOf_24 rfl (by omega) (by omega) rfl (fun c_24 => by exfalso; first | omega | contradiction | exact absurd (by assumption) c_24 | (simp_all; done)) (fun c_24 => ?_)) | refine g_icmp_lt (tgt := 30) (p1 := 27) dX9_letterOf_24 rfl rfl (fun c_24 => by exfalso; first | omega | contradiction | exact absurd (by assumption) c_24 | (simp_all; done)) (fun c_24 => ?_)
  refine g_ldc (p0 := 29) dX9_letterOf_27 qX9_68 rfl ?_
  refine g_ireturn dX9_letterOf_29 rfl rfl (?_)
  exact ⟨rfl, rfl⟩
set_option maxRecDepth 20000 in
set_option maxHeartbeats 2000000 in
theorem orN_T {σ : Sg} : CM mX9_orNotFound [ai (-1)] σ (Ret (-1000004) σ) := by
  refine CM_in (ls := [some (ai (-1))]) rfl ?_
  refine g_iload_n (p0 := 1) (i := 0) dX9_orNotFound_0 rfl rfl rfl ?_
  refine g_iconst (p0 := 2) (v := -1) dX9_orNotFound_1 rfl rfl ?_
  first | ((with_reducible refine isN2 ?_); refine g_icmpN_ne (tgt := 10) (p1 := 5) dX9_orNotFound_2 rfl (by omega) (by omega) rfl (fun c_2 => by exfalso; exact c_2 rfl) (fun c_2 => ?_)) | refine g_icmp_ne (tgt := 10) (p1 := 5) dX9_orNotFound_2 rfl rfl (fun c_2 => by exfalso; exact c_2 rfl) (fun c_2 => ?_)
  refine g_ldc (p0 := 7) dX9_orNotFound_5 qX9_122 rfl ?_
  refine g_goto (tgt := 11) dX9_orNotFound_7 rfl ?_
  refine g_ireturn dX9_orNotFound_11 rfl rfl (?_)
  exact ⟨rfl, rfl⟩
set_option maxRecDepth 20000 in
set_option maxHeartbeats 2000000 in
theorem orN_F {x : Int32} {σ : Sg} (h : ¬ x = -1) : CM mX9_orNotFound [ai x] σ (Ret x σ) := by
  refine CM_in (ls := [some (ai x)]) rfl ?_
  refine g_iload_n (p0 := 1) (i := 0) dX9_orNotFound_0 rfl rfl rfl ?_
  refine g_iconst (p0 := 2) (v := -1) dX9_orNotFound_1 rfl rfl ?_
  first | ((with_reducible refine isN2 ?_); refine g_icmpN_ne (tgt := 10) (p1 := 5) dX9_orNotFound_2 rfl (by omega) (by omega) rfl (fun c_2 => ?_) (fun c_2 => by exfalso; exact h c_2)) | refine g_icmp_ne (tgt := 10) (p1 := 5) dX9_orNotFound_2 rfl rfl (fun c_2 => ?_) (fun c_2 => by exfalso; exact h c_2)
  refine g_iload_n (p0 := 11) (i := 0) dX9_orNotFound_10 rfl rfl rfl ?_
  refine g_ireturn dX9_orNotFound_11 rfl rfl (?_)
  exact ⟨rfl, rfl⟩
set_option maxRecDepth 20000 in
set_option maxHeartbeats 2000000 in
theorem lo_c0z {m t M f n : Nat}  {σ : Sg} (hM : σ 45 7 = nI M) (hM1 : M ≤ 160) (hm : m < M) (hl : σ 51 m = nI n) (hn : n ≤ 160) (h : t < n) (hf : σ 49 m = nI f) (hfn : f + n ≤ 160) {gg : Nat} (hg : σ 36 (f + t) = nI gg) (hg1 : gg < 500) (hv : σ 42 (f + t) = -1) : CM mX9_letterOf [ar 0, ai (nI m), ai (nI t), ai (nI 0)] σ (Ret (-1000004) σ) := by
  refine CM_in (ls := [some (ar 0), some (ai (nI m)), some (ai (nI t)), some (ai (nI 0)), none, none, none]) rfl ?_
  refine g_aload_n (p0 := 1) (i := 0) dX9_letterOf_0 rfl rfl rfl ?_
  refine g_getR (p0 := 4) dX9_letterOf_1 fX9_29 (by first | rfl | assumption | exact RW.s (by assumption) | exact TW.s (by assumption)) rfl rfl ?_
  refine g_iload_n (p0 := 5) (i := 1) dX9_letterOf_4 rfl rfl rfl ?_
  refine g_cV1R (p0 := 8) (r1 := mX6_hasMessage) dX9_letterOf_5 lX9_133 vX6_hasMessage (by first | rfl | assumption | exact RW.s (by assumption) | exact TW.s (by assumption)) ⟨_, _, rfl⟩ (FITi rfl rfl) (Nat.le_of_ble_eq_true rfl) (hasMessage_T hM hM1 hm) rfl ?_
  first | ((with_reducible refine isN1 ?_); refine g_ifN_eq (tgt := 27) (p1 := 11) dX9_letterOf_8 rfl (by omega) rfl (fun c_8 => by exfalso; first | omega | contradiction | exact absurd (by assumption) c_8 | (simp_all; done)) (fun c_8 => ?_)) | refine g_if_eq (tgt := 27) (p1 := 11) dX9_letterOf_8 rfl rfl (fun c_8 => by exfalso; first | omega | contradiction | exact absurd (by assumption) c_8 | (simp_all; done)) (fun c_8 => ?_)
  refine g_iload_n (p0 := 12) (i := 2) dX9_letterOf_11 rfl rfl rfl ?_
  first | ((with_reducible refine isN1 ?_); refine g_ifN_lt (tgt := 27) (p1 := 15) dX9_letterOf_12 rfl (by omega) rfl (fun c_12 => by exfalso; first | omega | contradiction | exact absurd (by assumption) c_12 | (simp_all; done)) (fun c_12 => ?_)) | refine g_if_lt (tgt := 27) (p1 := 15) dX9_letterOf_12 rfl rfl (fun c_12 => by exfalso; first | omega | contradiction | exact absurd (by assumption) c_12 | (simp_all; done)) (fun c_12 => ?_)
  refine g_iload_n (p0 := 16) (i := 2) dX9_letterOf_15 rfl rfl rfl ?_
  refine g_aload_n (p0 := 17) (i := 0) dX9_letterOf_16 rfl rfl rfl ?_
  refine g_getR (p0 := 20) dX9_letterOf_17 fX9_29 (by first | rfl | assumption | exact RW.s (by assumption) | exact TW.s (by assumption)) rfl rfl ?_
  refine g_iload_n (p0 := 21) (i := 1) dX9_letterOf_20 rfl rfl rfl ?_
  refine g_cV1R (p0 := 24) (r1 := mX6_lengthOf) dX9_letterOf_21 lX9_136 vX6_lengthOf (by first | rfl | assumption | exact RW.s (by assumption) | exact TW.s (by assumption)) ⟨_, _, rfl⟩ (FITi rfl rfl) (Nat.le_of_ble_eq_true rfl) (lengthOf_sp (by omega) hl) rfl ?_
  first | ((with_reducible refine isN2 ?_); refine g_icmpN_lt (tgt := 30) (p1 := 27) dX9_letterOf_24 rfl (by omega) (by omega) rfl (fun c_24 => ?_) (fun c_24 => by exfalso; first | omega | contradiction | exact absurd (by assumption) c_24 | (simp_all; done))) | refine g_icmp_lt (tgt := 30) (p1 := 27) dX9_letterOf_24 rfl rfl (fun c_24 => ?_) (fun c_24 => by exfalso; first | omega | contradiction | exact absurd (by assumption) c_24 | (simp_all; done))
  refine g_aload_n (p0 := 31) (i := 0) dX9_letterOf_30 rfl rfl rfl ?_
  refine g_getR (p0 := 34) dX9_letterOf_31 fX9_29 (by first | rfl | assumption | exact RW.s (by assumption) | exact TW.s (by assumption)) rfl rfl ?_
  refine g_getR (p0 := 37) dX9_letterOf_34 fX9_164 (by first | rfl | assumption | exact RW.s (by assumption) | exact TW.s (by assumption)) rfl rfl ?_
  refine g_astore (p0 := 39) (i := 4) (ls2 := [_, _, _, _, _, _, _]) dX9_letterOf_37 (Nat.le_of_ble_eq_true rfl) rfl rfl ?_
  refine g_aload_n (p0 := 40) (i := 0) dX9_letterOf_39 rfl rfl rfl ?_
  refine g_getR (p0 := 43) dX9_letterOf_40 fX9_29 (by first | rfl | assumption | exact RW.s (by assumption) | exact TW.s (by assumption)) rfl rfl ?_
  refine g_iload_n (p0 := 44) (i := 1) dX9_letterOf_43 rfl rfl rfl ?_
  refine g_iload_n (p0 := 45) (i := 2) dX9_letterOf_44 rfl rfl rfl ?_
  refine g_cV2R (p0 := 48) (r1 := mX6_indexOf) dX9_letterOf_45 lX9_168 vX6_indexOf (by first | rfl | assumption | exact RW.s (by assumption) | exact TW.s (by assumption)) ⟨_, _, rfl⟩ (FITi rfl rfl) (Nat.le_of_ble_eq_true rfl) (indexOf_sp (by omega) hf) rfl ?_
  refine g_istore (p0 := 50) (i := 5) (ls2 := [_, _, _, _, _, _, _]) dX9_letterOf_48 (Nat.le_of_ble_eq_true rfl) rfl rfl ?_
  refine g_aload (p0 := 52) dX9_letterOf_50 rfl rfl ?_
  refine g_getR (p0 := 55) dX9_letterOf_52 fX9_171 (by first | rfl | assumption | exact RW.s (by assumption) | exact TW.s (by assumption)) rfl rfl ?_
  refine g_iload (p0 := 57) dX9_letterOf_55 rfl rfl ?_
  refine g_cV1R (p0 := 60) (r1 := mX7_at) dX9_letterOf_57 lX9_114 vX7_at (by first | rfl | assumption | exact RW.s (by assumption) | exact TW.s (by assumption)) ⟨_, _, rfl⟩ (FITi rfl rfl) (Nat.le_of_ble_eq_true rfl) (at_N (by first | exact ⟨rfl, rfl, by decide⟩ | assumption) (by omega) hg) rfl ?_
  refine g_istore (p0 := 62) (i := 6) (ls2 := [_, _, _, _, _, _, _]) dX9_letterOf_60 (Nat.le_of_ble_eq_true rfl) rfl rfl ?_
  refine g_iload_n (p0 := 63) (i := 3) dX9_letterOf_62 rfl rfl rfl ?_
  refine g_tabIn (tgt := 96) (off := 33) dX9_letterOf_63 (by decide) (by decide) (by decide +kernel) rfl ?_
  refine g_aload (p0 := 98) dX9_letterOf_96 rfl rfl ?_
  refine g_getR (p0 := 101) dX9_letterOf_98 fX9_176 (by first | rfl | assumption | exact RW.s (by assumption) | exact TW.s (by assumption)) rfl rfl ?_
  refine g_iload (p0 := 103) dX9_letterOf_101 rfl rfl ?_
  refine g_cV1R (p0 := 106) (r1 := mX7_at) dX9_letterOf_103 lX9_114 vX7_at (by first | rfl | assumption | exact RW.s (by assumption) | exact TW.s (by assumption)) ⟨_, _, rfl⟩ (FITi rfl rfl) (Nat.le_of_ble_eq_true rfl) (at_N (by first | exact ⟨rfl, rfl, by decide⟩ | assumption) (by omega) hv) rfl ?_
  refine g_cS1R (p0 := 109) (r1 := mX9_orNotFound) dX9_letterOf_106 (Or.inl lX9_179) vX9_orNotFound (FITi rfl rfl) (Nat.le_of_ble_eq_true rfl) (orN_T) rfl ?_
  refine g_ireturn dX9_letterOf_109 rfl rfl (?_)
  exact ⟨rfl, rfl⟩
set_option maxRecDepth 20000 in
set_option maxHeartbeats 2000000 in
theorem lo_c0 {m t M f n : Nat} {v : Int32} {σ : Sg} (hM : σ 45 7 = nI M) (hM1 : M ≤ 160) (hm : m < M) (hl : σ 51 m = nI n) (hn : n ≤ 160) (h : t < n) (hf : σ 49 m = nI f) (hfn : f + n ≤ 160) {gg : Nat} (hg : σ 36 (f + t) = nI gg) (hg1 : gg < 500) (hv : σ 42 (f + t) = v) (hv1 : ¬ v = -1) : CM mX9_letterOf [ar 0, ai (nI m), ai (nI t), ai (nI 0)] σ (Ret v σ) := by
  refine CM_in (ls := [some (ar 0), some (ai (nI m)), some (ai (nI t)), some (ai (nI 0)), none, none, none]) rfl ?_
  refine g_aload_n (p0 := 1) (i := 0) dX9_letterOf_0 rfl rfl rfl ?_
  refine g_getR (p0 := 4) dX9_letterOf_1 fX9_29 (by first | rfl | assumption | exact RW.s (by assumption) | exact TW.s (by assumption)) rfl rfl ?_
  refine g_iload_n (p0 := 5) (i := 1) dX9_letterOf_4 rfl rfl rfl ?_
  refine g_cV1R (p0 := 8) (r1 := mX6_hasMessage) dX9_letterOf_5 lX9_133 vX6_hasMessage (by first | rfl | assumption | exact RW.s (by assumption) | exact TW.s (by assumption)) ⟨_, _, rfl⟩ (FITi rfl rfl) (Nat.le_of_ble_eq_true rfl) (hasMessage_T hM hM1 hm) rfl ?_
  first | ((with_reducible refine isN1 ?_); refine g_ifN_eq (tgt := 27) (p1 := 11) dX9_letterOf_8 rfl (by omega) rfl (fun c_8 => by exfalso; first | omega | contradiction | exact absurd (by assumption) c_8 | (simp_all; done)) (fun c_8 => ?_)) | refine g_if_eq (tgt := 27) (p1 := 11) dX9_letterOf_8 rfl rfl (fun c_8 => by exfalso; first | omega | contradiction | exact absurd (by assumption) c_8 | (simp_all; done)) (fun c_8 => ?_)
  refine g_iload_n (p0 := 12) (i := 2) dX9_letterOf_11 rfl rfl rfl ?_
  first | ((with_reducible refine isN1 ?_); refine g_ifN_lt (tgt := 27) (p1 := 15) dX9_letterOf_12 rfl (by omega) rfl (fun c_12 => by exfalso; first | omega | contradiction | exact absurd (by assumption) c_12 | (simp_all; done)) (fun c_12 => ?_)) | refine g_if_lt (tgt := 27) (p1 := 15) dX9_letterOf_12 rfl rfl (fun c_12 => by exfalso; first | omega | contradiction | exact absurd (by assumption) c_12 | (simp_all; done)) (fun c_12 => ?_)
  refine g_iload_n (p0 := 16) (i := 2) dX9_letterOf_15 rfl rfl rfl ?_
  refine g_aload_n (p0 := 17) (i := 0) dX9_letterOf_16 rfl rfl rfl ?_
  refine g_getR (p0 := 20) dX9_letterOf_17 fX9_29 (by first | rfl | assumption | exact RW.s (by assumption) | exact TW.s (by assumption)) rfl rfl ?_
  refine g_iload_n (p0 := 21) (i := 1) dX9_letterOf_20 rfl rfl rfl ?_
  refine g_cV1R (p0 := 24) (r1 := mX6_lengthOf) dX9_letterOf_21 lX9_136 vX6_lengthOf (by first | rfl | assumption | exact RW.s (by assumption) | exact TW.s (by assumption)) ⟨_, _, rfl⟩ (FITi rfl rfl) (Nat.le_of_ble_eq_true rfl) (lengthOf_sp (by omega) hl) rfl ?_
  first | ((with_reducible refine isN2 ?_); refine g_icmpN_lt (tgt := 30) (p1 := 27) dX9_letterOf_24 rfl (by omega) (by omega) rfl (fun c_24 => ?_) (fun c_24 => by exfalso; first | omega | contradiction | exact absurd (by assumption) c_24 | (simp_all; done))) | refine g_icmp_lt (tgt := 30) (p1 := 27) dX9_letterOf_24 rfl rfl (fun c_24 => ?_) (fun c_24 => by exfalso; first | omega | contradiction | exact absurd (by assumption) c_24 | (simp_all; done))
  refine g_aload_n (p0 := 31) (i := 0) dX9_letterOf_30 rfl rfl rfl ?_
  refine g_getR (p0 := 34) dX9_letterOf_31 fX9_29 (by first | rfl | assumption | exact RW.s (by assumption) | exact TW.s (by assumption)) rfl rfl ?_
  refine g_getR (p0 := 37) dX9_letterOf_34 fX9_164 (by first | rfl | assumption | exact RW.s (by assumption) | exact TW.s (by assumption)) rfl rfl ?_
  refine g_astore (p0 := 39) (i := 4) (ls2 := [_, _, _, _, _, _, _]) dX9_letterOf_37 (Nat.le_of_ble_eq_true rfl) rfl rfl ?_
  refine g_aload_n (p0 := 40) (i := 0) dX9_letterOf_39 rfl rfl rfl ?_
  refine g_getR (p0 := 43) dX9_letterOf_40 fX9_29 (by first | rfl | assumption | exact RW.s (by assumption) | exact TW.s (by assumption)) rfl rfl ?_
  refine g_iload_n (p0 := 44) (i := 1) dX9_letterOf_43 rfl rfl rfl ?_
  refine g_iload_n (p0 := 45) (i := 2) dX9_letterOf_44 rfl rfl rfl ?_
  refine g_cV2R (p0 := 48) (r1 := mX6_indexOf) dX9_letterOf_45 lX9_168 vX6_indexOf (by first | rfl | assumption | exact RW.s (by assumption) | exact TW.s (by assumption)) ⟨_, _, rfl⟩ (FITi rfl rfl) (Nat.le_of_ble_eq_true rfl) (indexOf_sp (by omega) hf) rfl ?_
  refine g_istore (p0 := 50) (i := 5) (ls2 := [_, _, _, _, _, _, _]) dX9_letterOf_48 (Nat.le_of_ble_eq_true rfl) rfl rfl ?_
  refine g_aload (p0 := 52) dX9_letterOf_50 rfl rfl ?_
  refine g_getR (p0 := 55) dX9_letterOf_52 fX9_171 (by first | rfl | assumption | exact RW.s (by assumption) | exact TW.s (by assumption)) rfl rfl ?_
  refine g_iload (p0 := 57) dX9_letterOf_55 rfl rfl ?_
  refine g_cV1R (p0 := 60) (r1 := mX7_at) dX9_letterOf_57 lX9_114 vX7_at (by first | rfl | assumption | exact RW.s (by assumption) | exact TW.s (by assumption)) ⟨_, _, rfl⟩ (FITi rfl rfl) (Nat.le_of_ble_eq_true rfl) (at_N (by first | exact ⟨rfl, rfl, by decide⟩ | assumption) (by omega) hg) rfl ?_
  refine g_istore (p0 := 62) (i := 6) (ls2 := [_, _, _, _, _, _, _]) dX9_letterOf_60 (Nat.le_of_ble_eq_true rfl) rfl rfl ?_
  refine g_iload_n (p0 := 63) (i := 3) dX9_letterOf_62 rfl rfl rfl ?_
  refine g_tabIn (tgt := 96) (off := 33) dX9_letterOf_63 (by decide) (by decide) (by decide +kernel) rfl ?_
  refine g_aload (p0 := 98) dX9_letterOf_96 rfl rfl ?_
  refine g_getR (p0 := 101) dX9_letterOf_98 fX9_176 (by first | rfl | assumption | exact RW.s (by assumption) | exact TW.s (by assumption)) rfl rfl ?_
  refine g_iload (p0 := 103) dX9_letterOf_101 rfl rfl ?_
  refine g_cV1R (p0 := 106) (r1 := mX7_at) dX9_letterOf_103 lX9_114 vX7_at (by first | rfl | assumption | exact RW.s (by assumption) | exact TW.s (by assumption)) ⟨_, _, rfl⟩ (FITi rfl rfl) (Nat.le_of_ble_eq_true rfl) (at_N (by first | exact ⟨rfl, rfl, by decide⟩ | assumption) (by omega) hv) rfl ?_
  refine g_cS1R (p0 := 109) (r1 := mX9_orNotFound) dX9_letterOf_106 (Or.inl lX9_179) vX9_orNotFound (FITi rfl rfl) (Nat.le_of_ble_eq_true rfl) (orN_F hv1) rfl ?_
  refine g_ireturn dX9_letterOf_109 rfl rfl (?_)
  exact ⟨rfl, rfl⟩
set_option maxRecDepth 20000 in
set_option maxHeartbeats 2000000 in
theorem lo_c1 {m t M f n : Nat}  {σ : Sg} (hM : σ 45 7 = nI M) (hM1 : M ≤ 160) (hm : m < M) (hl : σ 51 m = nI n) (hn : n ≤ 160) (h : t < n) (hf : σ 49 m = nI f) (hfn : f + n ≤ 160) {gg : Nat} (hg : σ 36 (f + t) = nI gg) (hg1 : gg < 500)  : CM mX9_letterOf [ar 0, ai (nI m), ai (nI t), ai (nI 1)] σ (Ret (nI gg) σ) := by
  refine CM_in (ls := [some (ar 0), some (ai (nI m)), some (ai (nI t)), some (ai (nI 1)), none, none, none]) rfl ?_
  refine g_aload_n (p0 := 1) (i := 0) dX9_letterOf_0 rfl rfl rfl ?_
  refine g_getR (p0 := 4) dX9_letterOf_1 fX9_29 (by first | rfl | assumption | exact RW.s (by assumption) | exact TW.s (by assumption)) rfl rfl ?_
  refine g_iload_n (p0 := 5) (i := 1) dX9_letterOf_4 rfl rfl rfl ?_
  refine g_cV1R (p0 := 8) (r1 := mX6_hasMessage) dX9_letterOf_5 lX9_133 vX6_hasMessage (by first | rfl | assumption | exact RW.s (by assumption) | exact TW.s (by assumption)) ⟨_, _, rfl⟩ (FITi rfl rfl) (Nat.le_of_ble_eq_true rfl) (hasMessage_T hM hM1 hm) rfl ?_
  first | ((with_reducible refine isN1 ?_); refine g_ifN_eq (tgt := 27) (p1 := 11) dX9_letterOf_8 rfl (by omega) rfl (fun c_8 => by exfalso; first | omega | contradiction | exact absurd (by assumption) c_8 | (simp_all; done)) (fun c_8 => ?_)) | refine g_if_eq (tgt := 27) (p1 := 11) dX9_letterOf_8 rfl rfl (fun c_8 => by exfalso; first | omega | contradiction | exact absurd (by assumption) c_8 | (simp_all; done)) (fun c_8 => ?_)
  refine g_iload_n (p0 := 12) (i := 2) dX9_letterOf_11 rfl rfl rfl ?_
  first | ((with_reducible refine isN1 ?_); refine g_ifN_lt (tgt := 27) (p1 := 15) dX9_letterOf_12 rfl (by omega) rfl (fun c_12 => by exfalso; first | omega | contradiction | exact absurd (by assumption) c_12 | (simp_all; done)) (fun c_12 => ?_)) | refine g_if_lt (tgt := 27) (p1 := 15) dX9_letterOf_12 rfl rfl (fun c_12 => by exfalso; first | omega | contradiction | exact absurd (by assumption) c_12 | (simp_all; done)) (fun c_12 => ?_)
  refine g_iload_n (p0 := 16) (i := 2) dX9_letterOf_15 rfl rfl rfl ?_
  refine g_aload_n (p0 := 17) (i := 0) dX9_letterOf_16 rfl rfl rfl ?_
  refine g_getR (p0 := 20) dX9_letterOf_17 fX9_29 (by first | rfl | assumption | exact RW.s (by assumption) | exact TW.s (by assumption)) rfl rfl ?_
  refine g_iload_n (p0 := 21) (i := 1) dX9_letterOf_20 rfl rfl rfl ?_
  refine g_cV1R (p0 := 24) (r1 := mX6_lengthOf) dX9_letterOf_21 lX9_136 vX6_lengthOf (by first | rfl | assumption | exact RW.s (by assumption) | exact TW.s (by assumption)) ⟨_, _, rfl⟩ (FITi rfl rfl) (Nat.le_of_ble_eq_true rfl) (lengthOf_sp (by omega) hl) rfl ?_
  first | ((with_reducible refine isN2 ?_); refine g_icmpN_lt (tgt := 30) (p1 := 27) dX9_letterOf_24 rfl (by omega) (by omega) rfl (fun c_24 => ?_) (fun c_24 => by exfalso; first | omega | contradiction | exact absurd (by assumption) c_24 | (simp_all; done))) | refine g_icmp_lt (tgt := 30) (p1 := 27) dX9_letterOf_24 rfl rfl (fun c_24 => ?_) (fun c_24 => by exfalso; first | omega | contradiction | exact absurd (by assumption) c_24 | (simp_all; done))
  refine g_aload_n (p0 := 31) (i := 0) dX9_letterOf_30 rfl rfl rfl ?_
  refine g_getR (p0 := 34) dX9_letterOf_31 fX9_29 (by first | rfl | assumption | exact RW.s (by assumption) | exact TW.s (by assumption)) rfl rfl ?_
  refine g_getR (p0 := 37) dX9_letterOf_34 fX9_164 (by first | rfl | assumption | exact RW.s (by assumption) | exact TW.s (by assumption)) rfl rfl ?_
  refine g_astore (p0 := 39) (i := 4) (ls2 := [_, _, _, _, _, _, _]) dX9_letterOf_37 (Nat.le_of_ble_eq_true rfl) rfl rfl ?_
  refine g_aload_n (p0 := 40) (i := 0) dX9_letterOf_39 rfl rfl rfl ?_
  refine g_getR (p0 := 43) dX9_letterOf_40 fX9_29 (by first | rfl | assumption | exact RW.s (by assumption) | exact TW.s (by assumption)) rfl rfl ?_
  refine g_iload_n (p0 := 44) (i := 1) dX9_letterOf_43 rfl rfl rfl ?_
  refine g_iload_n (p0 := 45) (i := 2) dX9_letterOf_44 rfl rfl rfl ?_
  refine g_cV2R (p0 := 48) (r1 := mX6_indexOf) dX9_letterOf_45 lX9_168 vX6_indexOf (by first | rfl | assumption | exact RW.s (by assumption) | exact TW.s (by assumption)) ⟨_, _, rfl⟩ (FITi rfl rfl) (Nat.le_of_ble_eq_true rfl) (indexOf_sp (by omega) hf) rfl ?_
  refine g_istore (p0 := 50) (i := 5) (ls2 := [_, _, _, _, _, _, _]) dX9_letterOf_48 (Nat.le_of_ble_eq_true rfl) rfl rfl ?_
  refine g_aload (p0 := 52) dX9_letterOf_50 rfl rfl ?_
  refine g_getR (p0 := 55) dX9_letterOf_52 fX9_171 (by first | rfl | assumption | exact RW.s (by assumption) | exact TW.s (by assumption)) rfl rfl ?_
  refine g_iload (p0 := 57) dX9_letterOf_55 rfl rfl ?_
  refine g_cV1R (p0 := 60) (r1 := mX7_at) dX9_letterOf_57 lX9_114 vX7_at (by first | rfl | assumption | exact RW.s (by assumption) | exact TW.s (by assumption)) ⟨_, _, rfl⟩ (FITi rfl rfl) (Nat.le_of_ble_eq_true rfl) (at_N (by first | exact ⟨rfl, rfl, by decide⟩ | assumption) (by omega) hg) rfl ?_
  refine g_istore (p0 := 62) (i := 6) (ls2 := [_, _, _, _, _, _, _]) dX9_letterOf_60 (Nat.le_of_ble_eq_true rfl) rfl rfl ?_
  refine g_iload_n (p0 := 63) (i := 3) dX9_letterOf_62 rfl rfl rfl ?_
  refine g_tabIn (tgt := 110) (off := 47) dX9_letterOf_63 (by decide) (by decide) (by decide +kernel) rfl ?_
  refine g_iload (p0 := 112) dX9_letterOf_110 rfl rfl ?_
  refine g_ireturn dX9_letterOf_112 rfl rfl (?_)
  exact ⟨rfl, rfl⟩
set_option maxRecDepth 20000 in
set_option maxHeartbeats 2000000 in
theorem lo_c2 {m t M f n : Nat} {v : Int32} {σ : Sg} (hM : σ 45 7 = nI M) (hM1 : M ≤ 160) (hm : m < M) (hl : σ 51 m = nI n) (hn : n ≤ 160) (h : t < n) (hf : σ 49 m = nI f) (hfn : f + n ≤ 160) {gg : Nat} (hg : σ 36 (f + t) = nI gg) (hg1 : gg < 500) (hv : σ 38 (f + t) = v) : CM mX9_letterOf [ar 0, ai (nI m), ai (nI t), ai (nI 2)] σ (Ret v σ) := by
  refine CM_in (ls := [some (ar 0), some (ai (nI m)), some (ai (nI t)), some (ai (nI 2)), none, none, none]) rfl ?_
  refine g_aload_n (p0 := 1) (i := 0) dX9_letterOf_0 rfl rfl rfl ?_
  refine g_getR (p0 := 4) dX9_letterOf_1 fX9_29 (by first | rfl | assumption | exact RW.s (by assumption) | exact TW.s (by assumption)) rfl rfl ?_
  refine g_iload_n (p0 := 5) (i := 1) dX9_letterOf_4 rfl rfl rfl ?_
  refine g_cV1R (p0 := 8) (r1 := mX6_hasMessage) dX9_letterOf_5 lX9_133 vX6_hasMessage (by first | rfl | assumption | exact RW.s (by assumption) | exact TW.s (by assumption)) ⟨_, _, rfl⟩ (FITi rfl rfl) (Nat.le_of_ble_eq_true rfl) (hasMessage_T hM hM1 hm) rfl ?_
  first | ((with_reducible refine isN1 ?_); refine g_ifN_eq (tgt := 27) (p1 := 11) dX9_letterOf_8 rfl (by omega) rfl (fun c_8 => by exfalso; first | omega | contradiction | exact absurd (by assumption) c_8 | (simp_all; done)) (fun c_8 => ?_)) | refine g_if_eq (tgt := 27) (p1 := 11) dX9_letterOf_8 rfl rfl (fun c_8 => by exfalso; first | omega | contradiction | exact absurd (by assumption) c_8 | (simp_all; done)) (fun c_8 => ?_)
  refine g_iload_n (p0 := 12) (i := 2) dX9_letterOf_11 rfl rfl rfl ?_
  first | ((with_reducible refine isN1 ?_); refine g_ifN_lt (tgt := 27) (p1 := 15) dX9_letterOf_12 rfl (by omega) rfl (fun c_12 => by exfalso; first | omega | contradiction | exact absurd (by assumption) c_12 | (simp_all; done)) (fun c_12 => ?_)) | refine g_if_lt (tgt := 27) (p1 := 15) dX9_letterOf_12 rfl rfl (fun c_12 => by exfalso; first | omega | contradiction | exact absurd (by assumption) c_12 | (simp_all; done)) (fun c_12 => ?_)
  refine g_iload_n (p0 := 16) (i := 2) dX9_letterOf_15 rfl rfl rfl ?_
  refine g_aload_n (p0 := 17) (i := 0) dX9_letterOf_16 rfl rfl rfl ?_
  refine g_getR (p0 := 20) dX9_letterOf_17 fX9_29 (by first | rfl | assumption | exact RW.s (by assumption) | exact TW.s (by assumption)) rfl rfl ?_
  refine g_iload_n (p0 := 21) (i := 1) dX9_letterOf_20 rfl rfl rfl ?_
  refine g_cV1R (p0 := 24) (r1 := mX6_lengthOf) dX9_letterOf_21 lX9_136 vX6_lengthOf (by first | rfl | assumption | exact RW.s (by assumption) | exact TW.s (by assumption)) ⟨_, _, rfl⟩ (FITi rfl rfl) (Nat.le_of_ble_eq_true rfl) (lengthOf_sp (by omega) hl) rfl ?_
  first | ((with_reducible refine isN2 ?_); refine g_icmpN_lt (tgt := 30) (p1 := 27) dX9_letterOf_24 rfl (by omega) (by omega) rfl (fun c_24 => ?_) (fun c_24 => by exfalso; first | omega | contradiction | exact absurd (by assumption) c_24 | (simp_all; done))) | refine g_icmp_lt (tgt := 30) (p1 := 27) dX9_letterOf_24 rfl rfl (fun c_24 => ?_) (fun c_24 => by exfalso; first | omega | contradiction | exact absurd (by assumption) c_24 | (simp_all; done))
  refine g_aload_n (p0 := 31) (i := 0) dX9_letterOf_30 rfl rfl rfl ?_
  refine g_getR (p0 := 34) dX9_letterOf_31 fX9_29 (by first | rfl | assumption | exact RW.s (by assumption) | exact TW.s (by assumption)) rfl rfl ?_
  refine g_getR (p0 := 37) dX9_letterOf_34 fX9_164 (by first | rfl | assumption | exact RW.s (by assumption) | exact TW.s (by assumption)) rfl rfl ?_
  refine g_astore (p0 := 39) (i := 4) (ls2 := [_, _, _, _, _, _, _]) dX9_letterOf_37 (Nat.le_of_ble_eq_true rfl) rfl rfl ?_
  refine g_aload_n (p0 := 40) (i := 0) dX9_letterOf_39 rfl rfl rfl ?_
  refine g_getR (p0 := 43) dX9_letterOf_40 fX9_29 (by first | rfl | assumption | exact RW.s (by assumption) | exact TW.s (by assumption)) rfl rfl ?_
  refine g_iload_n (p0 := 44) (i := 1) dX9_letterOf_43 rfl rfl rfl ?_
  refine g_iload_n (p0 := 45) (i := 2) dX9_letterOf_44 rfl rfl rfl ?_
  refine g_cV2R (p0 := 48) (r1 := mX6_indexOf) dX9_letterOf_45 lX9_168 vX6_indexOf (by first | rfl | assumption | exact RW.s (by assumption) | exact TW.s (by assumption)) ⟨_, _, rfl⟩ (FITi rfl rfl) (Nat.le_of_ble_eq_true rfl) (indexOf_sp (by omega) hf) rfl ?_
  refine g_istore (p0 := 50) (i := 5) (ls2 := [_, _, _, _, _, _, _]) dX9_letterOf_48 (Nat.le_of_ble_eq_true rfl) rfl rfl ?_
  refine g_aload (p0 := 52) dX9_letterOf_50 rfl rfl ?_
  refine g_getR (p0 := 55) dX9_letterOf_52 fX9_171 (by first | rfl | assumption | exact RW.s (by assumption) | exact TW.s (by assumption)) rfl rfl ?_
  refine g_iload (p0 := 57) dX9_letterOf_55 rfl rfl ?_
  refine g_cV1R (p0 := 60) (r1 := mX7_at) dX9_letterOf_57 lX9_114 vX7_at (by first | rfl | assumption | exact RW.s (by assumption) | exact TW.s (by assumption)) ⟨_, _, rfl⟩ (FITi rfl rfl) (Nat.le_of_ble_eq_true rfl) (at_N (by first | exact ⟨rfl, rfl, by decide⟩ | assumption) (by omega) hg) rfl ?_
  refine g_istore (p0 := 62) (i := 6) (ls2 := [_, _, _, _, _, _, _]) dX9_letterOf_60 (Nat.le_of_ble_eq_true rfl) rfl rfl ?_
  refine g_iload_n (p0 := 63) (i := 3) dX9_letterOf_62 rfl rfl rfl ?_
  refine g_tabIn (tgt := 113) (off := 50) dX9_letterOf_63 (by decide) (by decide) (by decide +kernel) rfl ?_
  refine g_aload (p0 := 115) dX9_letterOf_113 rfl rfl ?_
  refine g_getR (p0 := 118) dX9_letterOf_115 fX9_182 (by first | rfl | assumption | exact RW.s (by assumption) | exact TW.s (by assumption)) rfl rfl ?_
  refine g_iload (p0 := 120) dX9_letterOf_118 rfl rfl ?_
  refine g_cV1R (p0 := 123) (r1 := mX7_at) dX9_letterOf_120 lX9_114 vX7_at (by first | rfl | assumption | exact RW.s (by assumption) | exact TW.s (by assumption)) ⟨_, _, rfl⟩ (FITi rfl rfl) (Nat.le_of_ble_eq_true rfl) (at_N (by first | exact ⟨rfl, rfl, by decide⟩ | assumption) (by omega) hv) rfl ?_
  refine g_ireturn dX9_letterOf_123 rfl rfl (?_)
  exact ⟨rfl, rfl⟩
set_option maxRecDepth 20000 in
set_option maxHeartbeats 2000000 in
theorem lo_c3z {m t M f n : Nat}  {σ : Sg} (hM : σ 45 7 = nI M) (hM1 : M ≤ 160) (hm : m < M) (hl : σ 51 m = nI n) (hn : n ≤ 160) (h : t < n) (hf : σ 49 m = nI f) (hfn : f + n ≤ 160) {gg : Nat} (hg : σ 36 (f + t) = nI gg) (hg1 : gg < 500) (h2 : gg < 2) : CM mX9_letterOf [ar 0, ai (nI m), ai (nI t), ai (nI 3)] σ (Ret (-1000004) σ) := by
  refine CM_in (ls := [some (ar 0), some (ai (nI m)), some (ai (nI t)), some (ai (nI 3)), none, none, none]) rfl ?_
  refine g_aload_n (p0 := 1) (i := 0) dX9_letterOf_0 rfl rfl rfl ?_
  refine g_getR (p0 := 4) dX9_letterOf_1 fX9_29 (by first | rfl | assumption | exact RW.s (by assumption) | exact TW.s (by assumption)) rfl rfl ?_
  refine g_iload_n (p0 := 5) (i := 1) dX9_letterOf_4 rfl rfl rfl ?_
  refine g_cV1R (p0 := 8) (r1 := mX6_hasMessage) dX9_letterOf_5 lX9_133 vX6_hasMessage (by first | rfl | assumption | exact RW.s (by assumption) | exact TW.s (by assumption)) ⟨_, _, rfl⟩ (FITi rfl rfl) (Nat.le_of_ble_eq_true rfl) (hasMessage_T hM hM1 hm) rfl ?_
  first | ((with_reducible refine isN1 ?_); refine g_ifN_eq (tgt := 27) (p1 := 11) dX9_letterOf_8 rfl (by omega) rfl (fun c_8 => by exfalso; first | omega | contradiction | exact absurd (by assumption) c_8 | (simp_all; done)) (fun c_8 => ?_)) | refine g_if_eq (tgt := 27) (p1 := 11) dX9_letterOf_8 rfl rfl (fun c_8 => by exfalso; first | omega | contradiction | exact absurd (by assumption) c_8 | (simp_all; done)) (fun c_8 => ?_)
  refine g_iload_n (p0 := 12) (i := 2) dX9_letterOf_11 rfl rfl rfl ?_
  first | ((with_reducible refine isN1 ?_); refine g_ifN_lt (tgt := 27) (p1 := 15) dX9_letterOf_12 rfl (by omega) rfl (fun c_12 => by exfalso; first | omega | contradiction | exact absurd (by assumption) c_12 | (simp_all; done)) (fun c_12 => ?_)) | refine g_if_lt (tgt := 27) (p1 := 15) dX9_letterOf_12 rfl rfl (fun c_12 => by exfalso; first | omega | contradiction | exact absurd (by assumption) c_12 | (simp_all; done)) (fun c_12 => ?_)
  refine g_iload_n (p0 := 16) (i := 2) dX9_letterOf_15 rfl rfl rfl ?_
  refine g_aload_n (p0 := 17) (i := 0) dX9_letterOf_16 rfl rfl rfl ?_
  refine g_getR (p0 := 20) dX9_letterOf_17 fX9_29 (by first | rfl | assumption | exact RW.s (by assumption) | exact TW.s (by assumption)) rfl rfl ?_
  refine g_iload_n (p0 := 21) (i := 1) dX9_letterOf_20 rfl rfl rfl ?_
  refine g_cV1R (p0 := 24) (r1 := mX6_lengthOf) dX9_letterOf_21 lX9_136 vX6_lengthOf (by first | rfl | assumption | exact RW.s (by assumption) | exact TW.s (by assumption)) ⟨_, _, rfl⟩ (FITi rfl rfl) (Nat.le_of_ble_eq_true rfl) (lengthOf_sp (by omega) hl) rfl ?_
  first | ((with_reducible refine isN2 ?_); refine g_icmpN_lt (tgt := 30) (p1 := 27) dX9_letterOf_24 rfl (by omega) (by omega) rfl (fun c_24 => ?_) (fun c_24 => by exfalso; first | omega | contradiction | exact absurd (by assumption) c_24 | (simp_all; done))) | refine g_icmp_lt (tgt := 30) (p1 := 27) dX9_letterOf_24 rfl rfl (fun c_24 => ?_) (fun c_24 => by exfalso; first | omega | contradiction | exact absurd (by assumption) c_24 | (simp_all; done))
  refine g_aload_n (p0 := 31) (i := 0) dX9_letterOf_30 rfl rfl rfl ?_
  refine g_getR (p0 := 34) dX9_letterOf_31 fX9_29 (by first | rfl | assumption | exact RW.s (by assumption) | exact TW.s (by assumption)) rfl rfl ?_
  refine g_getR (p0 := 37) dX9_letterOf_34 fX9_164 (by first | rfl | assumption | exact RW.s (by assumption) | exact TW.s (by assumption)) rfl rfl ?_
  refine g_astore (p0 := 39) (i := 4) (ls2 := [_, _, _, _, _, _, _]) dX9_letterOf_37 (Nat.le_of_ble_eq_true rfl) rfl rfl ?_
  refine g_aload_n (p0 := 40) (i := 0) dX9_letterOf_39 rfl rfl rfl ?_
  refine g_getR (p0 := 43) dX9_letterOf_40 fX9_29 (by first | rfl | assumption | exact RW.s (by assumption) | exact TW.s (by assumption)) rfl rfl ?_
  refine g_iload_n (p0 := 44) (i := 1) dX9_letterOf_43 rfl rfl rfl ?_
  refine g_iload_n (p0 := 45) (i := 2) dX9_letterOf_44 rfl rfl rfl ?_
  refine g_cV2R (p0 := 48) (r1 := mX6_indexOf) dX9_letterOf_45 lX9_168 vX6_indexOf (by first | rfl | assumption | exact RW.s (by assumption) | exact TW.s (by assumption)) ⟨_, _, rfl⟩ (FITi rfl rfl) (Nat.le_of_ble_eq_true rfl) (indexOf_sp (by omega) hf) rfl ?_
  refine g_istore (p0 := 50) (i := 5) (ls2 := [_, _, _, _, _, _, _]) dX9_letterOf_48 (Nat.le_of_ble_eq_true rfl) rfl rfl ?_
  refine g_aload (p0 := 52) dX9_letterOf_50 rfl rfl ?_
  refine g_getR (p0 := 55) dX9_letterOf_52 fX9_171 (by first | rfl | assumption | exact RW.s (by assumption) | exact TW.s (by assumption)) rfl rfl ?_
  refine g_iload (p0 := 57) dX9_letterOf_55 rfl rfl ?_
  refine g_cV1R (p0 := 60) (r1 := mX7_at) dX9_letterOf_57 lX9_114 vX7_at (by first | rfl | assumption | exact RW.s (by assumption) | exact TW.s (by assumption)) ⟨_, _, rfl⟩ (FITi rfl rfl) (Nat.le_of_ble_eq_true rfl) (at_N (by first | exact ⟨rfl, rfl, by decide⟩ | assumption) (by omega) hg) rfl ?_
  refine g_istore (p0 := 62) (i := 6) (ls2 := [_, _, _, _, _, _, _]) dX9_letterOf_60 (Nat.le_of_ble_eq_true rfl) rfl rfl ?_
  refine g_iload_n (p0 := 63) (i := 3) dX9_letterOf_62 rfl rfl rfl ?_
  refine g_tabIn (tgt := 124) (off := 61) dX9_letterOf_63 (by decide) (by decide) (by decide +kernel) rfl ?_
  refine g_iload (p0 := 126) dX9_letterOf_124 rfl rfl ?_
  refine g_iconst (p0 := 127) (v := nI 2) dX9_letterOf_126 rfl rfl ?_
  first | ((with_reducible refine isN2 ?_); refine g_icmpN_ge (tgt := 135) (p1 := 130) dX9_letterOf_127 rfl (by omega) (by omega) rfl (fun c_127 => by exfalso; first | omega | contradiction | exact absurd (by assumption) c_127 | (simp_all; done)) (fun c_127 => ?_)) | refine g_icmp_ge (tgt := 135) (p1 := 130) dX9_letterOf_127 rfl rfl (fun c_127 => by exfalso; first | omega | contradiction | exact absurd (by assumption) c_127 | (simp_all; done)) (fun c_127 => ?_)
  refine g_ldc (p0 := 132) dX9_letterOf_130 qX9_122 rfl ?_
  refine g_goto (tgt := 145) dX9_letterOf_132 rfl ?_
  refine g_ireturn dX9_letterOf_145 rfl rfl (?_)
  exact ⟨rfl, rfl⟩
set_option maxRecDepth 20000 in
set_option maxHeartbeats 2000000 in
theorem lo_c3 {m t M f n : Nat} {v : Int32} {σ : Sg} (hM : σ 45 7 = nI M) (hM1 : M ≤ 160) (hm : m < M) (hl : σ 51 m = nI n) (hn : n ≤ 160) (h : t < n) (hf : σ 49 m = nI f) (hfn : f + n ≤ 160) {gg : Nat} (hg : σ 36 (f + t) = nI gg) (hg1 : gg < 500) (h2 : 2 ≤ gg) (hv : σ 40 (f + t) = v) : CM mX9_letterOf [ar 0, ai (nI m), ai (nI t), ai (nI 3)] σ (Ret v σ) := by
  refine CM_in (ls := [some (ar 0), some (ai (nI m)), some (ai (nI t)), some (ai (nI 3)), none, none, none]) rfl ?_
  refine g_aload_n (p0 := 1) (i := 0) dX9_letterOf_0 rfl rfl rfl ?_
  refine g_getR (p0 := 4) dX9_letterOf_1 fX9_29 (by first | rfl | assumption | exact RW.s (by assumption) | exact TW.s (by assumption)) rfl rfl ?_
  refine g_iload_n (p0 := 5) (i := 1) dX9_letterOf_4 rfl rfl rfl ?_
  refine g_cV1R (p0 := 8) (r1 := mX6_hasMessage) dX9_letterOf_5 lX9_133 vX6_hasMessage (by first | rfl | assumption | exact RW.s (by assumption) | exact TW.s (by assumption)) ⟨_, _, rfl⟩ (FITi rfl rfl) (Nat.le_of_ble_eq_true rfl) (hasMessage_T hM hM1 hm) rfl ?_
  first | ((with_reducible refine isN1 ?_); refine g_ifN_eq (tgt := 27) (p1 := 11) dX9_letterOf_8 rfl (by omega) rfl (fun c_8 => by exfalso; first | omega | contradiction | exact absurd (by assumption) c_8 | (simp_all; done)) (fun c_8 => ?_)) | refine g_if_eq (tgt := 27) (p1 := 11) dX9_letterOf_8 rfl rfl (fun c_8 => by exfalso; first | omega | contradiction | exact absurd (by assumption) c_8 | (simp_all; done)) (fun c_8 => ?_)
  refine g_iload_n (p0 := 12) (i := 2) dX9_letterOf_11 rfl rfl rfl ?_
  first | ((with_reducible refine isN1 ?_); refine g_ifN_lt (tgt := 27) (p1 := 15) dX9_letterOf_12 rfl (by omega) rfl (fun c_12 => by exfalso; first | omega | contradiction | exact absurd (by assumption) c_12 | (simp_all; done)) (fun c_12 => ?_)) | refine g_if_lt (tgt := 27) (p1 := 15) dX9_letterOf_12 rfl rfl (fun c_12 => by exfalso; first | omega | contradiction | exact absurd (by assumption) c_12 | (simp_all; done)) (fun c_12 => ?_)
  refine g_iload_n (p0 := 16) (i := 2) dX9_letterOf_15 rfl rfl rfl ?_
  refine g_aload_n (p0 := 17) (i := 0) dX9_letterOf_16 rfl rfl rfl ?_
  refine g_getR (p0 := 20) dX9_letterOf_17 fX9_29 (by first | rfl | assumption | exact RW.s (by assumption) | exact TW.s (by assumption)) rfl rfl ?_
  refine g_iload_n (p0 := 21) (i := 1) dX9_letterOf_20 rfl rfl rfl ?_
  refine g_cV1R (p0 := 24) (r1 := mX6_lengthOf) dX9_letterOf_21 lX9_136 vX6_lengthOf (by first | rfl | assumption | exact RW.s (by assumption) | exact TW.s (by assumption)) ⟨_, _, rfl⟩ (FITi rfl rfl) (Nat.le_of_ble_eq_true rfl) (lengthOf_sp (by omega) hl) rfl ?_
  first | ((with_reducible refine isN2 ?_); refine g_icmpN_lt (tgt := 30) (p1 := 27) dX9_letterOf_24 rfl (by omega) (by omega) rfl (fun c_24 => ?_) (fun c_24 => by exfalso; first | omega | contradiction | exact absurd (by assumption) c_24 | (simp_all; done))) | refine g_icmp_lt (tgt := 30) (p1 := 27) dX9_letterOf_24 rfl rfl (fun c_24 => ?_) (fun c_24 => by exfalso; first | omega | contradiction | exact absurd (by assumption) c_24 | (simp_all; done))
  refine g_aload_n (p0 := 31) (i := 0) dX9_letterOf_30 rfl rfl rfl ?_
  refine g_getR (p0 := 34) dX9_letterOf_31 fX9_29 (by first | rfl | assumption | exact RW.s (by assumption) | exact TW.s (by assumption)) rfl rfl ?_
  refine g_getR (p0 := 37) dX9_letterOf_34 fX9_164 (by first | rfl | assumption | exact RW.s (by assumption) | exact TW.s (by assumption)) rfl rfl ?_
  refine g_astore (p0 := 39) (i := 4) (ls2 := [_, _, _, _, _, _, _]) dX9_letterOf_37 (Nat.le_of_ble_eq_true rfl) rfl rfl ?_
  refine g_aload_n (p0 := 40) (i := 0) dX9_letterOf_39 rfl rfl rfl ?_
  refine g_getR (p0 := 43) dX9_letterOf_40 fX9_29 (by first | rfl | assumption | exact RW.s (by assumption) | exact TW.s (by assumption)) rfl rfl ?_
  refine g_iload_n (p0 := 44) (i := 1) dX9_letterOf_43 rfl rfl rfl ?_
  refine g_iload_n (p0 := 45) (i := 2) dX9_letterOf_44 rfl rfl rfl ?_
  refine g_cV2R (p0 := 48) (r1 := mX6_indexOf) dX9_letterOf_45 lX9_168 vX6_indexOf (by first | rfl | assumption | exact RW.s (by assumption) | exact TW.s (by assumption)) ⟨_, _, rfl⟩ (FITi rfl rfl) (Nat.le_of_ble_eq_true rfl) (indexOf_sp (by omega) hf) rfl ?_
  refine g_istore (p0 := 50) (i := 5) (ls2 := [_, _, _, _, _, _, _]) dX9_letterOf_48 (Nat.le_of_ble_eq_true rfl) rfl rfl ?_
  refine g_aload (p0 := 52) dX9_letterOf_50 rfl rfl ?_
  refine g_getR (p0 := 55) dX9_letterOf_52 fX9_171 (by first | rfl | assumption | exact RW.s (by assumption) | exact TW.s (by assumption)) rfl rfl ?_
  refine g_iload (p0 := 57) dX9_letterOf_55 rfl rfl ?_
  refine g_cV1R (p0 := 60) (r1 := mX7_at) dX9_letterOf_57 lX9_114 vX7_at (by first | rfl | assumption | exact RW.s (by assumption) | exact TW.s (by assumption)) ⟨_, _, rfl⟩ (FITi rfl rfl) (Nat.le_of_ble_eq_true rfl) (at_N (by first | exact ⟨rfl, rfl, by decide⟩ | assumption) (by omega) hg) rfl ?_
  refine g_istore (p0 := 62) (i := 6) (ls2 := [_, _, _, _, _, _, _]) dX9_letterOf_60 (Nat.le_of_ble_eq_true rfl) rfl rfl ?_
  refine g_iload_n (p0 := 63) (i := 3) dX9_letterOf_62 rfl rfl rfl ?_
  refine g_tabIn (tgt := 124) (off := 61) dX9_letterOf_63 (by decide) (by decide) (by decide +kernel) rfl ?_
  refine g_iload (p0 := 126) dX9_letterOf_124 rfl rfl ?_
  refine g_iconst (p0 := 127) (v := nI 2) dX9_letterOf_126 rfl rfl ?_
  first | ((with_reducible refine isN2 ?_); refine g_icmpN_ge (tgt := 135) (p1 := 130) dX9_letterOf_127 rfl (by omega) (by omega) rfl (fun c_127 => ?_) (fun c_127 => by exfalso; first | omega | contradiction | exact absurd (by assumption) c_127 | (simp_all; done))) | refine g_icmp_ge (tgt := 135) (p1 := 130) dX9_letterOf_127 rfl rfl (fun c_127 => ?_) (fun c_127 => by exfalso; first | omega | contradiction | exact absurd (by assumption) c_127 | (simp_all; done))
  refine g_aload (p0 := 137) dX9_letterOf_135 rfl rfl ?_
  refine g_getR (p0 := 140) dX9_letterOf_137 fX9_185 (by first | rfl | assumption | exact RW.s (by assumption) | exact TW.s (by assumption)) rfl rfl ?_
  refine g_iload (p0 := 142) dX9_letterOf_140 rfl rfl ?_
  refine g_cV1R (p0 := 145) (r1 := mX7_at) dX9_letterOf_142 lX9_114 vX7_at (by first | rfl | assumption | exact RW.s (by assumption) | exact TW.s (by assumption)) ⟨_, _, rfl⟩ (FITi rfl rfl) (Nat.le_of_ble_eq_true rfl) (at_N (by first | exact ⟨rfl, rfl, by decide⟩ | assumption) (by omega) hv) rfl ?_
  refine g_ireturn dX9_letterOf_145 rfl rfl (?_)
  exact ⟨rfl, rfl⟩
