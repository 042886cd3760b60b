/-! QUESTIONS: letterOf -/
set_option maxRecDepth 20000 in
set_option maxHeartbeats 2000000 in
theorem lo_cF {x y z : Int32} {σ : Sg} (h : CM mX6_hasMessage [ar 33, ai x] σ (Ret (nI 0) σ)) : CM mX9_letterOf [ar 0, ai x, ai y, ai z] σ (Ret (-1000001) σ) := by
  refine CM_in (ls := [some (ar 0), some (ai x), some (ai y), some (ai z), none, none, none]) rfl ?_
  refine g_aload_n (p0 := 1) (i := 0) dX9_letterOf_0 rfl rfl rfl ?_
  refine g_getR (p0 := 4) dX9_letterOf_1 fX9_29 (by first | rfl | assumption | exact RW.s (by assumption) | exact TW.s (by assumption)) rfl rfl ?_
  refine g_iload_n (p0 := 5) (i := 1) dX9_letterOf_4 rfl rfl rfl ?_
  refine g_cV1R (p0 := 8) (r1 := mX6_hasMessage) dX9_letterOf_5 lX9_133 vX6_hasMessage (by first | rfl | assumption | exact RW.s (by assumption) | exact TW.s (by assumption)) ⟨_, _, rfl⟩ (FITi rfl rfl) (Nat.le_of_ble_eq_true rfl) (h) rfl ?_
  first | ((with_reducible refine isN1 ?_); refine g_ifN_eq (tgt := 27) (p1 := 11) dX9_letterOf_8 rfl (by omega) rfl (fun c_8 => ?_) (fun c_8 => by exfalso; first | omega | contradiction | exact absurd (by assumption) c_8 | (simp_all; done))) | refine g_if_eq (tgt := 27) (p1 := 11) dX9_letterOf_8 rfl rfl (fun c_8 => ?_) (fun c_8 => by exfalso; first | omega | contradiction | exact absurd (by assumption) c_8 | (simp_all; done))
  refine g_ldc (p0 := 29) dX9_letterOf_27 qX9_68 rfl ?_
  refine g_ireturn dX9_letterOf_29 rfl rfl (?_)
  exact ⟨rfl, rfl⟩
set_option maxRecDepth 20000 in
set_option maxHeartbeats 2000000 in
theorem lo_cn {m t M f n : Nat} {x y : Int32} {σ : Sg} (hM : σ 45 7 = nI M) (hM1 : M ≤ 160) (hm : m < M) (hl : σ 51 m = nI n) (hn : n ≤ 160) (h : y < 0) : CM mX9_letterOf [ar 0, ai (nI m), ai y, ai x] σ (Ret (-1000001) σ) := by
  refine CM_in (ls := [some (ar 0), some (ai (nI m)), some (ai y), some (ai x), none, none, none]) rfl ?_
  refine g_aload_n (p0 := 1) (i := 0) dX9_letterOf_0 rfl rfl rfl ?_
  refine g_getR (p0 := 4) dX9_letterOf_1 fX9_29 (by first | rfl | assumption | exact RW.s (by assumption) | exact TW.s (by assumption)) rfl rfl ?_
  refine g_iload_n (p0 := 5) (i := 1) dX9_letterOf_4 rfl rfl rfl ?_
  refine g_cV1R (p0 := 8) (r1 := mX6_hasMessage) dX9_letterOf_5 lX9_133 vX6_hasMessage (by first | rfl | assumption | exact RW.s (by assumption) | exact TW.s (by assumption)) ⟨_, _, rfl⟩ (FITi rfl rfl) (Nat.le_of_ble_eq_true rfl) (hasMessage_T hM hM1 hm) rfl ?_
  first | ((with_reducible refine isN1 ?_); refine g_ifN_eq (tgt := 27) (p1 := 11) dX9_letterOf_8 rfl (by omega) rfl (fun c_8 => by exfalso; first | omega | contradiction | exact absurd h c_8 | exact h c_8 | exact c_8 h) (fun c_8 => ?_)) | refine g_if_eq (tgt := 27) (p1 := 11) dX9_letterOf_8 rfl rfl (fun c_8 => by exfalso; first | omega | contradiction | exact absurd h c_8 | exact h c_8 | exact c_8 h) (fun c_8 => ?_)
  refine g_iload_n (p0 := 12) (i := 2) dX9_letterOf_11 rfl rfl rfl ?_
  first | ((with_reducible refine isN1 ?_); refine g_ifN_lt (tgt := 27) (p1 := 15) dX9_letterOf_12 rfl (by omega) rfl (fun c_12 => ?_) (fun c_12 => by exfalso; first | omega | contradiction | exact absurd h c_12 | exact h c_12 | exact c_12 h)) | refine g_if_lt (tgt := 27) (p1 := 15) dX9_letterOf_12 rfl rfl (fun c_12 => ?_) (fun c_12 => by exfalso; first | omega | contradiction | exact absurd h c_12 | exact h c_12 | exact c_12 h)
  refine g_ldc (p0 := 29) dX9_letterOf_27 qX9_68 rfl ?_
  refine g_ireturn dX9_letterOf_29 rfl rfl (?_)
  exact ⟨rfl, rfl⟩
set_option maxRecDepth 20000 in
set_option maxHeartbeats 2000000 in
theorem lo_cb {m t M f n : Nat} {x : Int32} {σ : Sg} (hM : σ 45 7 = nI M) (hM1 : M ≤ 160) (hm : m < M) (hl : σ 51 m = nI n) (hn : n ≤ 160) (h : n ≤ t) (ht : t < 2147483648) : CM mX9_letterOf [ar 0, ai (nI m), ai (nI t), ai x] σ (Ret (-1000001) σ) := by
  refine CM_in (ls := [some (ar 0), some (ai (nI m)), some (ai (nI t)), some (ai x), none, none, none]) rfl ?_
  refine g_aload_n (p0 := 1) (i := 0) dX9_letterOf_0 rfl rfl rfl ?_
  refine g_getR (p0 := 4) dX9_letterOf_1 fX9_29 (by first | rfl | assumption | exact RW.s (by assumption) | exact TW.s (by assumption)) rfl rfl ?_
  refine g_iload_n (p0 := 5) (i := 1) dX9_letterOf_4 rfl rfl rfl ?_
  refine g_cV1R (p0 := 8) (r1 := mX6_hasMessage) dX9_letterOf_5 lX9_133 vX6_hasMessage (by first | rfl | assumption | exact RW.s (by assumption) | exact TW.s (by assumption)) ⟨_, _, rfl⟩ (FITi rfl rfl) (Nat.le_of_ble_eq_true rfl) (hasMessage_T hM hM1 hm) rfl ?_
  first | ((with_reducible refine isN1 ?_); refine g_ifN_eq (tgt := 27) (p1 := 11) dX9_letterOf_8 rfl (by omega) rfl (fun c_8 => by exfalso; first | omega | contradiction | exact absurd (by assumption) c_8 | (simp_all; done)) (fun c_8 => ?_)) | refine g_if_eq (tgt := 27) (p1 := 11) dX9_letterOf_8 rfl rfl (fun c_8 => by exfalso; first | omega | contradiction | exact absurd (by assumption) c_8 | (simp_all; done)) (fun c_8 => ?_)
  refine g_iload_n (p0 := 12) (i := 2) dX9_letterOf_11 rfl rfl rfl ?_
  first | ((with_reducible refine isN1 ?_); refine g_ifN_lt (tgt := 27) (p1 := 15) dX9_letterOf_12 rfl (by omega) rfl (fun c_12 => by exfalso; first | omega | contradiction | exact absurd (by assumption) c_12 | (simp_all; done)) (fun c_12 => ?_)) | refine g_if_lt (tgt := 27) (p1 := 15) dX9_letterOf_12 rfl rfl (fun c_12 => by exfalso; first | omega | contradiction | exact absurd (by assumption) c_12 | (simp_all; done)) (fun c_12 => ?_)
  refine g_iload_n (p0 := 16) (i := 2) dX9_letterOf_15 rfl rfl rfl ?_
  refine g_aload_n (p0 := 17) (i := 0) dX9_letterOf_16 rfl rfl rfl ?_
  refine g_getR (p0 := 20) dX9_letterOf_17 fX9_29 (by first | rfl | assumption | exact RW.s (by assumption) | exact TW.s (by assumption)) rfl rfl ?_
  refine g_iload_n (p0 := 21) (i := 1) dX9_letterOf_20 rfl rfl rfl ?_
  refine g_cV1R (p0 := 24) (r1 := mX6_lengthOf) dX9_letterOf_21 lX9_136 vX6_lengthOf (by first | rfl | assumption | exact RW.s (by assumption) | exact TW.s (by assumption)) ⟨_, _, rfl⟩ (FITi rfl rfl) (Nat.le_of_ble_eq_true rfl) (lengthOf_sp (by omega) hl) rfl ?_
  first | ((with_reducible refine isN2 ?_); refine g_icmpN_lt (tgt := 30) (p1 := 27) dX9_letterOf_24 rfl (by omega) (by omega) rfl (fun c_24 => by exfalso; first | omega | contradiction | exact absurd (by assumption) c_24 | (simp_all; done)) (fun c_24 => ?_)) | refine g_icmp_lt (tgt := 30) (p1 := 27) dX9_letterOf_24 rfl rfl (fun c_24 => by exfalso; first | omega | contradiction | exact absurd (by assumption) c_24 | (simp_all; done)) (fun c_24 => ?_)
  refine g_ldc (p0 := 29) dX9_letterOf_27 qX9_68 rfl ?_
  refine g_ireturn dX9_letterOf_29 rfl rfl (?_)
  exact ⟨rfl, rfl⟩
set_option maxRecDepth 20000 in
set_option maxHeartbeats 2000000 in
theorem lo_cx {m t M f n : Nat} {x : Int32} {σ : Sg} (hM : σ 45 7 = nI M) (hM1 : M ≤ 160) (hm : m < M) (hl : σ 51 m = nI n) (hn : n ≤ 160) (h : t < n) (hf : σ 49 m = nI f) (hfn : f + n ≤ 160) {gg : Nat} (hg : σ 36 (f + t) = nI gg) (hg1 : gg < 500) (hx : x.toInt < 0 ∨ 4 < x.toInt) : CM mX9_letterOf [ar 0, ai (nI m), ai (nI t), ai x] σ (Ret (-1000001) σ) := by
  refine CM_in (ls := [some (ar 0), some (ai (nI m)), some (ai (nI t)), some (ai x), none, none, none]) rfl ?_
  refine g_aload_n (p0 := 1) (i := 0) dX9_letterOf_0 rfl rfl rfl ?_
  refine g_getR (p0 := 4) dX9_letterOf_1 fX9_29 (by first | rfl | assumption | exact RW.s (by assumption) | exact TW.s (by assumption)) rfl rfl ?_
  refine g_iload_n (p0 := 5) (i := 1) dX9_letterOf_4 rfl rfl rfl ?_
  refine g_cV1R (p0 := 8) (r1 := mX6_hasMessage) dX9_letterOf_5 lX9_133 vX6_hasMessage (by first | rfl | assumption | exact RW.s (by assumption) | exact TW.s (by assumption)) ⟨_, _, rfl⟩ (FITi rfl rfl) (Nat.le_of_ble_eq_true rfl) (hasMessage_T hM hM1 hm) rfl ?_
  first | ((with_reducible refine isN1 ?_); refine g_ifN_eq (tgt := 27) (p1 := 11) dX9_letterOf_8 rfl (by omega) rfl (fun c_8 => by exfalso; first | omega | contradiction | exact absurd (by assumption) c_8 | (simp_all; done)) (fun c_8 => ?_)) | refine g_if_eq (tgt := 27) (p1 := 11) dX9_letterOf_8 rfl rfl (fun c_8 => by exfalso; first | omega | contradiction | exact absurd (by assumption) c_8 | (simp_all; done)) (fun c_8 => ?_)
  refine g_iload_n (p0 := 12) (i := 2) dX9_letterOf_11 rfl rfl rfl ?_
  first | ((with_reducible refine isN1 ?_); refine g_ifN_lt (tgt := 27) (p1 := 15) dX9_letterOf_12 rfl (by omega) rfl (fun c_12 => by exfalso; first | omega | contradiction | exact absurd (by assumption) c_12 | (simp_all; done)) (fun c_12 => ?_)) | refine g_if_lt (tgt := 27) (p1 := 15) dX9_letterOf_12 rfl rfl (fun c_12 => by exfalso; first | omega | contradiction | exact absurd (by assumption) c_12 | (simp_all; done)) (fun c_12 => ?_)
  refine g_iload_n (p0 := 16) (i := 2) dX9_letterOf_15 rfl rfl rfl ?_
  refine g_aload_n (p0 := 17) (i := 0) dX9_letterOf_16 rfl rfl rfl ?_
  refine g_getR (p0 := 20) dX9_letterOf_17 fX9_29 (by first | rfl | assumption | exact RW.s (by assumption) | exact TW.s (by assumption)) rfl rfl ?_
  refine g_iload_n (p0 := 21) (i := 1) dX9_letterOf_20 rfl rfl rfl ?_
  refine g_cV1R (p0 := 24) (r1 := mX6_lengthOf) dX9_letterOf_21 lX9_136 vX6_lengthOf (by first | rfl | assumption | exact RW.s (by assumption) | exact TW.s (by assumption)) ⟨_, _, rfl⟩ (FITi rfl rfl) (Nat.le_of_ble_eq_true rfl) (lengthOf_sp (by omega) hl) rfl ?_
  first | ((with_reducible refine isN2 ?_); refine g_icmpN_lt (tgt := 30) (p1 := 27) dX9_letterOf_24 rfl (by omega) (by omega) rfl (fun c_24 => ?_) (fun c_24 => by exfalso; first | omega | contradiction | exact absurd (by assumption) c_24 | (simp_all; done))) | refine g_icmp_lt (tgt := 30) (p1 := 27) dX9_letterOf_24 rfl rfl (fun c_24 => ?_) (fun c_24 => by exfalso; first | omega | contradiction | exact absurd (by assumption) c_24 | (simp_all; done))
  refine g_aload_n (p0 := 31) (i := 0) dX9_letterOf_30 rfl rfl rfl ?_
  refine g_getR (p0 := 34) dX9_letterOf_31 fX9_29 (by first | rfl | assumption | exact RW.s (by assumption) | exact TW.s (by assumption)) rfl rfl ?_
  refine g_getR (p0 := 37) dX9_letterOf_34 fX9_164 (by first | rfl | assumption | exact RW.s (by assumption) | exact TW.s (by assumption)) rfl rfl ?_
  refine g_astore (p0 := 39) (i := 4) (ls2 := [_, _, _, _, _, _, _]) dX9_letterOf_37 (Nat.le_of_ble_eq_true rfl) rfl rfl ?_
  refine g_aload_n (p0 := 40) (i := 0) dX9_letterOf_39 rfl rfl rfl ?_
  refine g_getR (p0 := 43) dX9_letterOf_40 fX9_29 (by first | rfl | assumption | exact RW.s (by assumption) | exact TW.s (by assumption)) rfl rfl ?_
  refine g_iload_n (p0 := 44) (i := 1) dX9_letterOf_43 rfl rfl rfl ?_
  refine g_iload_n (p0 := 45) (i := 2) dX9_letterOf_44 rfl rfl rfl ?_
  refine g_cV2R (p0 := 48) (r1 := mX6_indexOf) dX9_letterOf_45 lX9_168 vX6_indexOf (by first | rfl | assumption | exact RW.s (by assumption) | exact TW.s (by assumption)) ⟨_, _, rfl⟩ (FITi rfl rfl) (Nat.le_of_ble_eq_true rfl) (indexOf_sp (by omega) hf) rfl ?_
  refine g_istore (p0 := 50) (i := 5) (ls2 := [_, _, _, _, _, _, _]) dX9_letterOf_48 (Nat.le_of_ble_eq_true rfl) rfl rfl ?_
  refine g_aload (p0 := 52) dX9_letterOf_50 rfl rfl ?_
  refine g_getR (p0 := 55) dX9_letterOf_52 fX9_171 (by first | rfl | assumption | exact RW.s (by assumption) | exact TW.s (by assumption)) rfl rfl ?_
  refine g_iload (p0 := 57) dX9_letterOf_55 rfl rfl ?_
  refine g_cV1R (p0 := 60) (r1 := mX7_at) dX9_letterOf_57 lX9_114 vX7_at (by first | rfl | assumption | exact RW.s (by assumption) | exact TW.s (by assumption)) ⟨_, _, rfl⟩ (FITi rfl rfl) (Nat.le_of_ble_eq_true rfl) (at_N (by first | exact ⟨rfl, rfl, by decide⟩ | assumption) (by omega) hg) rfl ?_
  refine g_istore (p0 := 62) (i := 6) (ls2 := [_, _, _, _, _, _, _]) dX9_letterOf_60 (Nat.le_of_ble_eq_true rfl) rfl rfl ?_
  refine g_iload_n (p0 := 63) (i := 3) dX9_letterOf_62 rfl rfl rfl ?_
  refine g_tabOut (tgt := 165) dX9_letterOf_63 (by omega) rfl ?_
  refine g_ldc (p0 := 167) dX9_letterOf_165 qX9_68 rfl ?_
  refine g_ireturn dX9_letterOf_167 rfl rfl (?_)
  exact ⟨rfl, rfl⟩
set_option maxRecDepth 20000 in
set_option maxHeartbeats 2000000 in
theorem orN_T {σ : Sg} : CM mX9_orNotFound [ai (-1)] σ (Ret (-1000004) σ) := by
  refine CM_in (ls := [some (ai (-1))]) rfl ?_
  refine g_iload_n (p0 := 1) (i := 0) dX9_orNotFound_0 rfl rfl rfl ?_
  refine g_iconst (p0 := 2) (v := -1) dX9_orNotFound_1 rfl rfl ?_
  first | ((with_reducible refine isN2 ?_); refine g_icmpN_ne (tgt := 10) (p1 := 5) dX9_orNotFound_2 rfl (by omega) (by omega) rfl (fun c_2 => by exfalso; exact c_2 rfl) (fun c_2 => ?_)) | refine g_icmp_ne (tgt := 10) (p1 := 5) dX9_orNotFound_2 rfl rfl (fun c_2 => by exfalso; exact c_2 rfl) (fun c_2 => ?_)
  refine g_ldc (p0 := 7) dX9_orNotFound_5 qX9_122 rfl ?_
  refine g_goto (tgt := 11) dX9_orNotFound_7 rfl ?_
  refine g_ireturn dX9_orNotFound_11 rfl rfl (?_)
  exact ⟨rfl, rfl⟩
set_option maxRecDepth 20000 in
set_option maxHeartbeats 2000000 in
theorem orN_F {x : Int32} {σ : Sg} (h : ¬ x = -1) : CM mX9_orNotFound [ai x] σ (Ret x σ) := by
  refine CM_in (ls := [some (ai x)]) rfl ?_
  refine g_iload_n (p0 := 1) (i := 0) dX9_orNotFound_0 rfl rfl rfl ?_
  refine g_iconst (p0 := 2) (v := -1) dX9_orNotFound_1 rfl rfl ?_
  first | ((with_reducible refine isN2 ?_); refine g_icmpN_ne (tgt := 10) (p1 := 5) dX9_orNotFound_2 rfl (by omega) (by omega) rfl (fun c_2 => ?_) (fun c_2 => by exfalso; exact h c_2)) | refine g_icmp_ne (tgt := 10) (p1 := 5) dX9_orNotFound_2 rfl rfl (fun c_2 => ?_) (fun c_2 => by exfalso; exact h c_2)
  refine g_iload_n (p0 := 11) (i := 0) dX9_orNotFound_10 rfl rfl rfl ?_
  refine g_ireturn dX9_orNotFound_11 rfl rfl (?_)
  exact ⟨rfl, rfl⟩
set_option maxRecDepth 20000 in
set_option maxHeartbeats 2000000 in
theorem lo_c0z {m t M f n : Nat}  {σ : Sg} (hM : σ 45 7 = nI M) (hM1 : M ≤ 160) (hm : m < M) (hl : σ 51 m = nI n) (hn : n ≤ 160) (h : t < n) (hf : σ 49 m = nI f) (hfn : f + n ≤ 160) {gg : Nat} (hg : σ 36 (f + t) = nI gg) (hg1 : gg < 500) (hv : σ 42 (f + t) = -1) : CM mX9_letterOf [ar 0, ai (nI m), ai (nI t), ai (nI 0)] σ (Ret (-1000004) σ) := by
  refine CM_in (ls := [some (ar 0), some (ai (nI m)), some (ai (nI t)), some (ai (nI 0)), none, none, none]) rfl ?_
  refine g_aload_n (p0 := 1) (i := 0) dX9_letterOf_0 rfl rfl rfl ?_
  refine g_getR (p0 := 4) dX9_letterOf_1 fX9_29 (by first | rfl | assumption | exact RW.s (by assumption) | exact TW.s (by assumption)) rfl rfl ?_
  refine g_iload_n (p0 := 5) (i := 1) dX9_letterOf_4 rfl rfl rfl ?_
  refine g_cV1R (p0 := 8) (r1 := mX6_hasMessage) dX9_letterOf_5 lX9_133 vX6_hasMessage (by first | rfl | assumption | exact RW.s (by assumption) | exact TW.s (by assumption)) ⟨_, _, rfl⟩ (FITi rfl rfl) (Nat.le_of_ble_eq_true rfl) (hasMessage_T hM hM1 hm) rfl ?_
  first | ((with_reducible refine isN1 ?_); refine g_ifN_eq (tgt := 27) (p1 := 11) dX9_letterOf_8 rfl (by omega) rfl (fun c_8 => by exfalso; first | omega | contradiction | exact absurd (by assumption) c_8 | (simp_all; done)) (fun c_8 => ?_)) | refine g_if_eq (tgt := 27) (p1 := 11) dX9_letterOf_8 rfl rfl (fun c_8 => by exfalso; first | omega | contradiction | exact absurd (by assumption) c_8 | (simp_all; done)) (fun c_8 => ?_)
  refine g_iload_n (p0 := 12) (i := 2) dX9_letterOf_11 rfl rfl rfl ?_
  first | ((with_reducible refine isN1 ?_); refine g_ifN_lt (tgt := 27) (p1 := 15) dX9_letterOf_12 rfl (by omega) rfl (fun c_12 => by exfalso; first | omega | contradiction | exact absurd (by assumption) c_12 | (simp_all; done)) (fun c_12 => ?_)) | refine g_if_lt (tgt := 27) (p1 := 15) dX9_letterOf_12 rfl rfl (fun c_12 => by exfalso; first | omega | contradiction | exact absurd (by assumption) c_12 | (simp_all; done)) (fun c_12 => ?_)
  refine g_iload_n (p0 := 16) (i := 2) dX9_letterOf_15 rfl rfl rfl ?_
  refine g_aload_n (p0 := 17) (i := 0) dX9_letterOf_16 rfl rfl rfl ?_
  refine g_getR (p0 := 20) dX9_letterOf_17 fX9_29 (by first | rfl | assumption | exact RW.s (by assumption) | exact TW.s (by assumption)) rfl rfl ?_
  refine g_iload_n (p0 := 21) (i := 1) dX9_letterOf_20 rfl rfl rfl ?_
  refine g_cV1R (p0 := 24) (r1 := mX6_lengthOf) dX9_letterOf_21 lX9_136 vX6_lengthOf (by first | rfl | assumption | exact RW.s (by assumption) | exact TW.s (by assumption)) ⟨_, _, rfl⟩ (FITi rfl rfl) (Nat.le_of_ble_eq_true rfl) (lengthOf_sp (by omega) hl) rfl ?_
  first | ((with_reducible refine isN2 ?_); refine g_icmpN_lt (tgt := 30) (p1 := 27) dX9_letterOf_24 rfl (by omega) (by omega) rfl (fun c_24 => ?_) (fun c_24 => by exfalso; first | omega | contradiction | exact absurd (by assumption) c_24 | (simp_all; done))) | refine g_icmp_lt (tgt := 30) (p1 := 27) dX9_letterOf_24 rfl rfl (fun c_24 => ?_) (fun c_24 => by exfalso; first | omega | contradiction | exact absurd (by assumption) c_24 | (simp_all; done))
  refine g_aload_n (p0 := 31) (i := 0) dX9_letterOf_30 rfl rfl rfl ?_
  refine g_getR (p0 := 34) dX9_letterOf_31 fX9_29 (by first | rfl | assumption | exact RW.s (by assumption) | exact TW.s (by assumption)) rfl rfl ?_
  refine g_getR (p0 := 37) dX9_letterOf_34 fX9_164 (by first | rfl | assumption | exact RW.s (by assumption) | exact TW.s (by assumption)) rfl rfl ?_
  refine g_astore (p0 := 39) (i := 4) (ls2 := [_, _, _, _, _, _, _]) dX9_letterOf_37 (Nat.le_of_ble_eq_true rfl) rfl rfl ?_
  refine g_aload_n (p0 := 40) (i := 0) dX9_letterOf_39 rfl rfl rfl ?_
  refine g_getR (p0 := 43) dX9_letterOf_40 fX9_29 (by first | rfl | assumption | exact RW.s (by assumption) | exact TW.s (by assumption)) rfl rfl ?_
  refine g_iload_n (p0 := 44) (i := 1) dX9_letterOf_43 rfl rfl rfl ?_
  refine g_iload_n (p0 := 45) (i := 2) dX9_letterOf_44 rfl rfl rfl ?_
  refine g_cV2R (p0 := 48) (r1 := mX6_indexOf) dX9_letterOf_45 lX9_168 vX6_indexOf (by first | rfl | assumption | exact RW.s (by assumption) | exact TW.s (by assumption)) ⟨_, _, rfl⟩ (FITi rfl rfl) (Nat.le_of_ble_eq_true rfl) (indexOf_sp (by omega) hf) rfl ?_
  refine g_istore (p0 := 50) (i := 5) (ls2 := [_, _, _, _, _, _, _]) dX9_letterOf_48 (Nat.le_of_ble_eq_true rfl) rfl rfl ?_
  refine g_aload (p0 := 52) dX9_letterOf_50 rfl rfl ?_
  refine g_getR (p0 := 55) dX9_letterOf_52 fX9_171 (by first | rfl | assumption | exact RW.s (by assumption) | exact TW.s (by assumption)) rfl rfl ?_
  refine g_iload (p0 := 57) dX9_letterOf_55 rfl rfl ?_
  refine g_cV1R (p0 := 60) (r1 := mX7_at) dX9_letterOf_57 lX9_114 vX7_at (by first | rfl | assumption | exact RW.s (by assumption) | exact TW.s (by assumption)) ⟨_, _, rfl⟩ (FITi rfl rfl) (Nat.le_of_ble_eq_true rfl) (at_N (by first | exact ⟨rfl, rfl, by decide⟩ | assumption) (by omega) hg) rfl ?_
  refine g_istore (p0 := 62) (i := 6) (ls2 := [_, _, _, _, _, _, _]) dX9_letterOf_60 (Nat.le_of_ble_eq_true rfl) rfl rfl ?_
  refine g_iload_n (p0 := 63) (i := 3) dX9_letterOf_62 rfl rfl rfl ?_
  refine g_tabIn (tgt := 96) (off := 33) dX9_letterOf_63 (by decide) (by decide) (by decide +kernel) rfl ?_
  refine g_aload (p0 := 98) dX9_letterOf_96 rfl rfl ?_
  refine g_getR (p0 := 101) dX9_letterOf_98 fX9_176 (by first | rfl | assumption | exact RW.s (by assumption) | exact TW.s (by assumption)) rfl rfl ?_
  refine g_iload (p0 := 103) dX9_letterOf_101 rfl rfl ?_
  refine g_cV1R (p0 := 106) (r1 := mX7_at) dX9_letterOf_103 lX9_114 vX7_at (by first | rfl | assumption | exact RW.s (by assumption) | exact TW.s (by assumption)) ⟨_, _, rfl⟩ (FITi rfl rfl) (Nat.le_of_ble_eq_true rfl) (at_N (by first | exact ⟨rfl, rfl, by decide⟩ | assumption) (by omega) hv) rfl ?_
  refine g_cS1R (p0 := 109) (r1 := mX9_orNotFound) dX9_letterOf_106 (Or.inl lX9_179) vX9_orNotFound (FITi rfl rfl) (Nat.le_of_ble_eq_true rfl) (orN_T) rfl ?_
  refine g_ireturn dX9_letterOf_109 rfl rfl (?_)
  exact ⟨rfl, rfl⟩
set_option maxRecDepth 20000 in
set_option maxHeartbeats 2000000 in
theorem lo_c0 {m t M f n : Nat} {v : Int32} {σ : Sg} (hM : σ 45 7 = nI M) (hM1 : M ≤ 160) (hm : m < M) (hl : σ 51 m = nI n) (hn : n ≤ 160) (h : t < n) (hf : σ 49 m = nI f) (hfn : f + n ≤ 160) {gg : Nat} (hg : σ 36 (f + t) = nI gg) (hg1 : gg < 500) (hv : σ 42 (f + t) = v) (hv1 : ¬ v = -1) : CM mX9_letterOf [ar 0, ai (nI m), ai (nI t), ai (nI 0)] σ (Ret v σ) := by
  refine CM_in (ls := [some (ar 0), some (ai (nI m)), some (ai (nI t)), some (ai (nI 0)), none, none, none]) rfl ?_
  refine g_aload_n (p0 := 1) (i := 0) dX9_letterOf_0 rfl rfl rfl ?_
  refine g_getR (p0 := 4) dX9_letterOf_1 fX9_29 (by first | rfl | assumption | exact RW.s (by assumption) | exact TW.s (by assumption)) rfl rfl ?_
  refine g_iload_n (p0 := 5) (i := 1) dX9_letterOf_4 rfl rfl rfl ?_
  refine g_cV1R (p0 := 8) (r1 := mX6_hasMessage) dX9_letterOf_5 lX9_133 vX6_hasMessage (by first | rfl | assumption | exact RW.s (by assumption) | exact TW.s (by assumption)) ⟨_, _, rfl⟩ (FITi rfl rfl) (Nat.le_of_ble_eq_true rfl) (hasMessage_T hM hM1 hm) rfl ?_
  first | ((with_reducible refine isN1 ?_); refine g_ifN_eq (tgt := 27) (p1 := 11) dX9_letterOf_8 rfl (by omega) rfl (fun c_8 => by exfalso; first | omega | contradiction | exact absurd (by assumption) c_8 | (simp_all; done)) (fun c_8 => ?_)) | refine g_if_eq (tgt := 27) (p1 := 11) dX9_letterOf_8 rfl rfl (fun c_8 => by exfalso; first | omega | contradiction | exact absurd (by assumption) c_8 | (simp_all; done)) (fun c_8 => ?_)
  refine g_iload_n (p0 := 12) (i := 2) dX9_letterOf_11 rfl rfl rfl ?_
  first | ((with_reducible refine isN1 ?_); refine g_ifN_lt (tgt := 27) (p1 := 15) dX9_letterOf_12 rfl (by omega) rfl (fun c_12 => by exfalso; first | omega | contradiction | exact absurd (by assumption) c_12 | (simp_all; done)) (fun c_12 => ?_)) | refine g_if_lt (tgt := 27) (p1 := 15) dX9_letterOf_12 rfl rfl (fun c_12 => by exfalso; first | omega | contradiction | exact absurd (by assumption) c_12 | (simp_all; done)) (fun c_12 => ?_)
  refine g_iload_n (p0 := 16) (i := 2) dX9_letterOf_15 rfl rfl rfl ?_
  refine g_aload_n (p0 := 17) (i := 0) dX9_letterOf_16 rfl rfl rfl ?_
  refine g_getR (p0 := 20) dX9_letterOf_17 fX9_29 (by first | rfl | assumption | exact RW.s (by assumption) | exact TW.s (by assumption)) rfl rfl ?_
  refine g_iload_n (p0 := 21) (i := 1) dX9_letterOf_20 rfl rfl rfl ?_
  refine g_cV1R (p0 := 24) (r1 := mX6_lengthOf) dX9_letterOf_21 lX9_136 vX6_lengthOf (by first | rfl | assumption | exact RW.s (by assumption) | exact TW.s (by assumption)) ⟨_, _, rfl⟩ (FITi rfl rfl) (Nat.le_of_ble_eq_true rfl) (lengthOf_sp (by omega) hl) rfl ?_
  first | ((with_reducible refine isN2 ?_); refine g_icmpN_lt (tgt := 30) (p1 := 27) dX9_letterOf_24 rfl (by omega) (by omega) rfl (fun c_24 => ?_) (fun c_24 => by exfalso; first | omega | contradiction | exact absurd (by assumption) c_24 | (simp_all; done))) | refine g_icmp_lt (tgt := 30) (p1 := 27) dX9_letterOf_24 rfl rfl (fun c_24 => ?_) (fun c_24 => by exfalso; first | omega | contradiction | exact absurd (by assumption) c_24 | (simp_all; done))
  refine g_aload_n (p0 := 31) (i := 0) dX9_letterOf_30 rfl rfl rfl ?_
  refine g_getR (p0 := 34) dX9_letterOf_31 fX9_29 (by first | rfl | assumption | exact RW.s (by assumption) | exact TW.s (by assumption)) rfl rfl ?_
  refine g_getR (p0 := 37) dX9_letterOf_34 fX9_164 (by first | rfl | assumption | exact RW.s (by assumption) | exact TW.s (by assumption)) rfl rfl ?_
  refine g_astore (p0 := 39) (i := 4) (ls2 := [_, _, _, _, _, _, _]) dX9_letterOf_37 (Nat.le_of_ble_eq_true rfl) rfl rfl ?_
  refine g_aload_n (p0 := 40) (i := 0) dX9_letterOf_39 rfl rfl rfl ?_
  refine g_getR (p0 := 43) dX9_letterOf_40 fX9_29 (by first | rfl | assumption | exact RW.s (by assumption) | exact TW.s (by assumption)) rfl rfl ?_
  refine g_iload_n (p0 := 44) (i := 1) dX9_letterOf_43 rfl rfl rfl ?_
  refine g_iload_n (p0 := 45) (i := 2) dX9_letterOf_44 rfl rfl rfl ?_
  refine g_cV2R (p0 := 48) (r1 := mX6_indexOf) dX9_letterOf_45 lX9_168 vX6_indexOf (by first | rfl | assumption | exact RW.s (by assumption) | exact TW.s (by assumption)) ⟨_, _, rfl⟩ (FITi rfl rfl) (Nat.le_of_ble_eq_true rfl) (indexOf_sp (by omega) hf) rfl ?_
  refine g_istore (p0 := 50) (i := 5) (ls2 := [_, _, _, _, _, _, _]) dX9_letterOf_48 (Nat.le_of_ble_eq_true rfl) rfl rfl ?_
  refine g_aload (p0 := 52) dX9_letterOf_50 rfl rfl ?_
  refine g_getR (p0 := 55) dX9_letterOf_52 fX9_171 (by first | rfl | assumption | exact RW.s (by assumption) | exact TW.s (by assumption)) rfl rfl ?_
  refine g_iload (p0 := 57) dX9_letterOf_55 rfl rfl ?_
  refine g_cV1R (p0 := 60) (r1 := mX7_at) dX9_letterOf_57 lX9_114 vX7_at (by first | rfl | assumption | exact RW.s (by assumption) | exact TW.s (by assumption)) ⟨_, _, rfl⟩ (FITi rfl rfl) (Nat.le_of_ble_eq_true rfl) (at_N (by first | exact ⟨rfl, rfl, by decide⟩ | assumption) (by omega) hg) rfl ?_
  refine g_istore (p0 := 62) (i := 6) (ls2 := [_, _, _, _, _, _, _]) dX9_letterOf_60 (Nat.le_of_ble_eq_true rfl) rfl rfl ?_
  refine g_iload_n (p0 := 63) (i := 3) dX9_letterOf_62 rfl rfl rfl ?_
  refine g_tabIn (tgt := 96) (off := 33) dX9_letterOf_63 (by decide) (by decide) (by decide +kernel) rfl ?_
  refine g_aload (p0 := 98) dX9_letterOf_96 rfl rfl ?_
  refine g_getR (p0 := 101) dX9_letterOf_98 fX9_176 (by first | rfl | assumption | exact RW.s (by assumption) | exact TW.s (by assumption)) rfl rfl ?_
  refine g_iload (p0 := 103) dX9_letterOf_101 rfl rfl ?_
  refine g_cV1R (p0 := 106) (r1 := mX7_at) dX9_letterOf_103 lX9_114 vX7_at (by first | rfl | assumption | exact RW.s (by assumption) | exact TW.s (by assumption)) ⟨_, _, rfl⟩ (FITi rfl rfl) (Nat.le_of_ble_eq_true rfl) (at_N (by first | exact ⟨rfl, rfl, by decide⟩ | assumption) (by omega) hv) rfl ?_
  refine g_cS1R (p0 := 109) (r1 := mX9_orNotFound) dX9_letterOf_106 (Or.inl lX9_179) vX9_orNotFound (FITi rfl rfl) (Nat.le_of_ble_eq_true rfl) (orN_F hv1) rfl ?_
  refine g_ireturn dX9_letterOf_109 rfl rfl (?_)
  exact ⟨rfl, rfl⟩
set_option maxRecDepth 20000 in
set_option maxHeartbeats 2000000 in
theorem lo_c1 {m t M f n : Nat}  {σ : Sg} (hM : σ 45 7 = nI M) (hM1 : M ≤ 160) (hm : m < M) (hl : σ 51 m = nI n) (hn : n ≤ 160) (h : t < n) (hf : σ 49 m = nI f) (hfn : f + n ≤ 160) {gg : Nat} (hg : σ 36 (f + t) = nI gg) (hg1 : gg < 500)  : CM mX9_letterOf [ar 0, ai (nI m), ai (nI t), ai (nI 1)] σ (Ret (nI gg) σ) := by
  refine CM_in (ls := [some (ar 0), some (ai (nI m)), some (ai (nI t)), some (ai (nI 1)), none, none, none]) rfl ?_
  refine g_aload_n (p0 := 1) (i := 0) dX9_letterOf_0 rfl rfl rfl ?_
  refine g_getR (p0 := 4) dX9_letterOf_1 fX9_29 (by first | rfl | assumption | exact RW.s (by assumption) | exact TW.s (by assumption)) rfl rfl ?_
  refine g_iload_n (p0 := 5) (i := 1) dX9_letterOf_4 rfl rfl rfl ?_
  refine g_cV1R (p0 := 8) (r1 := mX6_hasMessage) dX9_letterOf_5 lX9_133 vX6_hasMessage (by first | rfl | assumption | exact RW.s (by assumption) | exact TW.s (by assumption)) ⟨_, _, rfl⟩ (FITi rfl rfl) (Nat.le_of_ble_eq_true rfl) (hasMessage_T hM hM1 hm) rfl ?_
  first | ((with_reducible refine isN1 ?_); refine g_ifN_eq (tgt := 27) (p1 := 11) dX9_letterOf_8 rfl (by omega) rfl (fun c_8 => by exfalso; first | omega | contradiction | exact absurd (by assumption) c_8 | (simp_all; done)) (fun c_8 => ?_)) | refine g_if_eq (tgt := 27) (p1 := 11) dX9_letterOf_8 rfl rfl (fun c_8 => by exfalso; first | omega | contradiction | exact absurd (by assumption) c_8 | (simp_all; done)) (fun c_8 => ?_)
  refine g_iload_n (p0 := 12) (i := 2) dX9_letterOf_11 rfl rfl rfl ?_
  first | ((with_reducible refine isN1 ?_); refine g_ifN_lt (tgt := 27) (p1 := 15) dX9_letterOf_12 rfl (by omega) rfl (fun c_12 => by exfalso; first | omega | contradiction | exact absurd (by assumption) c_12 | (simp_all; done)) (fun c_12 => ?_)) | refine g_if_lt (tgt := 27) (p1 := 15) dX9_letterOf_12 rfl rfl (fun c_12 => by exfalso; first | omega | contradiction | exact absurd (by assumption) c_12 | (simp_all; done)) (fun c_12 => ?_)
  refine g_iload_n (p0 := 16) (i := 2) dX9_letterOf_15 rfl rfl rfl ?_
  refine g_aload_n (p0 := 17) (i := 0) dX9_letterOf_16 rfl rfl rfl ?_
  refine g_getR (p0 := 20) dX9_letterOf_17 fX9_29 (by first | rfl | assumption | exact RW.s (by assumption) | exact TW.s (by assumption)) rfl rfl ?_
  refine g_iload_n (p0 := 21) (i := 1) dX9_letterOf_20 rfl rfl rfl ?_
  refine g_cV1R (p0 := 24) (r1 := mX6_lengthOf) dX9_letterOf_21 lX9_136 vX6_lengthOf (by first | rfl | assumption | exact RW.s (by assumption) | exact TW.s (by assumption)) ⟨_, _, rfl⟩ (FITi rfl rfl) (Nat.le_of_ble_eq_true rfl) (lengthOf_sp (by omega) hl) rfl ?_
  first | ((with_reducible refine isN2 ?_); refine g_icmpN_lt (tgt := 30) (p1 := 27) dX9_letterOf_24 rfl (by omega) (by omega) rfl (fun c_24 => ?_) (fun c_24 => by exfalso; first | omega | contradiction | exact absurd (by assumption) c_24 | (simp_all; done))) | refine g_icmp_lt (tgt := 30) (p1 := 27) dX9_letterOf_24 rfl rfl (fun c_24 => ?_) (fun c_24 => by exfalso; first | omega | contradiction | exact absurd (by assumption) c_24 | (simp_all; done))
  refine g_aload_n (p0 := 31) (i := 0) dX9_letterOf_30 rfl rfl rfl ?_
  refine g_getR (p0 := 34) dX9_letterOf_31 fX9_29 (by first | rfl | assumption | exact RW.s (by assumption) | exact TW.s (by assumption)) rfl rfl ?_
  refine g_getR (p0 := 37) dX9_letterOf_34 fX9_164 (by first | rfl | assumption | exact RW.s (by assumption) | exact TW.s (by assumption)) rfl rfl ?_
  refine g_astore (p0 := 39) (i := 4) (ls2 := [_, _, _, _, _, _, _]) dX9_letterOf_37 (Nat.le_of_ble_eq_true rfl) rfl rfl ?_
  refine g_aload_n (p0 := 40) (i := 0) dX9_letterOf_39 rfl rfl rfl ?_
  refine g_getR (p0 := 43) dX9_letterOf_40 fX9_29 (by first | rfl | assumption | exact RW.s (by assumption) | exact TW.s (by assumption)) rfl rfl ?_
  refine g_iload_n (p0 := 44) (i := 1) dX9_letterOf_43 rfl rfl rfl ?_
  refine g_iload_n (p0 := 45) (i := 2) dX9_letterOf_44 rfl rfl rfl ?_
  refine g_cV2R (p0 := 48) (r1 := mX6_indexOf) dX9_letterOf_45 lX9_168 vX6_indexOf (by first | rfl | assumption | exact RW.s (by assumption) | exact TW.s (by assumption)) ⟨_, _, rfl⟩ (FITi rfl rfl) (Nat.le_of_ble_eq_true rfl) (indexOf_sp (by omega) hf) rfl ?_
  refine g_istore (p0 := 50) (i := 5) (ls2 := [_, _, _, _, _, _, _]) dX9_letterOf_48 (Nat.le_of_ble_eq_true rfl) rfl rfl ?_
  refine g_aload (p0 := 52) dX9_letterOf_50 rfl rfl ?_
  refine g_getR (p0 := 55) dX9_letterOf_52 fX9_171 (by first | rfl | assumption | exact RW.s (by assumption) | exact TW.s (by assumption)) rfl rfl ?_
  refine g_iload (p0 := 57) dX9_letterOf_55 rfl rfl ?_
  refine g_cV1R (p0 := 60) (r1 := mX7_at) dX9_letterOf_57 lX9_114 vX7_at (by first | rfl | assumption | exact RW.s (by assumption) | exact TW.s (by assumption)) ⟨_, _, rfl⟩ (FITi rfl rfl) (Nat.le_of_ble_eq_true rfl) (at_N (by first | exact ⟨rfl, rfl, by decide⟩ | assumption) (by omega) hg) rfl ?_
  refine g_istore (p0 := 62) (i := 6) (ls2 := [_, _, _, _, _, _, _]) dX9_letterOf_60 (Nat.le_of_ble_eq_true rfl) rfl rfl ?_
  refine g_iload_n (p0 := 63) (i := 3) dX9_letterOf_62 rfl rfl rfl ?_
  refine g_tabIn (tgt := 110) (off := 47) dX9_letterOf_63 (by decide) (by decide) (by decide +kernel) rfl ?_
  refine g_iload (p0 := 112) dX9_letterOf_110 rfl rfl ?_
  refine g_ireturn dX9_letterOf_112 rfl rfl (?_)
  exact ⟨rfl, rfl⟩
set_option maxRecDepth 20000 in
set_option maxHeartbeats 2000000 in
theorem lo_c2 {m t M f n : Nat} {v : Int32} {σ : Sg} (hM : σ 45 7 = nI M) (hM1 : M ≤ 160) (hm : m < M) (hl : σ 51 m = nI n) (hn : n ≤ 160) (h : t < n) (hf : σ 49 m = nI f) (hfn : f + n ≤ 160) {gg : Nat} (hg : σ 36 (f + t) = nI gg) (hg1 : gg < 500) (hv : σ 38 (f + t) = v) : CM mX9_letterOf [ar 0, ai (nI m), ai (nI t), ai (nI 2)] σ (Ret v σ) := by
  refine CM_in (ls := [some (ar 0), some (ai (nI m)), some (ai (nI t)), some (ai (nI 2)), none, none, none]) rfl ?_
  refine g_aload_n (p0 := 1) (i := 0) dX9_letterOf_0 rfl rfl rfl ?_
  refine g_getR (p0 := 4) dX9_letterOf_1 fX9_29 (by first | rfl | assumption | exact RW.s (by assumption) | exact TW.s (by assumption)) rfl rfl ?_
  refine g_iload_n (p0 := 5) (i := 1) dX9_letterOf_4 rfl rfl rfl ?_
  refine g_cV1R (p0 := 8) (r1 := mX6_hasMessage) dX9_letterOf_5 lX9_133 vX6_hasMessage (by first | rfl | assumption | exact RW.s (by assumption) | exact TW.s (by assumption)) ⟨_, _, rfl⟩ (FITi rfl rfl) (Nat.le_of_ble_eq_true rfl) (hasMessage_T hM hM1 hm) rfl ?_
  first | ((with_reducible refine isN1 ?_); refine g_ifN_eq (tgt := 27) (p1 := 11) dX9_letterOf_8 rfl (by omega) rfl (fun c_8 => by exfalso; first | omega | contradiction | exact absurd (by assumption) c_8 | (simp_all; done)) (fun c_8 => ?_)) | refine g_if_eq (tgt := 27) (p1 := 11) dX9_letterOf_8 rfl rfl (fun c_8 => by exfalso; first | omega | contradiction | exact absurd (by assumption) c_8 | (simp_all; done)) (fun c_8 => ?_)
  refine g_iload_n (p0 := 12) (i := 2) dX9_letterOf_11 rfl rfl rfl ?_
  first | ((with_reducible refine isN1 ?_); refine g_ifN_lt (tgt := 27) (p1 := 15) dX9_letterOf_12 rfl (by omega) rfl (fun c_12 => by exfalso; first | omega | contradiction | exact absurd (by assumption) c_12 | (simp_all; done)) (fun c_12 => ?_)) | refine g_if_lt (tgt := 27) (p1 := 15) dX9_letterOf_12 rfl rfl (fun c_12 => by exfalso; first | omega | contradiction | exact absurd (by assumption) c_12 | (simp_all; done)) (fun c_12 => ?_)
  refine g_iload_n (p0 := 16) (i := 2) dX9_letterOf_15 rfl rfl rfl ?_
  refine g_aload_n (p0 := 17) (i := 0) dX9_letterOf_16 rfl rfl rfl ?_
  refine g_getR (p0 := 20) dX9_letterOf_17 fX9_29 (by first | rfl | assumption | exact RW.s (by assumption) | exact TW.s (by assumption)) rfl rfl ?_
  refine g_iload_n (p0 := 21) (i := 1) dX9_letterOf_20 rfl rfl rfl ?_
  refine g_cV1R (p0 := 24) (r1 := mX6_lengthOf) dX9_letterOf_21 lX9_136 vX6_lengthOf (by first | rfl | assumption | exact RW.s (by assumption) | exact TW.s (by assumption)) ⟨_, _, rfl⟩ (FITi rfl rfl) (Nat.le_of_ble_eq_true rfl) (lengthOf_sp (by omega) hl) rfl ?_
  first | ((with_reducible refine isN2 ?_); refine g_icmpN_lt (tgt := 30) (p1 := 27) dX9_letterOf_24 rfl (by omega) (by omega) rfl (fun c_24 => ?_) (fun c_24 => by exfalso; first | omega | contradiction | exact absurd (by assumption) c_24 | (simp_all; done))) | refine g_icmp_lt (tgt := 30) (p1 := 27) dX9_letterOf_24 rfl rfl (fun c_24 => ?_) (fun c_24 => by exfalso; first | omega | contradiction | exact absurd (by assumption) c_24 | (simp_all; done))
  refine g_aload_n (p0 := 31) (i := 0) dX9_letterOf_30 rfl rfl rfl ?_
  refine g_getR (p0 := 34) dX9_letterOf_31 fX9_29 (by first | rfl | assumption | exact RW.s (by assumption) | exact TW.s (by assumption)) rfl rfl ?_
  refine g_getR (p0 := 37) dX9_letterOf_34 fX9_164 (by first | rfl | assumption | exact RW.s (by assumption) | exact TW.s (by assumption)) rfl rfl ?_
  refine g_astore (p0 := 39) (i := 4) (ls2 := [_, _, _, _, _, _, _]) dX9_letterOf_37 (Nat.le_of_ble_eq_true rfl) rfl rfl ?_
  refine g_aload_n (p0 := 40) (i := 0) dX9_letterOf_39 rfl rfl rfl ?_
  refine g_getR (p0 := 43) dX9_letterOf_40 fX9_29 (by first | rfl | assumption | exact RW.s (by assumption) | exact TW.s (by assumption)) rfl rfl ?_
  refine g_iload_n (p0 := 44) (i := 1) dX9_letterOf_43 rfl rfl rfl ?_
  refine g_iload_n (p0 := 45) (i := 2) dX9_letterOf_44 rfl rfl rfl ?_
  refine g_cV2R (p0 := 48) (r1 := mX6_indexOf) dX9_letterOf_45 lX9_168 vX6_indexOf (by first | rfl | assumption | exact RW.s (by assumption) | exact TW.s (by assumption)) ⟨_, _, rfl⟩ (FITi rfl rfl) (Nat.le_of_ble_eq_true rfl) (indexOf_sp (by omega) hf) rfl ?_
  refine g_istore (p0 := 50) (i := 5) (ls2 := [_, _, _, _, _, _, _]) dX9_letterOf_48 (Nat.le_of_ble_eq_true rfl) rfl rfl ?_
  refine g_aload (p0 := 52) dX9_letterOf_50 rfl rfl ?_
  refine g_getR (p0 := 55) dX9_letterOf_52 fX9_171 (by first | rfl | assumption | exact RW.s (by assumption) | exact TW.s (by assumption)) rfl rfl ?_
  refine g_iload (p0 := 57) dX9_letterOf_55 rfl rfl ?_
  refine g_cV1R (p0 := 60) (r1 := mX7_at) dX9_letterOf_57 lX9_114 vX7_at (by first | rfl | assumption | exact RW.s (by assumption) | exact TW.s (by assumption)) ⟨_, _, rfl⟩ (FITi rfl rfl) (Nat.le_of_ble_eq_true rfl) (at_N (by first | exact ⟨rfl, rfl, by decide⟩ | assumption) (by omega) hg) rfl ?_
  refine g_istore (p0 := 62) (i := 6) (ls2 := [_, _, _, _, _, _, _]) dX9_letterOf_60 (Nat.le_of_ble_eq_true rfl) rfl rfl ?_
  refine g_iload_n (p0 := 63) (i := 3) dX9_letterOf_62 rfl rfl rfl ?_
  refine g_tabIn (tgt := 113) (off := 50) dX9_letterOf_63 (by decide) (by decide) (by decide +kernel) rfl ?_
  refine g_aload (p0 := 115) dX9_letterOf_113 rfl rfl ?_
  refine g_getR (p0 := 118) dX9_letterOf_115 fX9_182 (by first | rfl | assumption | exact RW.s (by assumption) | exact TW.s (by assumption)) rfl rfl ?_
  refine g_iload (p0 := 120) dX9_letterOf_118 rfl rfl ?_
  refine g_cV1R (p0 := 123) (r1 := mX7_at) dX9_letterOf_120 lX9_114 vX7_at (by first | rfl | assumption | exact RW.s (by assumption) | exact TW.s (by assumption)) ⟨_, _, rfl⟩ (FITi rfl rfl) (Nat.le_of_ble_eq_true rfl) (at_N (by first | exact ⟨rfl, rfl, by decide⟩ | assumption) (by omega) hv) rfl ?_
  refine g_ireturn dX9_letterOf_123 rfl rfl (?_)
  exact ⟨rfl, rfl⟩
set_option maxRecDepth 20000 in
set_option maxHeartbeats 2000000 in
theorem lo_c3z {m t M f n : Nat}  {σ : Sg} (hM : σ 45 7 = nI M) (hM1 : M ≤ 160) (hm : m < M) (hl : σ 51 m = nI n) (hn : n ≤ 160) (h : t < n) (hf : σ 49 m = nI f) (hfn : f + n ≤ 160) {gg : Nat} (hg : σ 36 (f + t) = nI gg) (hg1 : gg < 500) (h2 : gg < 2) : CM mX9_letterOf [ar 0, ai (nI m), ai (nI t), ai (nI 3)] σ (Ret (-1000004) σ) := by
  refine CM_in (ls := [some (ar 0), some (ai (nI m)), some (ai (nI t)), some (ai (nI 3)), none, none, none]) rfl ?_
  refine g_aload_n (p0 := 1) (i := 0) dX9_letterOf_0 rfl rfl rfl ?_
  refine g_getR (p0 := 4) dX9_letterOf_1 fX9_29 (by first | rfl | assumption | exact RW.s (by assumption) | exact TW.s (by assumption)) rfl rfl ?_
  refine g_iload_n (p0 := 5) (i := 1) dX9_letterOf_4 rfl rfl rfl ?_
  refine g_cV1R (p0 := 8) (r1 := mX6_hasMessage) dX9_letterOf_5 lX9_133 vX6_hasMessage (by first | rfl | assumption | exact RW.s (by assumption) | exact TW.s (by assumption)) ⟨_, _, rfl⟩ (FITi rfl rfl) (Nat.le_of_ble_eq_true rfl) (hasMessage_T hM hM1 hm) rfl ?_
  first | ((with_reducible refine isN1 ?_); refine g_ifN_eq (tgt := 27) (p1 := 11) dX9_letterOf_8 rfl (by omega) rfl (fun c_8 => by exfalso; first | omega | contradiction | exact absurd (by assumption) c_8 | (simp_all; done)) (fun c_8 => ?_)) | refine g_if_eq (tgt := 27) (p1 := 11) dX9_letterOf_8 rfl rfl (fun c_8 => by exfalso; first | omega | contradiction | exact absurd (by assumption) c_8 | (simp_all; done)) (fun c_8 => ?_)
  refine g_iload_n (p0 := 12) (i := 2) dX9_letterOf_11 rfl rfl rfl ?_
  first | ((with_reducible refine isN1 ?_); refine g_ifN_lt (tgt := 27) (p1 := 15) dX9_letterOf_12 rfl (by omega) rfl (fun c_12 => by exfalso; first | omega | contradiction | exact absurd (by assumption) c_12 | (simp_all; done)) (fun c_12 => ?_)) | refine g_if_lt (tgt := 27) (p1 := 15) dX9_letterOf_12 rfl rfl (fun c_12 => by exfalso; first | omega | contradiction | exact absurd (by assumption) c_12 | (simp_all; done)) (fun c_12 => ?_)
  refine g_iload_n (p0 := 16) (i := 2) dX9_letterOf_15 rfl rfl rfl ?_
  refine g_aload_n (p0 := 17) (i := 0) dX9_letterOf_16 rfl rfl rfl ?_
  refine g_getR (p0 := 20) dX9_letterOf_17 fX9_29 (by first | rfl | assumption | exact RW.s (by assumption) | exact TW.s (by assumption)) rfl rfl ?_
  refine g_iload_n (p0 := 21) (i := 1) dX9_letterOf_20 rfl rfl rfl ?_
  refine g_cV1R (p0 := 24) (r1 := mX6_lengthOf) dX9_letterOf_21 lX9_136 vX6_lengthOf (by first | rfl | assumption | exact RW.s (by assumption) | exact TW.s (by assumption)) ⟨_, _, rfl⟩ (FITi rfl rfl) (Nat.le_of_ble_eq_true rfl) (lengthOf_sp (by omega) hl) rfl ?_
  first | ((with_reducible refine isN2 ?_); refine g_icmpN_lt (tgt := 30) (p1 := 27) dX9_letterOf_24 rfl (by omega) (by omega) rfl (fun c_24 => ?_) (fun c_24 => by exfalso; first | omega | contradiction | exact absurd (by assumption) c_24 | (simp_all; done))) | refine g_icmp_lt (tgt := 30) (p1 := 27) dX9_letterOf_24 rfl rfl (fun c_24 => ?_) (fun c_24 => by exfalso; first | omega | contradiction | exact absurd (by assumption) c_24 | (simp_all; done))
  refine g_aload_n (p0 := 31) (i := 0) dX9_letterOf_30 rfl rfl rfl ?_
  refine g_getR (p0 := 34) dX9_letterOf_31 fX9_29 (by first | rfl | assumption | exact RW.s (by assumption) | exact TW.s (by assumption)) rfl rfl ?_
  refine g_getR (p0 := 37) dX9_letterOf_34 fX9_164 (by first | rfl | assumption | exact RW.s (by assumption) | exact TW.s (by assumption)) rfl rfl ?_
  refine g_astore (p0 := 39) (i := 4) (ls2 := [_, _, _, _, _, _, _]) dX9_letterOf_37 (Nat.le_of_ble_eq_true rfl) rfl rfl ?_
  refine g_aload_n (p0 := 40) (i := 0) dX9_letterOf_39 rfl rfl rfl ?_
  refine g_getR (p0 := 43) dX9_letterOf_40 fX9_29 (by first | rfl | assumption | exact RW.s (by assumption) | exact TW.s (by assumption)) rfl rfl ?_
  refine g_iload_n (p0 := 44) (i := 1) dX9_letterOf_43 rfl rfl rfl ?_
  refine g_iload_n (p0 := 45) (i := 2) dX9_letterOf_44 rfl rfl rfl ?_
  refine g_cV2R (p0 := 48) (r1 := mX6_indexOf) dX9_letterOf_45 lX9_168 vX6_indexOf (by first | rfl | assumption | exact RW.s (by assumption) | exact TW.s (by assumption)) ⟨_, _, rfl⟩ (FITi rfl rfl) (Nat.le_of_ble_eq_true rfl) (indexOf_sp (by omega) hf) rfl ?_
  refine g_istore (p0 := 50) (i := 5) (ls2 := [_, _, _, _, _, _, _]) dX9_letterOf_48 (Nat.le_of_ble_eq_true rfl) rfl rfl ?_
  refine g_aload (p0 := 52) dX9_letterOf_50 rfl rfl ?_
  refine g_getR (p0 := 55) dX9_letterOf_52 fX9_171 (by first | rfl | assumption | exact RW.s (by assumption) | exact TW.s (by assumption)) rfl rfl ?_
  refine g_iload (p0 := 57) dX9_letterOf_55 rfl rfl ?_
  refine g_cV1R (p0 := 60) (r1 := mX7_at) dX9_letterOf_57 lX9_114 vX7_at (by first | rfl | assumption | exact RW.s (by assumption) | exact TW.s (by assumption)) ⟨_, _, rfl⟩ (FITi rfl rfl) (Nat.le_of_ble_eq_true rfl) (at_N (by first | exact ⟨rfl, rfl, by decide⟩ | assumption) (by omega) hg) rfl ?_
  refine g_istore (p0 := 62) (i := 6) (ls2 := [_, _, _, _, _, _, _]) dX9_letterOf_60 (Nat.le_of_ble_eq_true rfl) rfl rfl ?_
  refine g_iload_n (p0 := 63) (i := 3) dX9_letterOf_62 rfl rfl rfl ?_
  refine g_tabIn (tgt := 124) (off := 61) dX9_letterOf_63 (by decide) (by decide) (by decide +kernel) rfl ?_
  refine g_iload (p0 := 126) dX9_letterOf_124 rfl rfl ?_
  refine g_iconst (p0 := 127) (v := nI 2) dX9_letterOf_126 rfl rfl ?_
  first | ((with_reducible refine isN2 ?_); refine g_icmpN_ge (tgt := 135) (p1 := 130) dX9_letterOf_127 rfl (by omega) (by omega) rfl (fun c_127 => by exfalso; first | omega | contradiction | exact absurd (by assumption) c_127 | (simp_all; done)) (fun c_127 => ?_)) | refine g_icmp_ge (tgt := 135) (p1 := 130) dX9_letterOf_127 rfl rfl (fun c_127 => by exfalso; first | omega | contradiction | exact absurd (by assumption) c_127 | (simp_all; done)) (fun c_127 => ?_)
  refine g_ldc (p0 := 132) dX9_letterOf_130 qX9_122 rfl ?_
  refine g_goto (tgt := 145) dX9_letterOf_132 rfl ?_
  refine g_ireturn dX9_letterOf_145 rfl rfl (?_)
  exact ⟨rfl, rfl⟩
set_option maxRecDepth 20000 in
set_option maxHeartbeats 2000000 in
theorem lo_c3 {m t M f n : Nat} {v : Int32} {σ : Sg} (hM : σ 45 7 = nI M) (hM1 : M ≤ 160) (hm : m < M) (hl : σ 51 m = nI n) (hn : n ≤ 160) (h : t < n) (hf : σ 49 m = nI f) (hfn : f + n ≤ 160) {gg : Nat} (hg : σ 36 (f + t) = nI gg) (hg1 : gg < 500) (h2 : 2 ≤ gg) (hv : σ 40 (f + t) = v) : CM mX9_letterOf [ar 0, ai (nI m), ai (nI t), ai (nI 3)] σ (Ret v σ) := by
  refine CM_in (ls := [some (ar 0), some (ai (nI m)), some (ai (nI t)), some (ai (nI 3)), none, none, none]) rfl ?_
  refine g_aload_n (p0 := 1) (i := 0) dX9_letterOf_0 rfl rfl rfl ?_
  refine g_getR (p0 := 4) dX9_letterOf_1 fX9_29 (by first | rfl | assumption | exact RW.s (by assumption) | exact TW.s (by assumption)) rfl rfl ?_
  refine g_iload_n (p0 := 5) (i := 1) dX9_letterOf_4 rfl rfl rfl ?_
  refine g_cV1R (p0 := 8) (r1 := mX6_hasMessage) dX9_letterOf_5 lX9_133 vX6_hasMessage (by first | rfl | assumption | exact RW.s (by assumption) | exact TW.s (by assumption)) ⟨_, _, rfl⟩ (FITi rfl rfl) (Nat.le_of_ble_eq_true rfl) (hasMessage_T hM hM1 hm) rfl ?_
  first | ((with_reducible refine isN1 ?_); refine g_ifN_eq (tgt := 27) (p1 := 11) dX9_letterOf_8 rfl (by omega) rfl (fun c_8 => by exfalso; first | omega | contradiction | exact absurd (by assumption) c_8 | (simp_all; done)) (fun c_8 => ?_)) | refine g_if_eq (tgt := 27) (p1 := 11) dX9_letterOf_8 rfl rfl (fun c_8 => by exfalso; first | omega | contradiction | exact absurd (by assumption) c_8 | (simp_all; done)) (fun c_8 => ?_)
  refine g_iload_n (p0 := 12) (i := 2) dX9_letterOf_11 rfl rfl rfl ?_
  first | ((with_reducible refine isN1 ?_); refine g_ifN_lt (tgt := 27) (p1 := 15) dX9_letterOf_12 rfl (by omega) rfl (fun c_12 => by exfalso; first | omega | contradiction | exact absurd (by assumption) c_12 | (simp_all; done)) (fun c_12 => ?_)) | refine g_if_lt (tgt := 27) (p1 := 15) dX9_letterOf_12 rfl rfl (fun c_12 => by exfalso; first | omega | contradiction | exact absurd (by assumption) c_12 | (simp_all; done)) (fun c_12 => ?_)
  refine g_iload_n (p0 := 16) (i := 2) dX9_letterOf_15 rfl rfl rfl ?_
  refine g_aload_n (p0 := 17) (i := 0) dX9_letterOf_16 rfl rfl rfl ?_
  refine g_getR (p0 := 20) dX9_letterOf_17 fX9_29 (by first | rfl | assumption | exact RW.s (by assumption) | exact TW.s (by assumption)) rfl rfl ?_
  refine g_iload_n (p0 := 21) (i := 1) dX9_letterOf_20 rfl rfl rfl ?_
  refine g_cV1R (p0 := 24) (r1 := mX6_lengthOf) dX9_letterOf_21 lX9_136 vX6_lengthOf (by first | rfl | assumption | exact RW.s (by assumption) | exact TW.s (by assumption)) ⟨_, _, rfl⟩ (FITi rfl rfl) (Nat.le_of_ble_eq_true rfl) (lengthOf_sp (by omega) hl) rfl ?_
  first | ((with_reducible refine isN2 ?_); refine g_icmpN_lt (tgt := 30) (p1 := 27) dX9_letterOf_24 rfl (by omega) (by omega) rfl (fun c_24 => ?_) (fun c_24 => by exfalso; first | omega | contradiction | exact absurd (by assumption) c_24 | (simp_all; done))) | refine g_icmp_lt (tgt := 30) (p1 := 27) dX9_letterOf_24 rfl rfl (fun c_24 => ?_) (fun c_24 => by exfalso; first | omega | contradiction | exact absurd (by assumption) c_24 | (simp_all; done))
  refine g_aload_n (p0 := 31) (i := 0) dX9_letterOf_30 rfl rfl rfl ?_
  refine g_getR (p0 := 34) dX9_letterOf_31 fX9_29 (by first | rfl | assumption | exact RW.s (by assumption) | exact TW.s (by assumption)) rfl rfl ?_
  refine g_getR (p0 := 37) dX9_letterOf_34 fX9_164 (by first | rfl | assumption | exact RW.s (by assumption) | exact TW.s (by assumption)) rfl rfl ?_
  refine g_astore (p0 := 39) (i := 4) (ls2 := [_, _, _, _, _, _, _]) dX9_letterOf_37 (Nat.le_of_ble_eq_true rfl) rfl rfl ?_
  refine g_aload_n (p0 := 40) (i := 0) dX9_letterOf_39 rfl rfl rfl ?_
  refine g_getR (p0 := 43) dX9_letterOf_40 fX9_29 (by first | rfl | assumption | exact RW.s (by assumption) | exact TW.s (by assumption)) rfl rfl ?_
  refine g_iload_n (p0 := 44) (i := 1) dX9_letterOf_43 rfl rfl rfl ?_
  refine g_iload_n (p0 := 45) (i := 2) dX9_letterOf_44 rfl rfl rfl ?_
  refine g_cV2R (p0 := 48) (r1 := mX6_indexOf) dX9_letterOf_45 lX9_168 vX6_indexOf (by first | rfl | assumption | exact RW.s (by assumption) | exact TW.s (by assumption)) ⟨_, _, rfl⟩ (FITi rfl rfl) (Nat.le_of_ble_eq_true rfl) (indexOf_sp (by omega) hf) rfl ?_
  refine g_istore (p0 := 50) (i := 5) (ls2 := [_, _, _, _, _, _, _]) dX9_letterOf_48 (Nat.le_of_ble_eq_true rfl) rfl rfl ?_
  refine g_aload (p0 := 52) dX9_letterOf_50 rfl rfl ?_
  refine g_getR (p0 := 55) dX9_letterOf_52 fX9_171 (by first | rfl | assumption | exact RW.s (by assumption) | exact TW.s (by assumption)) rfl rfl ?_
  refine g_iload (p0 := 57) dX9_letterOf_55 rfl rfl ?_
  refine g_cV1R (p0 := 60) (r1 := mX7_at) dX9_letterOf_57 lX9_114 vX7_at (by first | rfl | assumption | exact RW.s (by assumption) | exact TW.s (by assumption)) ⟨_, _, rfl⟩ (FITi rfl rfl) (Nat.le_of_ble_eq_true rfl) (at_N (by first | exact ⟨rfl, rfl, by decide⟩ | assumption) (by omega) hg) rfl ?_
  refine g_istore (p0 := 62) (i := 6) (ls2 := [_, _, _, _, _, _, _]) dX9_letterOf_60 (Nat.le_of_ble_eq_true rfl) rfl rfl ?_
  refine g_iload_n (p0 := 63) (i := 3) dX9_letterOf_62 rfl rfl rfl ?_
  refine g_tabIn (tgt := 124) (off := 61) dX9_letterOf_63 (by decide) (by decide) (by decide +kernel) rfl ?_
  refine g_iload (p0 := 126) dX9_letterOf_124 rfl rfl ?_
  refine g_iconst (p0 := 127) (v := nI 2) dX9_letterOf_126 rfl rfl ?_
  first | ((with_reducible refine isN2 ?_); refine g_icmpN_ge (tgt := 135) (p1 := 130) dX9_letterOf_127 rfl (by omega) (by omega) rfl (fun c_127 => ?_) (fun c_127 => by exfalso; first | omega | contradiction | exact absurd (by assumption) c_127 | (simp_all; done))) | refine g_icmp_ge (tgt := 135) (p1 := 130) dX9_letterOf_127 rfl rfl (fun c_127 => ?_) (fun c_127 => by exfalso; first | omega | contradiction | exact absurd (by assumption) c_127 | (simp_all; done))
  refine g_aload (p0 := 137) dX9_letterOf_135 rfl rfl ?_
  refine g_getR (p0 := 140) dX9_letterOf_137 fX9_185 (by first | rfl | assumption | exact RW.s (by assumption) | exact TW.s (by assumption)) rfl rfl ?_
  refine g_iload (p0 := 142) dX9_letterOf_140 rfl rfl ?_
  refine g_cV1R (p0 := 145) (r1 := mX7_at) dX9_letterOf_142 lX9_114 vX7_at (by first | rfl | assumption | exact RW.s (by assumption) | exact TW.s (by assumption)) ⟨_, _, rfl⟩ (FITi rfl rfl) (Nat.le_of_ble_eq_true rfl) (at_N (by first | exact ⟨rfl, rfl, by decide⟩ | assumption) (by omega) hv) rfl ?_
  refine g_ireturn dX9_letterOf_145 rfl rfl (?_)
  exact ⟨rfl, rfl⟩
set_option maxRecDepth 20000 in
set_option maxHeartbeats 2000000 in
theorem lo_c4z {m t M f n : Nat}  {σ : Sg} (hM : σ 45 7 = nI M) (hM1 : M ≤ 160) (hm : m < M) (hl : σ 51 m = nI n) (hn : n ≤ 160) (h : t < n) (hf : σ 49 m = nI f) (hfn : f + n ≤ 160) {gg : Nat} (hg : σ 36 (f + t) = nI gg) (hg1 : gg < 500) (h2 : ¬ gg = 2) : CM mX9_letterOf [ar 0, ai (nI m), ai (nI t), ai (nI 4)] σ (Ret (-1000004) σ) := by
  refine CM_in (ls := [some (ar 0), some (ai (nI m)), some (ai (nI t)), some (ai (nI 4)), none, none, none]) rfl ?_
  refine g_aload_n (p0 := 1) (i := 0) dX9_letterOf_0 rfl rfl rfl ?_
  refine g_getR (p0 := 4) dX9_letterOf_1 fX9_29 (by first | rfl | assumption | exact RW.s (by assumption) | exact TW.s (by assumption)) rfl rfl ?_
  refine g_iload_n (p0 := 5) (i := 1) dX9_letterOf_4 rfl rfl rfl ?_
  refine g_cV1R (p0 := 8) (r1 := mX6_hasMessage) dX9_letterOf_5 lX9_133 vX6_hasMessage (by first | rfl | assumption | exact RW.s (by assumption) | exact TW.s (by assumption)) ⟨_, _, rfl⟩ (FITi rfl rfl) (Nat.le_of_ble_eq_true rfl) (hasMessage_T hM hM1 hm) rfl ?_
  first | ((with_reducible refine isN1 ?_); refine g_ifN_eq (tgt := 27) (p1 := 11) dX9_letterOf_8 rfl (by omega) rfl (fun c_8 => by exfalso; first | omega | contradiction | exact absurd (by assumption) c_8 | (simp_all; done)) (fun c_8 => ?_)) | refine g_if_eq (tgt := 27) (p1 := 11) dX9_letterOf_8 rfl rfl (fun c_8 => by exfalso; first | omega | contradiction | exact absurd (by assumption) c_8 | (simp_all; done)) (fun c_8 => ?_)
  refine g_iload_n (p0 := 12) (i := 2) dX9_letterOf_11 rfl rfl rfl ?_
  first | ((with_reducible refine isN1 ?_); refine g_ifN_lt (tgt := 27) (p1 := 15) dX9_letterOf_12 rfl (by omega) rfl (fun c_12 => by exfalso; first | omega | contradiction | exact absurd (by assumption) c_12 | (simp_all; done)) (fun c_12 => ?_)) | refine g_if_lt (tgt := 27) (p1 := 15) dX9_letterOf_12 rfl rfl (fun c_12 => by exfalso; first | omega | contradiction | exact absurd (by assumption) c_12 | (simp_all; done)) (fun c_12 => ?_)
  refine g_iload_n (p0 := 16) (i := 2) dX9_letterOf_15 rfl rfl rfl ?_
  refine g_aload_n (p0 := 17) (i := 0) dX9_letterOf_16 rfl rfl rfl ?_
  refine g_getR (p0 := 20) dX9_letterOf_17 fX9_29 (by first | rfl | assumption | exact RW.s (by assumption) | exact TW.s (by assumption)) rfl rfl ?_
  refine g_iload_n (p0 := 21) (i := 1) dX9_letterOf_20 rfl rfl rfl ?_
  refine g_cV1R (p0 := 24) (r1 := mX6_lengthOf) dX9_letterOf_21 lX9_136 vX6_lengthOf (by first | rfl | assumption | exact RW.s (by assumption) | exact TW.s (by assumption)) ⟨_, _, rfl⟩ (FITi rfl rfl) (Nat.le_of_ble_eq_true rfl) (lengthOf_sp (by omega) hl) rfl ?_
  first | ((with_reducible refine isN2 ?_); refine g_icmpN_lt (tgt := 30) (p1 := 27) dX9_letterOf_24 rfl (by omega) (by omega) rfl (fun c_24 => ?_) (fun c_24 => by exfalso; first | omega | contradiction | exact absurd (by assumption) c_24 | (simp_all; done))) | refine g_icmp_lt (tgt := 30) (p1 := 27) dX9_letterOf_24 rfl rfl (fun c_24 => ?_) (fun c_24 => by exfalso; first | omega | contradiction | exact absurd (by assumption) c_24 | (simp_all; done))
  refine g_aload_n (p0 := 31) (i := 0) dX9_letterOf_30 rfl rfl rfl ?_
  refine g_getR (p0 := 34) dX9_letterOf_31 fX9_29 (by first | rfl | assumption | exact RW.s (by assumption) | exact TW.s (by assumption)) rfl rfl ?_
  refine g_getR (p0 := 37) dX9_letterOf_34 fX9_164 (by first | rfl | assumption | exact RW.s (by assumption) | exact TW.s (by assumption)) rfl rfl ?_
  refine g_astore (p0 := 39) (i := 4) (ls2 := [_, _, _, _, _, _, _]) dX9_letterOf_37 (Nat.le_of_ble_eq_true rfl) rfl rfl ?_
  refine g_aload_n (p0 := 40) (i := 0) dX9_letterOf_39 rfl rfl rfl ?_
  refine g_getR (p0 := 43) dX9_letterOf_40 fX9_29 (by first | rfl | assumption | exact RW.s (by assumption) | exact TW.s (by assumption)) rfl rfl ?_
  refine g_iload_n (p0 := 44) (i := 1) dX9_letterOf_43 rfl rfl rfl ?_
  refine g_iload_n (p0 := 45) (i := 2) dX9_letterOf_44 rfl rfl rfl ?_
  refine g_cV2R (p0 := 48) (r1 := mX6_indexOf) dX9_letterOf_45 lX9_168 vX6_indexOf (by first | rfl | assumption | exact RW.s (by assumption) | exact TW.s (by assumption)) ⟨_, _, rfl⟩ (FITi rfl rfl) (Nat.le_of_ble_eq_true rfl) (indexOf_sp (by omega) hf) rfl ?_
  refine g_istore (p0 := 50) (i := 5) (ls2 := [_, _, _, _, _, _, _]) dX9_letterOf_48 (Nat.le_of_ble_eq_true rfl) rfl rfl ?_
  refine g_aload (p0 := 52) dX9_letterOf_50 rfl rfl ?_
  refine g_getR (p0 := 55) dX9_letterOf_52 fX9_171 (by first | rfl | assumption | exact RW.s (by assumption) | exact TW.s (by assumption)) rfl rfl ?_
  refine g_iload (p0 := 57) dX9_letterOf_55 rfl rfl ?_
  refine g_cV1R (p0 := 60) (r1 := mX7_at) dX9_letterOf_57 lX9_114 vX7_at (by first | rfl | assumption | exact RW.s (by assumption) | exact TW.s (by assumption)) ⟨_, _, rfl⟩ (FITi rfl rfl) (Nat.le_of_ble_eq_true rfl) (at_N (by first | exact ⟨rfl, rfl, by decide⟩ | assumption) (by omega) hg) rfl ?_
  refine g_istore (p0 := 62) (i := 6) (ls2 := [_, _, _, _, _, _, _]) dX9_letterOf_60 (Nat.le_of_ble_eq_true rfl) rfl rfl ?_
  refine g_iload_n (p0 := 63) (i := 3) dX9_letterOf_62 rfl rfl rfl ?_
  refine g_tabIn (tgt := 146) (off := 83) dX9_letterOf_63 (by decide) (by decide) (by decide +kernel) rfl ?_
  refine g_iload (p0 := 148) dX9_letterOf_146 rfl rfl ?_
  refine g_iconst (p0 := 149) (v := nI 2) dX9_letterOf_148 rfl rfl ?_
  first | ((with_reducible refine isN2 ?_); refine g_icmpN_eq (tgt := 157) (p1 := 152) dX9_letterOf_149 rfl (by omega) (by omega) rfl (fun c_149 => by exfalso; first | omega | contradiction | exact absurd (by assumption) c_149 | (simp_all; done)) (fun c_149 => ?_)) | refine g_icmp_eq (tgt := 157) (p1 := 152) dX9_letterOf_149 rfl rfl (fun c_149 => by exfalso; first | omega | contradiction | exact absurd (by assumption) c_149 | (simp_all; done)) (fun c_149 => ?_)
  refine g_ldc (p0 := 154) dX9_letterOf_152 qX9_122 rfl ?_
  refine g_goto (tgt := 164) dX9_letterOf_154 rfl ?_
  refine g_ireturn dX9_letterOf_164 rfl rfl (?_)
  exact ⟨rfl, rfl⟩
set_option maxRecDepth 20000 in
set_option maxHeartbeats 2000000 in
theorem lo_c4 {m t M f n : Nat} {v : Int32} {σ : Sg} (hM : σ 45 7 = nI M) (hM1 : M ≤ 160) (hm : m < M) (hl : σ 51 m = nI n) (hn : n ≤ 160) (h : t < n) (hf : σ 49 m = nI f) (hfn : f + n ≤ 160) {gg : Nat} (hg : σ 36 (f + t) = nI gg) (hg1 : gg < 500) (h2 : gg = 2) (hv : CM mX3_withOneMore [ar 34, ai (nI (f + t))] σ (Ret v σ)) : CM mX9_letterOf [ar 0, ai (nI m), ai (nI t), ai (nI 4)] σ (Ret v σ) := by
  refine CM_in (ls := [some (ar 0), some (ai (nI m)), some (ai (nI t)), some (ai (nI 4)), none, none, none]) rfl ?_
  refine g_aload_n (p0 := 1) (i := 0) dX9_letterOf_0 rfl rfl rfl ?_
  refine g_getR (p0 := 4) dX9_letterOf_1 fX9_29 (by first | rfl | assumption | exact RW.s (by assumption) | exact TW.s (by assumption)) rfl rfl ?_
  refine g_iload_n (p0 := 5) (i := 1) dX9_letterOf_4 rfl rfl rfl ?_
  refine g_cV1R (p0 := 8) (r1 := mX6_hasMessage) dX9_letterOf_5 lX9_133 vX6_hasMessage (by first | rfl | assumption | exact RW.s (by assumption) | exact TW.s (by assumption)) ⟨_, _, rfl⟩ (FITi rfl rfl) (Nat.le_of_ble_eq_true rfl) (hasMessage_T hM hM1 hm) rfl ?_
  first | ((with_reducible refine isN1 ?_); refine g_ifN_eq (tgt := 27) (p1 := 11) dX9_letterOf_8 rfl (by omega) rfl (fun c_8 => by exfalso; first | omega | contradiction | exact absurd (by assumption) c_8 | (simp_all; done)) (fun c_8 => ?_)) | refine g_if_eq (tgt := 27) (p1 := 11) dX9_letterOf_8 rfl rfl (fun c_8 => by exfalso; first | omega | contradiction | exact absurd (by assumption) c_8 | (simp_all; done)) (fun c_8 => ?_)
  refine g_iload_n (p0 := 12) (i := 2) dX9_letterOf_11 rfl rfl rfl ?_
  first | ((with_reducible refine isN1 ?_); refine g_ifN_lt (tgt := 27) (p1 := 15) dX9_letterOf_12 rfl (by omega) rfl (fun c_12 => by exfalso; first | omega | contradiction | exact absurd (by assumption) c_12 | (simp_all; done)) (fun c_12 => ?_)) | refine g_if_lt (tgt := 27) (p1 := 15) dX9_letterOf_12 rfl rfl (fun c_12 => by exfalso; first | omega | contradiction | exact absurd (by assumption) c_12 | (simp_all; done)) (fun c_12 => ?_)
  refine g_iload_n (p0 := 16) (i := 2) dX9_letterOf_15 rfl rfl rfl ?_
  refine g_aload_n (p0 := 17) (i := 0) dX9_letterOf_16 rfl rfl rfl ?_
  refine g_getR (p0 := 20) dX9_letterOf_17 fX9_29 (by first | rfl | assumption | exact RW.s (by assumption) | exact TW.s (by assumption)) rfl rfl ?_
  refine g_iload_n (p0 := 21) (i := 1) dX9_letterOf_20 rfl rfl rfl ?_
  refine g_cV1R (p0 := 24) (r1 := mX6_lengthOf) dX9_letterOf_21 lX9_136 vX6_lengthOf (by first | rfl | assumption | exact RW.s (by assumption) | exact TW.s (by assumption)) ⟨_, _, rfl⟩ (FITi rfl rfl) (Nat.le_of_ble_eq_true rfl) (lengthOf_sp (by omega) hl) rfl ?_
  first | ((with_reducible refine isN2 ?_); refine g_icmpN_lt (tgt := 30) (p1 := 27) dX9_letterOf_24 rfl (by omega) (by omega) rfl (fun c_24 => ?_) (fun c_24 => by exfalso; first | omega | contradiction | exact absurd (by assumption) c_24 | (simp_all; done))) | refine g_icmp_lt (tgt := 30) (p1 := 27) dX9_letterOf_24 rfl rfl (fun c_24 => ?_) (fun c_24 => by exfalso; first | omega | contradiction | exact absurd (by assumption) c_24 | (simp_all; done))
  refine g_aload_n (p0 := 31) (i := 0) dX9_letterOf_30 rfl rfl rfl ?_
  refine g_getR (p0 := 34) dX9_letterOf_31 fX9_29 (by first | rfl | assumption | exact RW.s (by assumption) | exact TW.s (by assumption)) rfl rfl ?_
  refine g_getR (p0 := 37) dX9_letterOf_34 fX9_164 (by first | rfl | assumption | exact RW.s (by assumption) | exact TW.s (by assumption)) rfl rfl ?_
  refine g_astore (p0 := 39) (i := 4) (ls2 := [_, _, _, _, _, _, _]) dX9_letterOf_37 (Nat.le_of_ble_eq_true rfl) rfl rfl ?_
  refine g_aload_n (p0 := 40) (i := 0) dX9_letterOf_39 rfl rfl rfl ?_
  refine g_getR (p0 := 43) dX9_letterOf_40 fX9_29 (by first | rfl | assumption | exact RW.s (by assumption) | exact TW.s (by assumption)) rfl rfl ?_
  refine g_iload_n (p0 := 44) (i := 1) dX9_letterOf_43 rfl rfl rfl ?_
  refine g_iload_n (p0 := 45) (i := 2) dX9_letterOf_44 rfl rfl rfl ?_
  refine g_cV2R (p0 := 48) (r1 := mX6_indexOf) dX9_letterOf_45 lX9_168 vX6_indexOf (by first | rfl | assumption | exact RW.s (by assumption) | exact TW.s (by assumption)) ⟨_, _, rfl⟩ (FITi rfl rfl) (Nat.le_of_ble_eq_true rfl) (indexOf_sp (by omega) hf) rfl ?_
  refine g_istore (p0 := 50) (i := 5) (ls2 := [_, _, _, _, _, _, _]) dX9_letterOf_48 (Nat.le_of_ble_eq_true rfl) rfl rfl ?_
  refine g_aload (p0 := 52) dX9_letterOf_50 rfl rfl ?_
  refine g_getR (p0 := 55) dX9_letterOf_52 fX9_171 (by first | rfl | assumption | exact RW.s (by assumption) | exact TW.s (by assumption)) rfl rfl ?_
  refine g_iload (p0 := 57) dX9_letterOf_55 rfl rfl ?_
  refine g_cV1R (p0 := 60) (r1 := mX7_at) dX9_letterOf_57 lX9_114 vX7_at (by first | rfl | assumption | exact RW.s (by assumption) | exact TW.s (by assumption)) ⟨_, _, rfl⟩ (FITi rfl rfl) (Nat.le_of_ble_eq_true rfl) (at_N (by first | exact ⟨rfl, rfl, by decide⟩ | assumption) (by omega) hg) rfl ?_
  refine g_istore (p0 := 62) (i := 6) (ls2 := [_, _, _, _, _, _, _]) dX9_letterOf_60 (Nat.le_of_ble_eq_true rfl) rfl rfl ?_
  refine g_iload_n (p0 := 63) (i := 3) dX9_letterOf_62 rfl rfl rfl ?_
  refine g_tabIn (tgt := 146) (off := 83) dX9_letterOf_63 (by decide) (by decide) (by decide +kernel) rfl ?_
  refine g_iload (p0 := 148) dX9_letterOf_146 rfl rfl ?_
  refine g_iconst (p0 := 149) (v := nI 2) dX9_letterOf_148 rfl rfl ?_
  first | ((with_reducible refine isN2 ?_); refine g_icmpN_eq (tgt := 157) (p1 := 152) dX9_letterOf_149 rfl (by omega) (by omega) rfl (fun c_149 => ?_) (fun c_149 => by exfalso; first | omega | contradiction | exact absurd (by assumption) c_149 | (simp_all; done))) | refine g_icmp_eq (tgt := 157) (p1 := 152) dX9_letterOf_149 rfl rfl (fun c_149 => ?_) (fun c_149 => by exfalso; first | omega | contradiction | exact absurd (by assumption) c_149 | (simp_all; done))
  refine g_aload (p0 := 159) dX9_letterOf_157 rfl rfl ?_
  refine g_iload (p0 := 161) dX9_letterOf_159 rfl rfl ?_
  refine g_cV1R (p0 := 164) (r1 := mX3_withOneMore) dX9_letterOf_161 lX9_188 vX3_withOneMore (by first | rfl | assumption | exact RW.s (by assumption) | exact TW.s (by assumption)) ⟨_, _, rfl⟩ (FITi rfl rfl) (Nat.le_of_ble_eq_true rfl) (hv) rfl ?_
  refine g_ireturn dX9_letterOf_164 rfl rfl (?_)
  exact ⟨rfl, rfl⟩
def bit (y : Int32) : Int32 := if y = -1 then nI 0 else nI 1 <<< (y &&& 31)
set_option maxRecDepth 20000 in
set_option maxHeartbeats 2000000 in
theorem bitOf_T {y : Int32} {σ : Sg} (h : y = -1) : CM mX3_bitOf [ar 34, ai y] σ (Ret (nI 0) σ) := by
  refine CM_in (ls := [some (ar 34), some (ai y)]) rfl ?_
  refine g_iload_n (p0 := 1) (i := 1) dX3_bitOf_0 rfl rfl rfl ?_
  refine g_iconst (p0 := 2) (v := -1) dX3_bitOf_1 rfl rfl ?_
  first | ((with_reducible refine isN2 ?_); refine g_icmpN_ne (tgt := 9) (p1 := 5) dX3_bitOf_2 rfl (by omega) (by omega) rfl (fun c_2 => by exfalso; exact c_2 h) (fun c_2 => ?_)) | refine g_icmp_ne (tgt := 9) (p1 := 5) dX3_bitOf_2 rfl rfl (fun c_2 => by exfalso; exact c_2 h) (fun c_2 => ?_)
  refine g_iconst (p0 := 6) (v := nI 0) dX3_bitOf_5 rfl rfl ?_
  refine g_goto (tgt := 12) dX3_bitOf_6 rfl ?_
  refine g_ireturn dX3_bitOf_12 rfl rfl (?_)
  exact ⟨rfl, rfl⟩
set_option maxRecDepth 20000 in
set_option maxHeartbeats 2000000 in
theorem bitOf_F {y : Int32} {σ : Sg} (h : ¬ y = -1) : CM mX3_bitOf [ar 34, ai y] σ (Ret (nI 1 <<< (y &&& 31)) σ) := by
  refine CM_in (ls := [some (ar 34), some (ai y)]) rfl ?_
  refine g_iload_n (p0 := 1) (i := 1) dX3_bitOf_0 rfl rfl rfl ?_
  refine g_iconst (p0 := 2) (v := -1) dX3_bitOf_1 rfl rfl ?_
  first | ((with_reducible refine isN2 ?_); refine g_icmpN_ne (tgt := 9) (p1 := 5) dX3_bitOf_2 rfl (by omega) (by omega) rfl (fun c_2 => ?_) (fun c_2 => by exfalso; exact h c_2)) | refine g_icmp_ne (tgt := 9) (p1 := 5) dX3_bitOf_2 rfl rfl (fun c_2 => ?_) (fun c_2 => by exfalso; exact h c_2)
  refine g_iconst (p0 := 10) (v := nI 1) dX3_bitOf_9 rfl rfl ?_
  refine g_iload_n (p0 := 11) (i := 1) dX3_bitOf_10 rfl rfl rfl ?_
  refine g_ishl (p0 := 12) dX3_bitOf_11 rfl ?_
  refine g_ireturn dX3_bitOf_12 rfl rfl (?_)
  exact ⟨rfl, rfl⟩
theorem bitOf_sp {y : Int32} {σ : Sg} : CM mX3_bitOf [ar 34, ai y] σ (Ret (bit y) σ) := by
  by_cases h : y = -1
  · rw [bit, if_pos h]; exact bitOf_T h
  · rw [bit, if_neg h]; exact bitOf_F h
set_option maxRecDepth 20000 in
set_option maxHeartbeats 2000000 in
theorem oneMore_sp {i g a b : Nat} {σ : Sg} (hi : i < 160) (hg : σ 36 i = nI g) (ha : σ 38 i = nI a) (hb : σ 40 i = nI b) (hg1 : g < 500) (ha1 : a < 500) (hb1 : b < 500) : CM mX3_withOneMore [ar 34, ai (nI i)] σ (Ret (bit (val (σ 44) g (a + 1) b) ||| bit (val (σ 44) g a (b + 1))) σ) := by
  refine CM_in (ls := [some (ar 34), some (ai (nI i))]) rfl ?_
  refine g_aload_n (p0 := 1) (i := 0) dX3_withOneMore_0 rfl rfl rfl ?_
  refine g_aload_n (p0 := 2) (i := 0) dX3_withOneMore_1 rfl rfl rfl ?_
  refine g_iload_n (p0 := 3) (i := 1) dX3_withOneMore_2 rfl rfl rfl ?_
  refine g_iconst (p0 := 4) (v := nI 0) dX3_withOneMore_3 rfl rfl ?_
  refine g_iconst (p0 := 5) (v := nI 1) dX3_withOneMore_4 rfl rfl ?_
  refine g_cV3R (p0 := 8) (r1 := mX3_letterWith) dX3_withOneMore_5 lX3_55 vX3_letterWith (by first | rfl | assumption | exact RW.s (by assumption) | exact TW.s (by assumption)) ⟨_, _, rfl⟩ (FITi rfl rfl) (Nat.le_of_ble_eq_true rfl) (letterWith_a1 hi hg ha hb hg1 ha1 hb1) rfl ?_
  refine g_cV1R (p0 := 11) (r1 := mX3_bitOf) dX3_withOneMore_8 lX3_63 vX3_bitOf (by first | rfl | assumption | exact RW.s (by assumption) | exact TW.s (by assumption)) ⟨_, _, rfl⟩ (FITi rfl rfl) (Nat.le_of_ble_eq_true rfl) (bitOf_sp) rfl ?_
  refine g_aload_n (p0 := 12) (i := 0) dX3_withOneMore_11 rfl rfl rfl ?_
  refine g_aload_n (p0 := 13) (i := 0) dX3_withOneMore_12 rfl rfl rfl ?_
  refine g_iload_n (p0 := 14) (i := 1) dX3_withOneMore_13 rfl rfl rfl ?_
  refine g_iconst (p0 := 15) (v := nI 1) dX3_withOneMore_14 rfl rfl ?_
  refine g_iconst (p0 := 16) (v := nI 1) dX3_withOneMore_15 rfl rfl ?_
  refine g_cV3R (p0 := 19) (r1 := mX3_letterWith) dX3_withOneMore_16 lX3_55 vX3_letterWith (by first | rfl | assumption | exact RW.s (by assumption) | exact TW.s (by assumption)) ⟨_, _, rfl⟩ (FITi rfl rfl) (Nat.le_of_ble_eq_true rfl) (letterWith_b1 hi hg ha hb hg1 ha1 hb1) rfl ?_
  refine g_cV1R (p0 := 22) (r1 := mX3_bitOf) dX3_withOneMore_19 lX3_63 vX3_bitOf (by first | rfl | assumption | exact RW.s (by assumption) | exact TW.s (by assumption)) ⟨_, _, rfl⟩ (FITi rfl rfl) (Nat.le_of_ble_eq_true rfl) (bitOf_sp) rfl ?_
  refine g_ior (p0 := 23) dX3_withOneMore_22 rfl ?_
  refine g_ireturn dX3_withOneMore_23 rfl rfl (?_)
  exact ⟨rfl, rfl⟩
set_option maxRecDepth 20000 in
set_option maxHeartbeats 2000000 in
theorem more_00 {l a b : Nat} {y z : Int32} {σ : Sg} (hl : l < 160) (ha : σ 90 l = nI a) (hb : σ 91 l = nI b) (ha1 : a < 500) (hb1 : b < 500) (h1 : GD (a + 1) b) (l1 : CM mX10_letterAt [ar 79, ai (nI (a + 1)), ai (nI b)] σ (Ret y σ)) (h2 : GD a (b + 1)) (l2 : CM mX10_letterAt [ar 79, ai (nI a), ai (nI (b + 1))] σ (Ret z σ))  : CM mX10_moreOf [ar 79, ai (nI l)] σ (Ret ((nI 0 ||| (nI 1 <<< (y &&& 31))) ||| (nI 1 <<< (z &&& 31))) σ) := by
  refine CM_in (ls := [some (ar 79), some (ai (nI l)), none]) rfl ?_
  refine g_iconst (p0 := 1) (v := nI 0) dX10_moreOf_0 rfl rfl ?_
  refine g_istore_n (p0 := 2) (i := 2) (ls2 := [_, _, _]) dX10_moreOf_1 rfl (Nat.le_of_ble_eq_true rfl) rfl rfl ?_
  refine g_iload_n (p0 := 3) (i := 2) dX10_moreOf_2 rfl rfl rfl ?_
  refine g_aload_n (p0 := 4) (i := 0) dX10_moreOf_3 rfl rfl rfl ?_
  refine g_getR (p0 := 7) dX10_moreOf_4 fX10_40 (by first | rfl | assumption | exact RW.s (by assumption) | exact TW.s (by assumption)) rfl rfl ?_
  refine g_iload_n (p0 := 8) (i := 1) dX10_moreOf_7 rfl rfl rfl ?_
  first | ((with_reducible refine isN1 ?_); refine g_aldN (p0 := 9) dX10_moreOf_8 (by first | rfl | assumption | exact RW.s (by assumption) | exact TW.s (by assumption)) (by first | decide | assumption) (by omega) (by first | assumption | ((repeat (first | exact up_hit | refine up_nv (by decide) ?_ | refine up_mv (by first | decide | omega) ?_)) <;> first | assumption | rfl)) rfl ?_) | refine g_ald (p0 := 9) dX10_moreOf_8 (by first | rfl | assumption | exact RW.s (by assumption) | exact TW.s (by assumption)) (by assumption) (by first | assumption | ((repeat (first | exact up_hit | refine up_nv (by decide) ?_ | refine up_mv (by first | decide | omega) ?_)) <;> first | assumption | rfl)) rfl ?_
  refine g_iconst (p0 := 10) (v := nI 1) dX10_moreOf_9 rfl rfl ?_
  first | ((with_reducible refine isN2 ?_); refine g_iaddN (p0 := 11) dX10_moreOf_10 rfl ?_) | refine g_iadd (p0 := 11) dX10_moreOf_10 rfl ?_
  refine g_aload_n (p0 := 12) (i := 0) dX10_moreOf_11 rfl rfl rfl ?_
  refine g_getR (p0 := 15) dX10_moreOf_12 fX10_43 (by first | rfl | assumption | exact RW.s (by assumption) | exact TW.s (by assumption)) rfl rfl ?_
  refine g_iload_n (p0 := 16) (i := 1) dX10_moreOf_15 rfl rfl rfl ?_
  first | ((with_reducible refine isN1 ?_); refine g_aldN (p0 := 17) dX10_moreOf_16 (by first | rfl | assumption | exact RW.s (by assumption) | exact TW.s (by assumption)) (by first | decide | assumption) (by omega) (by first | assumption | ((repeat (first | exact up_hit | refine up_nv (by decide) ?_ | refine up_mv (by first | decide | omega) ?_)) <;> first | assumption | rfl)) rfl ?_) | refine g_ald (p0 := 17) dX10_moreOf_16 (by first | rfl | assumption | exact RW.s (by assumption) | exact TW.s (by assumption)) (by assumption) (by first | assumption | ((repeat (first | exact up_hit | refine up_nv (by decide) ?_ | refine up_mv (by first | decide | omega) ?_)) <;> first | assumption | rfl)) rfl ?_
  refine g_cS2R (p0 := 20) (r1 := mX10_areGood) dX10_moreOf_17 (Or.inl lX10_134) vX10_areGood (FITi rfl rfl) (Nat.le_of_ble_eq_true rfl) (areGood_T ⟨h1.1, h1.2.1⟩ h1.2.2) rfl ?_
  first | ((with_reducible refine isN1 ?_); refine g_ifN_eq (tgt := 46) (p1 := 23) dX10_moreOf_20 rfl (by omega) rfl (fun c_20 => by exfalso; first | omega | contradiction | exact absurd (by assumption) c_20 | (simp_all; done)) (fun c_20 => ?_)) | refine g_if_eq (tgt := 46) (p1 := 23) dX10_moreOf_20 rfl rfl (fun c_20 => by exfalso; first | omega | contradiction | exact absurd (by assumption) c_20 | (simp_all; done)) (fun c_20 => ?_)
  refine g_iconst (p0 := 24) (v := nI 1) dX10_moreOf_23 rfl rfl ?_
  refine g_aload_n (p0 := 25) (i := 0) dX10_moreOf_24 rfl rfl rfl ?_
  refine g_aload_n (p0 := 26) (i := 0) dX10_moreOf_25 rfl rfl rfl ?_
  refine g_getR (p0 := 29) dX10_moreOf_26 fX10_40 (by first | rfl | assumption | exact RW.s (by assumption) | exact TW.s (by assumption)) rfl rfl ?_
  refine g_iload_n (p0 := 30) (i := 1) dX10_moreOf_29 rfl rfl rfl ?_
  first | ((with_reducible refine isN1 ?_); refine g_aldN (p0 := 31) dX10_moreOf_30 (by first | rfl | assumption | exact RW.s (by assumption) | exact TW.s (by assumption)) (by first | decide | assumption) (by omega) (by first | assumption | ((repeat (first | exact up_hit | refine up_nv (by decide) ?_ | refine up_mv (by first | decide | omega) ?_)) <;> first | assumption | rfl)) rfl ?_) | refine g_ald (p0 := 31) dX10_moreOf_30 (by first | rfl | assumption | exact RW.s (by assumption) | exact TW.s (by assumption)) (by assumption) (by first | assumption | ((repeat (first | exact up_hit | refine up_nv (by decide) ?_ | refine up_mv (by first | decide | omega) ?_)) <;> first | assumption | rfl)) rfl ?_
  refine g_iconst (p0 := 32) (v := nI 1) dX10_moreOf_31 rfl rfl ?_
  first | ((with_reducible refine isN2 ?_); refine g_iaddN (p0 := 33) dX10_moreOf_32 rfl ?_) | refine g_iadd (p0 := 33) dX10_moreOf_32 rfl ?_
  refine g_aload_n (p0 := 34) (i := 0) dX10_moreOf_33 rfl rfl rfl ?_
  refine g_getR (p0 := 37) dX10_moreOf_34 fX10_43 (by first | rfl | assumption | exact RW.s (by assumption) | exact TW.s (by assumption)) rfl rfl ?_
  refine g_iload_n (p0 := 38) (i := 1) dX10_moreOf_37 rfl rfl rfl ?_
  first | ((with_reducible refine isN1 ?_); refine g_aldN (p0 := 39) dX10_moreOf_38 (by first | rfl | assumption | exact RW.s (by assumption) | exact TW.s (by assumption)) (by first | decide | assumption) (by omega) (by first | assumption | ((repeat (first | exact up_hit | refine up_nv (by decide) ?_ | refine up_mv (by first | decide | omega) ?_)) <;> first | assumption | rfl)) rfl ?_) | refine g_ald (p0 := 39) dX10_moreOf_38 (by first | rfl | assumption | exact RW.s (by assumption) | exact TW.s (by assumption)) (by assumption) (by first | assumption | ((repeat (first | exact up_hit | refine up_nv (by decide) ?_ | refine up_mv (by first | decide | omega) ?_)) <;> first | assumption | rfl)) rfl ?_
  refine g_cV2R (p0 := 42) (r1 := mX10_letterAt) dX10_moreOf_39 lX10_138 vX10_letterAt (by first | rfl | assumption | exact RW.s (by assumption) | exact TW.s (by assumption)) ⟨_, _, rfl⟩ (FITi rfl rfl) (Nat.le_of_ble_eq_true rfl) (l1) rfl ?_
  refine g_ishl (p0 := 43) dX10_moreOf_42 rfl ?_
  refine g_goto (tgt := 47) dX10_moreOf_43 rfl ?_
  refine g_ior (p0 := 48) dX10_moreOf_47 rfl ?_
  refine g_istore_n (p0 := 49) (i := 2) (ls2 := [_, _, _]) dX10_moreOf_48 rfl (Nat.le_of_ble_eq_true rfl) rfl rfl ?_
  refine g_aload_n (p0 := 50) (i := 0) dX10_moreOf_49 rfl rfl rfl ?_
  refine g_getR (p0 := 53) dX10_moreOf_50 fX10_40 (by first | rfl | assumption | exact RW.s (by assumption) | exact TW.s (by assumption)) rfl rfl ?_
  refine g_iload_n (p0 := 54) (i := 1) dX10_moreOf_53 rfl rfl rfl ?_
  first | ((with_reducible refine isN1 ?_); refine g_aldN (p0 := 55) dX10_moreOf_54 (by first | rfl | assumption | exact RW.s (by assumption) | exact TW.s (by assumption)) (by first | decide | assumption) (by omega) (by first | assumption | ((repeat (first | exact up_hit | refine up_nv (by decide) ?_ | refine up_mv (by first | decide | omega) ?_)) <;> first | assumption | rfl)) rfl ?_) | refine g_ald (p0 := 55) dX10_moreOf_54 (by first | rfl | assumption | exact RW.s (by assumption) | exact TW.s (by assumption)) (by assumption) (by first | assumption | ((repeat (first | exact up_hit | refine up_nv (by decide) ?_ | refine up_mv (by first | decide | omega) ?_)) <;> first | assumption | rfl)) rfl ?_
  refine g_aload_n (p0 := 56) (i := 0) dX10_moreOf_55 rfl rfl rfl ?_
  refine g_getR (p0 := 59) dX10_moreOf_56 fX10_43 (by first | rfl | assumption | exact RW.s (by assumption) | exact TW.s (by assumption)) rfl rfl ?_
  refine g_iload_n (p0 := 60) (i := 1) dX10_moreOf_59 rfl rfl rfl ?_
  first | ((with_reducible refine isN1 ?_); refine g_aldN (p0 := 61) dX10_moreOf_60 (by first | rfl | assumption | exact RW.s (by assumption) | exact TW.s (by assumption)) (by first | decide | assumption) (by omega) (by first | assumption | ((repeat (first | exact up_hit | refine up_nv (by decide) ?_ | refine up_mv (by first | decide | omega) ?_)) <;> first | assumption | rfl)) rfl ?_) | refine g_ald (p0 := 61) dX10_moreOf_60 (by first | rfl | assumption | exact RW.s (by assumption) | exact TW.s (by assumption)) (by assumption) (by first | assumption | ((repeat (first | exact up_hit | refine up_nv (by decide) ?_ | refine up_mv (by first | decide | omega) ?_)) <;> first | assumption | rfl)) rfl ?_
  refine g_iconst (p0 := 62) (v := nI 1) dX10_moreOf_61 rfl rfl ?_
  first | ((with_reducible refine isN2 ?_); refine g_iaddN (p0 := 63) dX10_moreOf_62 rfl ?_) | refine g_iadd (p0 := 63) dX10_moreOf_62 rfl ?_
  refine g_cS2R (p0 := 66) (r1 := mX10_areGood) dX10_moreOf_63 (Or.inl lX10_134) vX10_areGood (FITi rfl rfl) (Nat.le_of_ble_eq_true rfl) (areGood_T ⟨h2.1, h2.2.1⟩ h2.2.2) rfl ?_
  first | ((with_reducible refine isN1 ?_); refine g_ifN_eq (tgt := 94) (p1 := 69) dX10_moreOf_66 rfl (by omega) rfl (fun c_66 => by exfalso; first | omega | contradiction | exact absurd (by assumption) c_66 | (simp_all; done)) (fun c_66 => ?_)) | refine g_if_eq (tgt := 94) (p1 := 69) dX10_moreOf_66 rfl rfl (fun c_66 => by exfalso; first | omega | contradiction | exact absurd (by assumption) c_66 | (simp_all; done)) (fun c_66 => ?_)
  refine g_iload_n (p0 := 70) (i := 2) dX10_moreOf_69 rfl rfl rfl ?_
  refine g_iconst (p0 := 71) (v := nI 1) dX10_moreOf_70 rfl rfl ?_
  refine g_aload_n (p0 := 72) (i := 0) dX10_moreOf_71 rfl rfl rfl ?_
  refine g_aload_n (p0 := 73) (i := 0) dX10_moreOf_72 rfl rfl rfl ?_
  refine g_getR (p0 := 76) dX10_moreOf_73 fX10_40 (by first | rfl | assumption | exact RW.s (by assumption) | exact TW.s (by assumption)) rfl rfl ?_
  refine g_iload_n (p0 := 77) (i := 1) dX10_moreOf_76 rfl rfl rfl ?_
  first | ((with_reducible refine isN1 ?_); refine g_aldN (p0 := 78) dX10_moreOf_77 (by first | rfl | assumption | exact RW.s (by assumption) | exact TW.s (by assumption)) (by first | decide | assumption) (by omega) (by first | assumption | ((repeat (first | exact up_hit | refine up_nv (by decide) ?_ | refine up_mv (by first | decide | omega) ?_)) <;> first | assumption | rfl)) rfl ?_) | refine g_ald (p0 := 78) dX10_moreOf_77 (by first | rfl | assumption | exact RW.s (by assumption) | exact TW.s (by assumption)) (by assumption) (by first | assumption | ((repeat (first | exact up_hit | refine up_nv (by decide) ?_ | refine up_mv (by first | decide | omega) ?_)) <;> first | assumption | rfl)) rfl ?_
  refine g_aload_n (p0 := 79) (i := 0) dX10_moreOf_78 rfl rfl rfl ?_
  refine g_getR (p0 := 82) dX10_moreOf_79 fX10_43 (by first | rfl | assumption | exact RW.s (by assumption) | exact TW.s (by assumption)) rfl rfl ?_
  refine g_iload_n (p0 := 83) (i := 1) dX10_moreOf_82 rfl rfl rfl ?_
  first | ((with_reducible refine isN1 ?_); refine g_aldN (p0 := 84) dX10_moreOf_83 (by first | rfl | assumption | exact RW.s (by assumption) | exact TW.s (by assumption)) (by first | decide | assumption) (by omega) (by first | assumption | ((repeat (first | exact up_hit | refine up_nv (by decide) ?_ | refine up_mv (by first | decide | omega) ?_)) <;> first | assumption | rfl)) rfl ?_) | refine g_ald (p0 := 84) dX10_moreOf_83 (by first | rfl | assumption | exact RW.s (by assumption) | exact TW.s (by assumption)) (by assumption) (by first | assumption | ((repeat (first | exact up_hit | refine up_nv (by decide) ?_ | refine up_mv (by first | decide | omega) ?_)) <;> first | assumption | rfl)) rfl ?_
  refine g_iconst (p0 := 85) (v := nI 1) dX10_moreOf_84 rfl rfl ?_
  first | ((with_reducible refine isN2 ?_); refine g_iaddN (p0 := 86) dX10_moreOf_85 rfl ?_) | refine g_iadd (p0 := 86) dX10_moreOf_85 rfl ?_
  refine g_cV2R (p0 := 89) (r1 := mX10_letterAt) dX10_moreOf_86 lX10_138 vX10_letterAt (by first | rfl | assumption | exact RW.s (by assumption) | exact TW.s (by assumption)) ⟨_, _, rfl⟩ (FITi rfl rfl) (Nat.le_of_ble_eq_true rfl) (l2) rfl ?_
  refine g_ishl (p0 := 90) dX10_moreOf_89 rfl ?_
  refine g_ior (p0 := 91) dX10_moreOf_90 rfl ?_
  refine g_goto (tgt := 95) dX10_moreOf_91 rfl ?_
  refine g_ireturn dX10_moreOf_95 rfl rfl (?_)
  exact ⟨rfl, rfl⟩
set_option maxRecDepth 20000 in
set_option maxHeartbeats 2000000 in
theorem more_01 {l a b : Nat} {y : Int32} {σ : Sg} (hl : l < 160) (ha : σ 90 l = nI a) (hb : σ 91 l = nI b) (ha1 : a < 500) (hb1 : b < 500) (h1 : GD (a + 1) b) (l1 : CM mX10_letterAt [ar 79, ai (nI (a + 1)), ai (nI b)] σ (Ret y σ)) (h2 : ¬ GD a (b + 1))  : CM mX10_moreOf [ar 79, ai (nI l)] σ (Ret (nI 0 ||| (nI 1 <<< (y &&& 31))) σ) := by
  refine CM_in (ls := [some (ar 79), some (ai (nI l)), none]) rfl ?_
  refine g_iconst (p0 := 1) (v := nI 0) dX10_moreOf_0 rfl rfl ?_
  refine g_istore_n (p0 := 2) (i := 2) (ls2 := [_, _, _]) dX10_moreOf_1 rfl (Nat.le_of_ble_eq_true rfl) rfl rfl ?_
  refine g_iload_n (p0 := 3) (i := 2) dX10_moreOf_2 rfl rfl rfl ?_
  refine g_aload_n (p0 := 4) (i := 0) dX10_moreOf_3 rfl rfl rfl ?_
  refine g_getR (p0 := 7) dX10_moreOf_4 fX10_40 (by first | rfl | assumption | exact RW.s (by assumption) | exact TW.s (by assumption)) rfl rfl ?_
  refine g_iload_n (p0 := 8) (i := 1) dX10_moreOf_7 rfl rfl rfl ?_
  first | ((with_reducible refine isN1 ?_); refine g_aldN (p0 := 9) dX10_moreOf_8 (by first | rfl | assumption | exact RW.s (by assumption) | exact TW.s (by assumption)) (by first | decide | assumption) (by omega) (by first | assumption | ((repeat (first | exact up_hit | refine up_nv (by decide) ?_ | refine up_mv (by first | decide | omega) ?_)) <;> first | assumption | rfl)) rfl ?_) | refine g_ald (p0 := 9) dX10_moreOf_8 (by first | rfl | assumption | exact RW.s (by assumption) | exact TW.s (by assumption)) (by assumption) (by first | assumption | ((repeat (first | exact up_hit | refine up_nv (by decide) ?_ | refine up_mv (by first | decide | omega) ?_)) <;> first | assumption | rfl)) rfl ?_
  refine g_iconst (p0 := 10) (v := nI 1) dX10_moreOf_9 rfl rfl ?_
  first | ((with_reducible refine isN2 ?_); refine g_iaddN (p0 := 11) dX10_moreOf_10 rfl ?_) | refine g_iadd (p0 := 11) dX10_moreOf_10 rfl ?_
  refine g_aload_n (p0 := 12) (i := 0) dX10_moreOf_11 rfl rfl rfl ?_
  refine g_getR (p0 := 15) dX10_moreOf_12 fX10_43 (by first | rfl | assumption | exact RW.s (by assumption) | exact TW.s (by assumption)) rfl rfl ?_
  refine g_iload_n (p0 := 16) (i := 1) dX10_moreOf_15 rfl rfl rfl ?_
  first | ((with_reducible refine isN1 ?_); refine g_aldN (p0 := 17) dX10_moreOf_16 (by first | rfl | assumption | exact RW.s (by assumption) | exact TW.s (by assumption)) (by first | decide | assumption) (by omega) (by first | assumption | ((repeat (first | exact up_hit | refine up_nv (by decide) ?_ | refine up_mv (by first | decide | omega) ?_)) <;> first | assumption | rfl)) rfl ?_) | refine g_ald (p0 := 17) dX10_moreOf_16 (by first | rfl | assumption | exact RW.s (by assumption) | exact TW.s (by assumption)) (by assumption) (by first | assumption | ((repeat (first | exact up_hit | refine up_nv (by decide) ?_ | refine up_mv (by first | decide | omega) ?_)) <;> first | assumption | rfl)) rfl ?_
  refine g_cS2R (p0 := 20) (r1 := mX10_areGood) dX10_moreOf_17 (Or.inl lX10_134) vX10_areGood (FITi rfl rfl) (Nat.le_of_ble_eq_true rfl) (areGood_T ⟨h1.1, h1.2.1⟩ h1.2.2) rfl ?_
  first | ((with_reducible refine isN1 ?_); refine g_ifN_eq (tgt := 46) (p1 := 23) dX10_moreOf_20 rfl (by omega) rfl (fun c_20 => by exfalso; first | omega | contradiction | exact absurd (by assumption) c_20 | (simp_all; done)) (fun c_20 => ?_)) | refine g_if_eq (tgt := 46) (p1 := 23) dX10_moreOf_20 rfl rfl (fun c_20 => by exfalso; first | omega | contradiction | exact absurd (by assumption) c_20 | (simp_all; done)) (fun c_20 => ?_)
  refine g_iconst (p0 := 24) (v := nI 1) dX10_moreOf_23 rfl rfl ?_
  refine g_aload_n (p0 := 25) (i := 0) dX10_moreOf_24 rfl rfl rfl ?_
  refine g_aload_n (p0 := 26) (i := 0) dX10_moreOf_25 rfl rfl rfl ?_
  refine g_getR (p0 := 29) dX10_moreOf_26 fX10_40 (by first | rfl | assumption | exact RW.s (by assumption) | exact TW.s (by assumption)) rfl rfl ?_
  refine g_iload_n (p0 := 30) (i := 1) dX10_moreOf_29 rfl rfl rfl ?_
  first | ((with_reducible refine isN1 ?_); refine g_aldN (p0 := 31) dX10_moreOf_30 (by first | rfl | assumption | exact RW.s (by assumption) | exact TW.s (by assumption)) (by first | decide | assumption) (by omega) (by first | assumption | ((repeat (first | exact up_hit | refine up_nv (by decide) ?_ | refine up_mv (by first | decide | omega) ?_)) <;> first | assumption | rfl)) rfl ?_) | refine g_ald (p0 := 31) dX10_moreOf_30 (by first | rfl | assumption | exact RW.s (by assumption) | exact TW.s (by assumption)) (by assumption) (by first | assumption | ((repeat (first | exact up_hit | refine up_nv (by decide) ?_ | refine up_mv (by first | decide | omega) ?_)) <;> first | assumption | rfl)) rfl ?_
  refine g_iconst (p0 := 32) (v := nI 1) dX10_moreOf_31 rfl rfl ?_
  first | ((with_reducible refine isN2 ?_); refine g_iaddN (p0 := 33) dX10_moreOf_32 rfl ?_) | refine g_iadd (p0 := 33) dX10_moreOf_32 rfl ?_
  refine g_aload_n (p0 := 34) (i := 0) dX10_moreOf_33 rfl rfl rfl ?_
  refine g_getR (p0 := 37) dX10_moreOf_34 fX10_43 (by first | rfl | assumption | exact RW.s (by assumption) | exact TW.s (by assumption)) rfl rfl ?_
  refine g_iload_n (p0 := 38) (i := 1) dX10_moreOf_37 rfl rfl rfl ?_
  first | ((with_reducible refine isN1 ?_); refine g_aldN (p0 := 39) dX10_moreOf_38 (by first | rfl | assumption | exact RW.s (by assumption) | exact TW.s (by assumption)) (by first | decide | assumption) (by omega) (by first | assumption | ((repeat (first | exact up_hit | refine up_nv (by decide) ?_ | refine up_mv (by first | decide | omega) ?_)) <;> first | assumption | rfl)) rfl ?_) | refine g_ald (p0 := 39) dX10_moreOf_38 (by first | rfl | assumption | exact RW.s (by assumption) | exact TW.s (by assumption)) (by assumption) (by first | assumption | ((repeat (first | exact up_hit | refine up_nv (by decide) ?_ | refine up_mv (by first | decide | omega) ?_)) <;> first | assumption | rfl)) rfl ?_
  refine g_cV2R (p0 := 42) (r1 := mX10_letterAt) dX10_moreOf_39 lX10_138 vX10_letterAt (by first | rfl | assumption | exact RW.s (by assumption) | exact TW.s (by assumption)) ⟨_, _, rfl⟩ (FITi rfl rfl) (Nat.le_of_ble_eq_true rfl) (l1) rfl ?_
  refine g_ishl (p0 := 43) dX10_moreOf_42 rfl ?_
  refine g_goto (tgt := 47) dX10_moreOf_43 rfl ?_
  refine g_ior (p0 := 48) dX10_moreOf_47 rfl ?_
  refine g_istore_n (p0 := 49) (i := 2) (ls2 := [_, _, _]) dX10_moreOf_48 rfl (Nat.le_of_ble_eq_true rfl) rfl rfl ?_
  refine g_aload_n (p0 := 50) (i := 0) dX10_moreOf_49 rfl rfl rfl ?_
  refine g_getR (p0 := 53) dX10_moreOf_50 fX10_40 (by first | rfl | assumption | exact RW.s (by assumption) | exact TW.s (by assumption)) rfl rfl ?_
  refine g_iload_n (p0 := 54) (i := 1) dX10_moreOf_53 rfl rfl rfl ?_
  first | ((with_reducible refine isN1 ?_); refine g_aldN (p0 := 55) dX10_moreOf_54 (by first | rfl | assumption | exact RW.s (by assumption) | exact TW.s (by assumption)) (by first | decide | assumption) (by omega) (by first | assumption | ((repeat (first | exact up_hit | refine up_nv (by decide) ?_ | refine up_mv (by first | decide | omega) ?_)) <;> first | assumption | rfl)) rfl ?_) | refine g_ald (p0 := 55) dX10_moreOf_54 (by first | rfl | assumption | exact RW.s (by assumption) | exact TW.s (by assumption)) (by assumption) (by first | assumption | ((repeat (first | exact up_hit | refine up_nv (by decide) ?_ | refine up_mv (by first | decide | omega) ?_)) <;> first | assumption | rfl)) rfl ?_
  refine g_aload_n (p0 := 56) (i := 0) dX10_moreOf_55 rfl rfl rfl ?_
  refine g_getR (p0 := 59) dX10_moreOf_56 fX10_43 (by first | rfl | assumption | exact RW.s (by assumption) | exact TW.s (by assumption)) rfl rfl ?_
  refine g_iload_n (p0 := 60) (i := 1) dX10_moreOf_59 rfl rfl rfl ?_
  first | ((with_reducible refine isN1 ?_); refine g_aldN (p0 := 61) dX10_moreOf_60 (by first | rfl | assumption | exact RW.s (by assumption) | exact TW.s (by assumption)) (by first | decide | assumption) (by omega) (by first | assumption | ((repeat (first | exact up_hit | refine up_nv (by decide) ?_ | refine up_mv (by first | decide | omega) ?_)) <;> first | assumption | rfl)) rfl ?_) | refine g_ald (p0 := 61) dX10_moreOf_60 (by first | rfl | assumption | exact RW.s (by assumption) | exact TW.s (by assumption)) (by assumption) (by first | assumption | ((repeat (first | exact up_hit | refine up_nv (by decide) ?_ | refine up_mv (by first | decide | omega) ?_)) <;> first | assumption | rfl)) rfl ?_
  refine g_iconst (p0 := 62) (v := nI 1) dX10_moreOf_61 rfl rfl ?_
  first | ((with_reducible refine isN2 ?_); refine g_iaddN (p0 := 63) dX10_moreOf_62 rfl ?_) | refine g_iadd (p0 := 63) dX10_moreOf_62 rfl ?_
  refine g_cS2R (p0 := 66) (r1 := mX10_areGood) dX10_moreOf_63 (Or.inl lX10_134) vX10_areGood (FITi rfl rfl) (Nat.le_of_ble_eq_true rfl) (areGood_F (by omega) (by omega) h2) rfl ?_
  first | ((with_reducible refine isN1 ?_); refine g_ifN_eq (tgt := 94) (p1 := 69) dX10_moreOf_66 rfl (by omega) rfl (fun c_66 => ?_) (fun c_66 => by exfalso; first | omega | contradiction | exact absurd (by assumption) c_66 | (simp_all; done))) | refine g_if_eq (tgt := 94) (p1 := 69) dX10_moreOf_66 rfl rfl (fun c_66 => ?_) (fun c_66 => by exfalso; first | omega | contradiction | exact absurd (by assumption) c_66 | (simp_all; done))
  refine g_iload_n (p0 := 95) (i := 2) dX10_moreOf_94 rfl rfl rfl ?_
  refine g_ireturn dX10_moreOf_95 rfl rfl (?_)
  exact ⟨rfl, rfl⟩
set_option maxRecDepth 20000 in
set_option maxHeartbeats 2000000 in
theorem more_10 {l a b : Nat} {z : Int32} {σ : Sg} (hl : l < 160) (ha : σ 90 l = nI a) (hb : σ 91 l = nI b) (ha1 : a < 500) (hb1 : b < 500) (h1 : ¬ GD (a + 1) b) (h2 : GD a (b + 1)) (l2 : CM mX10_letterAt [ar 79, ai (nI a), ai (nI (b + 1))] σ (Ret z σ))  : CM mX10_moreOf [ar 79, ai (nI l)] σ (Ret ((nI 0 ||| nI 0) ||| (nI 1 <<< (z &&& 31))) σ) := by
  refine CM_in (ls := [some (ar 79), some (ai (nI l)), none]) rfl ?_
  refine g_iconst (p0 := 1) (v := nI 0) dX10_moreOf_0 rfl rfl ?_
  refine g_istore_n (p0 := 2) (i := 2) (ls2 := [_, _, _]) dX10_moreOf_1 rfl (Nat.le_of_ble_eq_true rfl) rfl rfl ?_
  refine g_iload_n (p0 := 3) (i := 2) dX10_moreOf_2 rfl rfl rfl ?_
  refine g_aload_n (p0 := 4) (i := 0) dX10_moreOf_3 rfl rfl rfl ?_
  refine g_getR (p0 := 7) dX10_moreOf_4 fX10_40 (by first | rfl | assumption | exact RW.s (by assumption) | exact TW.s (by assumption)) rfl rfl ?_
  refine g_iload_n (p0 := 8) (i := 1) dX10_moreOf_7 rfl rfl rfl ?_
  first | ((with_reducible refine isN1 ?_); refine g_aldN (p0 := 9) dX10_moreOf_8 (by first | rfl | assumption | exact RW.s (by assumption) | exact TW.s (by assumption)) (by first | decide | assumption) (by omega) (by first | assumption | ((repeat (first | exact up_hit | refine up_nv (by decide) ?_ | refine up_mv (by first | decide | omega) ?_)) <;> first | assumption | rfl)) rfl ?_) | refine g_ald (p0 := 9) dX10_moreOf_8 (by first | rfl | assumption | exact RW.s (by assumption) | exact TW.s (by assumption)) (by assumption) (by first | assumption | ((repeat (first | exact up_hit | refine up_nv (by decide) ?_ | refine up_mv (by first | decide | omega) ?_)) <;> first | assumption | rfl)) rfl ?_
  refine g_iconst (p0 := 10) (v := nI 1) dX10_moreOf_9 rfl rfl ?_
  first | ((with_reducible refine isN2 ?_); refine g_iaddN (p0 := 11) dX10_moreOf_10 rfl ?_) | refine g_iadd (p0 := 11) dX10_moreOf_10 rfl ?_
  refine g_aload_n (p0 := 12) (i := 0) dX10_moreOf_11 rfl rfl rfl ?_
  refine g_getR (p0 := 15) dX10_moreOf_12 fX10_43 (by first | rfl | assumption | exact RW.s (by assumption) | exact TW.s (by assumption)) rfl rfl ?_
  refine g_iload_n (p0 := 16) (i := 1) dX10_moreOf_15 rfl rfl rfl ?_
  first | ((with_reducible refine isN1 ?_); refine g_aldN (p0 := 17) dX10_moreOf_16 (by first | rfl | assumption | exact RW.s (by assumption) | exact TW.s (by assumption)) (by first | decide | assumption) (by omega) (by first | assumption | ((repeat (first | exact up_hit | refine up_nv (by decide) ?_ | refine up_mv (by first | decide | omega) ?_)) <;> first | assumption | rfl)) rfl ?_) | refine g_ald (p0 := 17) dX10_moreOf_16 (by first | rfl | assumption | exact RW.s (by assumption) | exact TW.s (by assumption)) (by assumption) (by first | assumption | ((repeat (first | exact up_hit | refine up_nv (by decide) ?_ | refine up_mv (by first | decide | omega) ?_)) <;> first | assumption | rfl)) rfl ?_
  refine g_cS2R (p0 := 20) (r1 := mX10_areGood) dX10_moreOf_17 (Or.inl lX10_134) vX10_areGood (FITi rfl rfl) (Nat.le_of_ble_eq_true rfl) (areGood_F (by omega) (by omega) h1) rfl ?_
  first | ((with_reducible refine isN1 ?_); refine g_ifN_eq (tgt := 46) (p1 := 23) dX10_moreOf_20 rfl (by omega) rfl (fun c_20 => ?_) (fun c_20 => by exfalso; first | omega | contradiction | exact absurd (by assumption) c_20 | (simp_all; done))) | refine g_if_eq (tgt := 46) (p1 := 23) dX10_moreOf_20 rfl rfl (fun c_20 => ?_) (fun c_20 => by exfalso; first | omega | contradiction | exact absurd (by assumption) c_20 | (simp_all; done))
  refine g_iconst (p0 := 47) (v := nI 0) dX10_moreOf_46 rfl rfl ?_
  refine g_ior (p0 := 48) dX10_moreOf_47 rfl ?_
  refine g_istore_n (p0 := 49) (i := 2) (ls2 := [_, _, _]) dX10_moreOf_48 rfl (Nat.le_of_ble_eq_true rfl) rfl rfl ?_
  refine g_aload_n (p0 := 50) (i := 0) dX10_moreOf_49 rfl rfl rfl ?_
  refine g_getR (p0 := 53) dX10_moreOf_50 fX10_40 (by first | rfl | assumption | exact RW.s (by assumption) | exact TW.s (by assumption)) rfl rfl ?_
  refine g_iload_n (p0 := 54) (i := 1) dX10_moreOf_53 rfl rfl rfl ?_
  first | ((with_reducible refine isN1 ?_); refine g_aldN (p0 := 55) dX10_moreOf_54 (by first | rfl | assumption | exact RW.s (by assumption) | exact TW.s (by assumption)) (by first | decide | assumption) (by omega) (by first | assumption | ((repeat (first | exact up_hit | refine up_nv (by decide) ?_ | refine up_mv (by first | decide | omega) ?_)) <;> first | assumption | rfl)) rfl ?_) | refine g_ald (p0 := 55) dX10_moreOf_54 (by first | rfl | assumption | exact RW.s (by assumption) | exact TW.s (by assumption)) (by assumption) (by first | assumption | ((repeat (first | exact up_hit | refine up_nv (by decide) ?_ | refine up_mv (by first | decide | omega) ?_)) <;> first | assumption | rfl)) rfl ?_
  refine g_aload_n (p0 := 56) (i := 0) dX10_moreOf_55 rfl rfl rfl ?_
  refine g_getR (p0 := 59) dX10_moreOf_56 fX10_43 (by first | rfl | assumption | exact RW.s (by assumption) | exact TW.s (by assumption)) rfl rfl ?_
  refine g_iload_n (p0 := 60) (i := 1) dX10_moreOf_59 rfl rfl rfl ?_
  first | ((with_reducible refine isN1 ?_); refine g_aldN (p0 := 61) dX10_moreOf_60 (by first | rfl | assumption | exact RW.s (by assumption) | exact TW.s (by assumption)) (by first | decide | assumption) (by omega) (by first | assumption | ((repeat (first | exact up_hit | refine up_nv (by decide) ?_ | refine up_mv (by first | decide | omega) ?_)) <;> first | assumption | rfl)) rfl ?_) | refine g_ald (p0 := 61) dX10_moreOf_60 (by first | rfl | assumption | exact RW.s (by assumption) | exact TW.s (by assumption)) (by assumption) (by first | assumption | ((repeat (first | exact up_hit | refine up_nv (by decide) ?_ | refine up_mv (by first | decide | omega) ?_)) <;> first | assumption | rfl)) rfl ?_
  refine g_iconst (p0 := 62) (v := nI 1) dX10_moreOf_61 rfl rfl ?_
  first | ((with_reducible refine isN2 ?_); refine g_iaddN (p0 := 63) dX10_moreOf_62 rfl ?_) | refine g_iadd (p0 := 63) dX10_moreOf_62 rfl ?_
  refine g_cS2R (p0 := 66) (r1 := mX10_areGood) dX10_moreOf_63 (Or.inl lX10_134) vX10_areGood (FITi rfl rfl) (Nat.le_of_ble_eq_true rfl) (areGood_T ⟨h2.1, h2.2.1⟩ h2.2.2) rfl ?_
  first | ((with_reducible refine isN1 ?_); refine g_ifN_eq (tgt := 94) (p1 := 69) dX10_moreOf_66 rfl (by omega) rfl (fun c_66 => by exfalso; first | omega | contradiction | exact absurd (by assumption) c_66 | (simp_all; done)) (fun c_66 => ?_)) | refine g_if_eq (tgt := 94) (p1 := 69) dX10_moreOf_66 rfl rfl (fun c_66 => by exfalso; first | omega | contradiction | exact absurd (by assumption) c_66 | (simp_all; done)) (fun c_66 => ?_)
  refine g_iload_n (p0 := 70) (i := 2) dX10_moreOf_69 rfl rfl rfl ?_
  refine g_iconst (p0 := 71) (v := nI 1) dX10_moreOf_70 rfl rfl ?_
  refine g_aload_n (p0 := 72) (i := 0) dX10_moreOf_71 rfl rfl rfl ?_
  refine g_aload_n (p0 := 73) (i := 0) dX10_moreOf_72 rfl rfl rfl ?_
  refine g_getR (p0 := 76) dX10_moreOf_73 fX10_40 (by first | rfl | assumption | exact RW.s (by assumption) | exact TW.s (by assumption)) rfl rfl ?_
  refine g_iload_n (p0 := 77) (i := 1) dX10_moreOf_76 rfl rfl rfl ?_
  first | ((with_reducible refine isN1 ?_); refine g_aldN (p0 := 78) dX10_moreOf_77 (by first | rfl | assumption | exact RW.s (by assumption) | exact TW.s (by assumption)) (by first | decide | assumption) (by omega) (by first | assumption | ((repeat (first | exact up_hit | refine up_nv (by decide) ?_ | refine up_mv (by first | decide | omega) ?_)) <;> first | assumption | rfl)) rfl ?_) | refine g_ald (p0 := 78) dX10_moreOf_77 (by first | rfl | assumption | exact RW.s (by assumption) | exact TW.s (by assumption)) (by assumption) (by first | assumption | ((repeat (first | exact up_hit | refine up_nv (by decide) ?_ | refine up_mv (by first | decide | omega) ?_)) <;> first | assumption | rfl)) rfl ?_
  refine g_aload_n (p0 := 79) (i := 0) dX10_moreOf_78 rfl rfl rfl ?_
  refine g_getR (p0 := 82) dX10_moreOf_79 fX10_43 (by first | rfl | assumption | exact RW.s (by assumption) | exact TW.s (by assumption)) rfl rfl ?_
  refine g_iload_n (p0 := 83) (i := 1) dX10_moreOf_82 rfl rfl rfl ?_
  first | ((with_reducible refine isN1 ?_); refine g_aldN (p0 := 84) dX10_moreOf_83 (by first | rfl | assumption | exact RW.s (by assumption) | exact TW.s (by assumption)) (by first | decide | assumption) (by omega) (by first | assumption | ((repeat (first | exact up_hit | refine up_nv (by decide) ?_ | refine up_mv (by first | decide | omega) ?_)) <;> first | assumption | rfl)) rfl ?_) | refine g_ald (p0 := 84) dX10_moreOf_83 (by first | rfl | assumption | exact RW.s (by assumption) | exact TW.s (by assumption)) (by assumption) (by first | assumption | ((repeat (first | exact up_hit | refine up_nv (by decide) ?_ | refine up_mv (by first | decide | omega) ?_)) <;> first | assumption | rfl)) rfl ?_
  refine g_iconst (p0 := 85) (v := nI 1) dX10_moreOf_84 rfl rfl ?_
  first | ((with_reducible refine isN2 ?_); refine g_iaddN (p0 := 86) dX10_moreOf_85 rfl ?_) | refine g_iadd (p0 := 86) dX10_moreOf_85 rfl ?_
  refine g_cV2R (p0 := 89) (r1 := mX10_letterAt) dX10_moreOf_86 lX10_138 vX10_letterAt (by first | rfl | assumption | exact RW.s (by assumption) | exact TW.s (by assumption)) ⟨_, _, rfl⟩ (FITi rfl rfl) (Nat.le_of_ble_eq_true rfl) (l2) rfl ?_
  refine g_ishl (p0 := 90) dX10_moreOf_89 rfl ?_
  refine g_ior (p0 := 91) dX10_moreOf_90 rfl ?_
  refine g_goto (tgt := 95) dX10_moreOf_91 rfl ?_
  refine g_ireturn dX10_moreOf_95 rfl rfl (?_)
  exact ⟨rfl, rfl⟩
set_option maxRecDepth 20000 in
set_option maxHeartbeats 2000000 in
theorem more_11 {l a b : Nat} {σ : Sg} (hl : l < 160) (ha : σ 90 l = nI a) (hb : σ 91 l = nI b) (ha1 : a < 500) (hb1 : b < 500) (h1 : ¬ GD (a + 1) b) (h2 : ¬ GD a (b + 1))  : CM mX10_moreOf [ar 79, ai (nI l)] σ (Ret (nI 0 ||| nI 0) σ) := by
  refine CM_in (ls := [some (ar 79), some (ai (nI l)), none]) rfl ?_
  refine g_iconst (p0 := 1) (v := nI 0) dX10_moreOf_0 rfl rfl ?_
  refine g_istore_n (p0 := 2) (i := 2) (ls2 := [_, _, _]) dX10_moreOf_1 rfl (Nat.le_of_ble_eq_true rfl) rfl rfl ?_
  refine g_iload_n (p0 := 3) (i := 2) dX10_moreOf_2 rfl rfl rfl ?_
  refine g_aload_n (p0 := 4) (i := 0) dX10_moreOf_3 rfl rfl rfl ?_
  refine g_getR (p0 := 7) dX10_moreOf_4 fX10_40 (by first | rfl | assumption | exact RW.s (by assumption) | exact TW.s (by assumption)) rfl rfl ?_
  refine g_iload_n (p0 := 8) (i := 1) dX10_moreOf_7 rfl rfl rfl ?_
  first | ((with_reducible refine isN1 ?_); refine g_aldN (p0 := 9) dX10_moreOf_8 (by first | rfl | assumption | exact RW.s (by assumption) | exact TW.s (by assumption)) (by first | decide | assumption) (by omega) (by first | assumption | ((repeat (first | exact up_hit | refine up_nv (by decide) ?_ | refine up_mv (by first | decide | omega) ?_)) <;> first | assumption | rfl)) rfl ?_) | refine g_ald (p0 := 9) dX10_moreOf_8 (by first | rfl | assumption | exact RW.s (by assumption) | exact TW.s (by assumption)) (by assumption) (by first | assumption | ((repeat (first | exact up_hit | refine up_nv (by decide) ?_ | refine up_mv (by first | decide | omega) ?_)) <;> first | assumption | rfl)) rfl ?_
  refine g_iconst (p0 := 10) (v := nI 1) dX10_moreOf_9 rfl rfl ?_
  first | ((with_reducible refine isN2 ?_); refine g_iaddN (p0 := 11) dX10_moreOf_10 rfl ?_) | refine g_iadd (p0 := 11) dX10_moreOf_10 rfl ?_
  refine g_aload_n (p0 := 12) (i := 0) dX10_moreOf_11 rfl rfl rfl ?_
  refine g_getR (p0 := 15) dX10_moreOf_12 fX10_43 (by first | rfl | assumption | exact RW.s (by assumption) | exact TW.s (by assumption)) rfl rfl ?_
  refine g_iload_n (p0 := 16) (i := 1) dX10_moreOf_15 rfl rfl rfl ?_
  first | ((with_reducible refine isN1 ?_); refine g_aldN (p0 := 17) dX10_moreOf_16 (by first | rfl | assumption | exact RW.s (by assumption) | exact TW.s (by assumption)) (by first | decide | assumption) (by omega) (by first | assumption | ((repeat (first | exact up_hit | refine up_nv (by decide) ?_ | refine up_mv (by first | decide | omega) ?_)) <;> first | assumption | rfl)) rfl ?_) | refine g_ald (p0 := 17) dX10_moreOf_16 (by first | rfl | assumption | exact RW.s (by assumption) | exact TW.s (by assumption)) (by assumption) (by first | assumption | ((repeat (first | exact up_hit | refine up_nv (by decide) ?_ | refine up_mv (by first | decide | omega) ?_)) <;> first | assumption | rfl)) rfl ?_
  refine g_cS2R (p0 := 20) (r1 := mX10_areGood) dX10_moreOf_17 (Or.inl lX10_134) vX10_areGood (FITi rfl rfl) (Nat.le_of_ble_eq_true rfl) (areGood_F (by omega) (by omega) h1) rfl ?_
  first | ((with_reducible refine isN1 ?_); refine g_ifN_eq (tgt := 46) (p1 := 23) dX10_moreOf_20 rfl (by omega) rfl (fun c_20 => ?_) (fun c_20 => by exfalso; first | omega | contradiction | exact absurd (by assumption) c_20 | (simp_all; done))) | refine g_if_eq (tgt := 46) (p1 := 23) dX10_moreOf_20 rfl rfl (fun c_20 => ?_) (fun c_20 => by exfalso; first | omega | contradiction | exact absurd (by assumption) c_20 | (simp_all; done))
  refine g_iconst (p0 := 47) (v := nI 0) dX10_moreOf_46 rfl rfl ?_
  refine g_ior (p0 := 48) dX10_moreOf_47 rfl ?_
  refine g_istore_n (p0 := 49) (i := 2) (ls2 := [_, _, _]) dX10_moreOf_48 rfl (Nat.le_of_ble_eq_true rfl) rfl rfl ?_
  refine g_aload_n (p0 := 50) (i := 0) dX10_moreOf_49 rfl rfl rfl ?_
  refine g_getR (p0 := 53) dX10_moreOf_50 fX10_40 (by first | rfl | assumption | exact RW.s (by assumption) | exact TW.s (by assumption)) rfl rfl ?_
  refine g_iload_n (p0 := 54) (i := 1) dX10_moreOf_53 rfl rfl rfl ?_
  first | ((with_reducible refine isN1 ?_); refine g_aldN (p0 := 55) dX10_moreOf_54 (by first | rfl | assumption | exact RW.s (by assumption) | exact TW.s (by assumption)) (by first | decide | assumption) (by omega) (by first | assumption | ((repeat (first | exact up_hit | refine up_nv (by decide) ?_ | refine up_mv (by first | decide | omega) ?_)) <;> first | assumption | rfl)) rfl ?_) | refine g_ald (p0 := 55) dX10_moreOf_54 (by first | rfl | assumption | exact RW.s (by assumption) | exact TW.s (by assumption)) (by assumption) (by first | assumption | ((repeat (first | exact up_hit | refine up_nv (by decide) ?_ | refine up_mv (by first | decide | omega) ?_)) <;> first | assumption | rfl)) rfl ?_
  refine g_aload_n (p0 := 56) (i := 0) dX10_moreOf_55 rfl rfl rfl ?_
  refine g_getR (p0 := 59) dX10_moreOf_56 fX10_43 (by first | rfl | assumption | exact RW.s (by assumption) | exact TW.s (by assumption)) rfl rfl ?_
  refine g_iload_n (p0 := 60) (i := 1) dX10_moreOf_59 rfl rfl rfl ?_
  first | ((with_reducible refine isN1 ?_); refine g_aldN (p0 := 61) dX10_moreOf_60 (by first | rfl | assumption | exact RW.s (by assumption) | exact TW.s (by assumption)) (by first | decide | assumption) (by omega) (by first | assumption | ((repeat (first | exact up_hit | refine up_nv (by decide) ?_ | refine up_mv (by first | decide | omega) ?_)) <;> first | assumption | rfl)) rfl ?_) | refine g_ald (p0 := 61) dX10_moreOf_60 (by first | rfl | assumption | exact RW.s (by assumption) | exact TW.s (by assumption)) (by assumption) (by first | assumption | ((repeat (first | exact up_hit | refine up_nv (by decide) ?_ | refine up_mv (by first | decide | omega) ?_)) <;> first | assumption | rfl)) rfl ?_
  refine g_iconst (p0 := 62) (v := nI 1) dX10_moreOf_61 rfl rfl ?_
  first | ((with_reducible refine isN2 ?_); refine g_iaddN (p0 := 63) dX10_moreOf_62 rfl ?_) | refine g_iadd (p0 := 63) dX10_moreOf_62 rfl ?_
  refine g_cS2R (p0 := 66) (r1 := mX10_areGood) dX10_moreOf_63 (Or.inl lX10_134) vX10_areGood (FITi rfl rfl) (Nat.le_of_ble_eq_true rfl) (areGood_F (by omega) (by omega) h2) rfl ?_
  first | ((with_reducible refine isN1 ?_); refine g_ifN_eq (tgt := 94) (p1 := 69) dX10_moreOf_66 rfl (by omega) rfl (fun c_66 => ?_) (fun c_66 => by exfalso; first | omega | contradiction | exact absurd (by assumption) c_66 | (simp_all; done))) | refine g_if_eq (tgt := 94) (p1 := 69) dX10_moreOf_66 rfl rfl (fun c_66 => ?_) (fun c_66 => by exfalso; first | omega | contradiction | exact absurd (by assumption) c_66 | (simp_all; done))
  refine g_iload_n (p0 := 95) (i := 2) dX10_moreOf_94 rfl rfl rfl ?_
  refine g_ireturn dX10_moreOf_95 rfl rfl (?_)
  exact ⟨rfl, rfl⟩
theorem more_sp {σ : Sg} {s M L : Nat} {c fs f n p d g a b : Nat → Nat} {v lc : Nat → Int32} (hP : REF σ s M L c fs f n p d g a b v lc) {l : Nat} (hl : l < L) (ha1 : a l < 500) (hb1 : b l < 500) : CM mX10_moreOf [ar 79, ai (nI l)] σ (Ret (bit (val lc 2 (a l + 1) (b l)) ||| bit (val lc 2 (a l) (b l + 1))) σ) := by
  obtain ⟨⟨q1, q2, q3, q4, q5, q6⟩, hM, hV, hG, _⟩ := hP
  obtain ⟨l1, l2, l3⟩ := hV.1.2 l hl
  have good : ∀ x y, GD x y → CM mX10_letterAt [ar 79, ai (nI x), ai (nI y)] σ (Ret (val lc 2 x y) σ) ∧ bit (val lc 2 x y) = nI 1 <<< (val lc 2 x y &&& 31) := by
    intro x y h
    obtain ⟨e1, e2⟩ := hG (by omega) x y h
    refine ⟨?_, ?_⟩
    · rw [e1]
      exact letterAt_sp ⟨h.1, by have := h.2.1; omega⟩ ⟨h.2.2.1, by have := h.2.2.2; omega⟩
    · rw [bit, if_neg (by rw [e1]; exact nI_ne_m1 (by omega))]
  have bad : ∀ x y, ¬ GD x y → bit (val lc 2 x y) = nI 0 := by
    intro x y h
    rw [bit, if_pos (by rw [val, if_neg (fun q => h q.2)])]
  by_cases h1 : GD (a l + 1) (b l)
  · obtain ⟨g1, g2⟩ := good _ _ h1
    by_cases h2 : GD (a l) (b l + 1)
    · obtain ⟨g3, g4⟩ := good _ _ h2
      have h := more_00 (by omega) l2 l3 ha1 hb1 h1 g1 h2 g3
      rw [← g2, ← g4, i_0or] at h
      exact h
    · have h := more_01 (by omega) l2 l3 ha1 hb1 h1 g1 h2
      rw [← g2, i_0or] at h
      rw [bad _ _ h2, i_or0]
      exact h
  · by_cases h2 : GD (a l) (b l + 1)
    · obtain ⟨g3, g4⟩ := good _ _ h2
      have h := more_10 (by omega) l2 l3 ha1 hb1 h1 h2 g3
      rw [← g4, i_0or] at h
      rw [bad _ _ h1]
      exact h
    · have h := more_11 (by omega) l2 l3 ha1 hb1 h1 h2
      rw [bad _ _ h1, bad _ _ h2]
      exact h
set_option maxRecDepth 20000 in
set_option maxHeartbeats 2000000 in
theorem lo_rF {P : Sg → Prop} {x y z : Int32} {σ : Sg} (hly : CM mX10_lays [ar 79] σ (RelV (fun σ' => P σ' ∧ FRl σ σ'))) (him : ∀ σ', P σ' → CM mX10_isMessage [ar 79, ai x] σ' (Ret (nI 0) σ')) : CM mX10_letterOf [ar 79, ai x, ai y, ai z] σ (RPQ σ (-1000001)) := by
  refine CM_in (ls := [some (ar 79), some (ai x), some (ai y), some (ai z), none]) rfl ?_
  refine g_aload_n (p0 := 1) (i := 0) dX10_letterOf_0 rfl rfl rfl ?_
  refine g_cV0P (p0 := 4) (r1 := mX10_lays) dX10_letterOf_1 lX10_151 vX10_lays (by first | rfl | assumption | exact RW.s (by assumption) | exact TW.s (by assumption)) ⟨_, _, rfl⟩ (FITi rfl rfl) (Nat.le_of_ble_eq_true rfl) (hly) rfl ?_
  rintro σ1 ⟨hP, hf⟩
  refine g_aload_n (p0 := 5) (i := 0) dX10_letterOf_4 rfl rfl rfl ?_
  refine g_iload_n (p0 := 6) (i := 1) dX10_letterOf_5 rfl rfl rfl ?_
  refine g_cV1R (p0 := 9) (r1 := mX10_isMessage) dX10_letterOf_6 lX10_158 vX10_isMessage (by first | rfl | assumption | exact RW.s (by assumption) | exact TW.s (by assumption)) ⟨_, _, rfl⟩ (FITi rfl rfl) (Nat.le_of_ble_eq_true rfl) (him _ hP) rfl ?_
  first | ((with_reducible refine isN1 ?_); refine g_ifN_eq (tgt := 25) (p1 := 12) dX10_letterOf_9 rfl (by omega) rfl (fun c_9 => ?_) (fun c_9 => by exfalso; first | omega | contradiction | exact absurd (by assumption) c_9 | (simp_all; done))) | refine g_if_eq (tgt := 25) (p1 := 12) dX10_letterOf_9 rfl rfl (fun c_9 => ?_) (fun c_9 => by exfalso; first | omega | contradiction | exact absurd (by assumption) c_9 | (simp_all; done))
  refine g_ldc (p0 := 27) dX10_letterOf_25 qX10_76 rfl ?_
  refine g_ireturn dX10_letterOf_27 rfl rfl (?_)
  exact ⟨rfl, hf.fq⟩
set_option maxRecDepth 20000 in
set_option maxHeartbeats 2000000 in
theorem lo_rn {P : Sg → Prop} {m t f n : Nat} {x y : Int32} {σ : Sg} (hly : CM mX10_lays [ar 79] σ (RelV (fun σ' => P σ' ∧ FRl σ σ'))) (him : ∀ σ', P σ' → CM mX10_isMessage [ar 79, ai (nI m)] σ' (Ret (nI 1) σ')) (hlg : ∀ σ', P σ' → CM mX10_longOf [ar 79, ai (nI m)] σ' (Ret (nI n) σ')) (hn : n ≤ 160) (h : y < 0) : CM mX10_letterOf [ar 79, ai (nI m), ai y, ai x] σ (RPQ σ (-1000001)) := by
  refine CM_in (ls := [some (ar 79), some (ai (nI m)), some (ai y), some (ai x), none]) rfl ?_
  refine g_aload_n (p0 := 1) (i := 0) dX10_letterOf_0 rfl rfl rfl ?_
  refine g_cV0P (p0 := 4) (r1 := mX10_lays) dX10_letterOf_1 lX10_151 vX10_lays (by first | rfl | assumption | exact RW.s (by assumption) | exact TW.s (by assumption)) ⟨_, _, rfl⟩ (FITi rfl rfl) (Nat.le_of_ble_eq_true rfl) (hly) rfl ?_
  rintro σ1 ⟨hP, hf⟩
  refine g_aload_n (p0 := 5) (i := 0) dX10_letterOf_4 rfl rfl rfl ?_
  refine g_iload_n (p0 := 6) (i := 1) dX10_letterOf_5 rfl rfl rfl ?_
  refine g_cV1R (p0 := 9) (r1 := mX10_isMessage) dX10_letterOf_6 lX10_158 vX10_isMessage (by first | rfl | assumption | exact RW.s (by assumption) | exact TW.s (by assumption)) ⟨_, _, rfl⟩ (FITi rfl rfl) (Nat.le_of_ble_eq_true rfl) (him _ hP) rfl ?_
  first | ((with_reducible refine isN1 ?_); refine g_ifN_eq (tgt := 25) (p1 := 12) dX10_letterOf_9 rfl (by omega) rfl (fun c_9 => by exfalso; first | omega | contradiction | exact absurd h c_9 | exact h c_9 | exact c_9 h) (fun c_9 => ?_)) | refine g_if_eq (tgt := 25) (p1 := 12) dX10_letterOf_9 rfl rfl (fun c_9 => by exfalso; first | omega | contradiction | exact absurd h c_9 | exact h c_9 | exact c_9 h) (fun c_9 => ?_)
  refine g_iload_n (p0 := 13) (i := 2) dX10_letterOf_12 rfl rfl rfl ?_
  first | ((with_reducible refine isN1 ?_); refine g_ifN_lt (tgt := 25) (p1 := 16) dX10_letterOf_13 rfl (by omega) rfl (fun c_13 => ?_) (fun c_13 => by exfalso; first | omega | contradiction | exact absurd h c_13 | exact h c_13 | exact c_13 h)) | refine g_if_lt (tgt := 25) (p1 := 16) dX10_letterOf_13 rfl rfl (fun c_13 => ?_) (fun c_13 => by exfalso; first | omega | contradiction | exact absurd h c_13 | exact h c_13 | exact c_13 h)
  refine g_ldc (p0 := 27) dX10_letterOf_25 qX10_76 rfl ?_
  refine g_ireturn dX10_letterOf_27 rfl rfl (?_)
  exact ⟨rfl, hf.fq⟩
set_option maxRecDepth 20000 in
set_option maxHeartbeats 2000000 in
theorem lo_rb {P : Sg → Prop} {m t f n : Nat} {x : Int32} {σ : Sg} (hly : CM mX10_lays [ar 79] σ (RelV (fun σ' => P σ' ∧ FRl σ σ'))) (him : ∀ σ', P σ' → CM mX10_isMessage [ar 79, ai (nI m)] σ' (Ret (nI 1) σ')) (hlg : ∀ σ', P σ' → CM mX10_longOf [ar 79, ai (nI m)] σ' (Ret (nI n) σ')) (hn : n ≤ 160) (h : n ≤ t) (ht : t < 2147483648) : CM mX10_letterOf [ar 79, ai (nI m), ai (nI t), ai x] σ (RPQ σ (-1000001)) := by
  refine CM_in (ls := [some (ar 79), some (ai (nI m)), some (ai (nI t)), some (ai x), none]) rfl ?_
  refine g_aload_n (p0 := 1) (i := 0) dX10_letterOf_0 rfl rfl rfl ?_
  refine g_cV0P (p0 := 4) (r1 := mX10_lays) dX10_letterOf_1 lX10_151 vX10_lays (by first | rfl | assumption | exact RW.s (by assumption) | exact TW.s (by assumption)) ⟨_, _, rfl⟩ (FITi rfl rfl) (Nat.le_of_ble_eq_true rfl) (hly) rfl ?_
  rintro σ1 ⟨hP, hf⟩
  refine g_aload_n (p0 := 5) (i := 0) dX10_letterOf_4 rfl rfl rfl ?_
  refine g_iload_n (p0 := 6) (i := 1) dX10_letterOf_5 rfl rfl rfl ?_
  refine g_cV1R (p0 := 9) (r1 := mX10_isMessage) dX10_letterOf_6 lX10_158 vX10_isMessage (by first | rfl | assumption | exact RW.s (by assumption) | exact TW.s (by assumption)) ⟨_, _, rfl⟩ (FITi rfl rfl) (Nat.le_of_ble_eq_true rfl) (him _ hP) rfl ?_
  first | ((with_reducible refine isN1 ?_); refine g_ifN_eq (tgt := 25) (p1 := 12) dX10_letterOf_9 rfl (by omega) rfl (fun c_9 => by exfalso; first | omega | contradiction | exact absurd (by assumption) c_9 | (simp_all; done)) (fun c_9 => ?_)) | refine g_if_eq (tgt := 25) (p1 := 12) dX10_letterOf_9 rfl rfl (fun c_9 => by exfalso; first | omega | contradiction | exact absurd (by assumption) c_9 | (simp_all; done)) (fun c_9 => ?_)
  refine g_iload_n (p0 := 13) (i := 2) dX10_letterOf_12 rfl rfl rfl ?_
  first | ((with_reducible refine isN1 ?_); refine g_ifN_lt (tgt := 25) (p1 := 16) dX10_letterOf_13 rfl (by omega) rfl (fun c_13 => by exfalso; first | omega | contradiction | exact absurd (by assumption) c_13 | (simp_all; done)) (fun c_13 => ?_)) | refine g_if_lt (tgt := 25) (p1 := 16) dX10_letterOf_13 rfl rfl (fun c_13 => by exfalso; first | omega | contradiction | exact absurd (by assumption) c_13 | (simp_all; done)) (fun c_13 => ?_)
  refine g_iload_n (p0 := 17) (i := 2) dX10_letterOf_16 rfl rfl rfl ?_
  refine g_aload_n (p0 := 18) (i := 0) dX10_letterOf_17 rfl rfl rfl ?_
  refine g_iload_n (p0 := 19) (i := 1) dX10_letterOf_18 rfl rfl rfl ?_
  refine g_cV1R (p0 := 22) (r1 := mX10_longOf) dX10_letterOf_19 lX10_142 vX10_longOf (by first | rfl | assumption | exact RW.s (by assumption) | exact TW.s (by assumption)) ⟨_, _, rfl⟩ (FITi rfl rfl) (Nat.le_of_ble_eq_true rfl) (hlg _ hP) rfl ?_
  first | ((with_reducible refine isN2 ?_); refine g_icmpN_lt (tgt := 28) (p1 := 25) dX10_letterOf_22 rfl (by omega) (by omega) rfl (fun c_22 => by exfalso; first | omega | contradiction | exact absurd (by assumption) c_22 | (simp_all; done)) (fun c_22 => ?_)) | refine g_icmp_lt (tgt := 28) (p1 := 25) dX10_letterOf_22 rfl rfl (fun c_22 => by exfalso; first | omega | contradiction | exact absurd (by assumption) c_22 | (simp_all; done)) (fun c_22 => ?_)
  refine g_ldc (p0 := 27) dX10_letterOf_25 qX10_76 rfl ?_
  refine g_ireturn dX10_letterOf_27 rfl rfl (?_)
  exact ⟨rfl, hf.fq⟩
set_option maxRecDepth 20000 in
set_option maxHeartbeats 2000000 in
theorem lo_rx {P : Sg → Prop} {m t f n : Nat} {x : Int32} {σ : Sg} (hly : CM mX10_lays [ar 79] σ (RelV (fun σ' => P σ' ∧ FRl σ σ'))) (him : ∀ σ', P σ' → CM mX10_isMessage [ar 79, ai (nI m)] σ' (Ret (nI 1) σ')) (hlg : ∀ σ', P σ' → CM mX10_longOf [ar 79, ai (nI m)] σ' (Ret (nI n) σ')) (hn : n ≤ 160) (h : t < n) (hm : m < 160) (hff : ∀ σ', P σ' → σ' 92 m = nI f) (hx : x.toInt < 0 ∨ 4 < x.toInt) : CM mX10_letterOf [ar 79, ai (nI m), ai (nI t), ai x] σ (RPQ σ (-1000001)) := by
  refine CM_in (ls := [some (ar 79), some (ai (nI m)), some (ai (nI t)), some (ai x), none]) rfl ?_
  refine g_aload_n (p0 := 1) (i := 0) dX10_letterOf_0 rfl rfl rfl ?_
  refine g_cV0P (p0 := 4) (r1 := mX10_lays) dX10_letterOf_1 lX10_151 vX10_lays (by first | rfl | assumption | exact RW.s (by assumption) | exact TW.s (by assumption)) ⟨_, _, rfl⟩ (FITi rfl rfl) (Nat.le_of_ble_eq_true rfl) (hly) rfl ?_
  rintro σ1 ⟨hP, hf⟩
  have w92 := hff σ1 hP
  refine g_aload_n (p0 := 5) (i := 0) dX10_letterOf_4 rfl rfl rfl ?_
  refine g_iload_n (p0 := 6) (i := 1) dX10_letterOf_5 rfl rfl rfl ?_
  refine g_cV1R (p0 := 9) (r1 := mX10_isMessage) dX10_letterOf_6 lX10_158 vX10_isMessage (by first | rfl | assumption | exact RW.s (by assumption) | exact TW.s (by assumption)) ⟨_, _, rfl⟩ (FITi rfl rfl) (Nat.le_of_ble_eq_true rfl) (him _ hP) rfl ?_
  first | ((with_reducible refine isN1 ?_); refine g_ifN_eq (tgt := 25) (p1 := 12) dX10_letterOf_9 rfl (by omega) rfl (fun c_9 => by exfalso; first | omega | contradiction | exact absurd (by assumption) c_9 | (simp_all; done)) (fun c_9 => ?_)) | refine g_if_eq (tgt := 25) (p1 := 12) dX10_letterOf_9 rfl rfl (fun c_9 => by exfalso; first | omega | contradiction | exact absurd (by assumption) c_9 | (simp_all; done)) (fun c_9 => ?_)
  refine g_iload_n (p0 := 13) (i := 2) dX10_letterOf_12 rfl rfl rfl ?_
  first | ((with_reducible refine isN1 ?_); refine g_ifN_lt (tgt := 25) (p1 := 16) dX10_letterOf_13 rfl (by omega) rfl (fun c_13 => by exfalso; first | omega | contradiction | exact absurd (by assumption) c_13 | (simp_all; done)) (fun c_13 => ?_)) | refine g_if_lt (tgt := 25) (p1 := 16) dX10_letterOf_13 rfl rfl (fun c_13 => by exfalso; first | omega | contradiction | exact absurd (by assumption) c_13 | (simp_all; done)) (fun c_13 => ?_)
  refine g_iload_n (p0 := 17) (i := 2) dX10_letterOf_16 rfl rfl rfl ?_
  refine g_aload_n (p0 := 18) (i := 0) dX10_letterOf_17 rfl rfl rfl ?_
  refine g_iload_n (p0 := 19) (i := 1) dX10_letterOf_18 rfl rfl rfl ?_
  refine g_cV1R (p0 := 22) (r1 := mX10_longOf) dX10_letterOf_19 lX10_142 vX10_longOf (by first | rfl | assumption | exact RW.s (by assumption) | exact TW.s (by assumption)) ⟨_, _, rfl⟩ (FITi rfl rfl) (Nat.le_of_ble_eq_true rfl) (hlg _ hP) rfl ?_
  first | ((with_reducible refine isN2 ?_); refine g_icmpN_lt (tgt := 28) (p1 := 25) dX10_letterOf_22 rfl (by omega) (by omega) rfl (fun c_22 => ?_) (fun c_22 => by exfalso; first | omega | contradiction | exact absurd (by assumption) c_22 | (simp_all; done))) | refine g_icmp_lt (tgt := 28) (p1 := 25) dX10_letterOf_22 rfl rfl (fun c_22 => ?_) (fun c_22 => by exfalso; first | omega | contradiction | exact absurd (by assumption) c_22 | (simp_all; done))
  refine g_aload_n (p0 := 29) (i := 0) dX10_letterOf_28 rfl rfl rfl ?_
  refine g_getR (p0 := 32) dX10_letterOf_29 fX10_46 (by first | rfl | assumption | exact RW.s (by assumption) | exact TW.s (by assumption)) rfl rfl ?_
  refine g_iload_n (p0 := 33) (i := 1) dX10_letterOf_32 rfl rfl rfl ?_
  first | ((with_reducible refine isN1 ?_); refine g_aldN (p0 := 34) dX10_letterOf_33 (by first | rfl | assumption | exact RW.s (by assumption) | exact TW.s (by assumption)) (by first | decide | assumption) (by omega) (by first | assumption | ((repeat (first | exact up_hit | refine up_nv (by decide) ?_ | refine up_mv (by first | decide | omega) ?_)) <;> first | assumption | rfl)) rfl ?_) | refine g_ald (p0 := 34) dX10_letterOf_33 (by first | rfl | assumption | exact RW.s (by assumption) | exact TW.s (by assumption)) (by assumption) (by first | assumption | ((repeat (first | exact up_hit | refine up_nv (by decide) ?_ | refine up_mv (by first | decide | omega) ?_)) <;> first | assumption | rfl)) rfl ?_
  refine g_iload_n (p0 := 35) (i := 2) dX10_letterOf_34 rfl rfl rfl ?_
  first | ((with_reducible refine isN2 ?_); refine g_iaddN (p0 := 36) dX10_letterOf_35 rfl ?_) | refine g_iadd (p0 := 36) dX10_letterOf_35 rfl ?_
  refine g_istore (p0 := 38) (i := 4) (ls2 := [_, _, _, _, _]) dX10_letterOf_36 (Nat.le_of_ble_eq_true rfl) rfl rfl ?_
  refine g_iload_n (p0 := 39) (i := 3) dX10_letterOf_38 rfl rfl rfl ?_
  refine g_tabOut (tgt := 156) dX10_letterOf_39 (by omega) rfl ?_
  refine g_ldc (p0 := 158) dX10_letterOf_156 qX10_76 rfl ?_
  refine g_ireturn dX10_letterOf_158 rfl rfl (?_)
  exact ⟨rfl, hf.fq⟩
set_option maxRecDepth 20000 in
set_option maxHeartbeats 2000000 in
theorem lo_r0z {P : Sg → Prop} {m t f n : Nat}  {σ : Sg} (hly : CM mX10_lays [ar 79] σ (RelV (fun σ' => P σ' ∧ FRl σ σ'))) (him : ∀ σ', P σ' → CM mX10_isMessage [ar 79, ai (nI m)] σ' (Ret (nI 1) σ')) (hlg : ∀ σ', P σ' → CM mX10_longOf [ar 79, ai (nI m)] σ' (Ret (nI n) σ')) (hn : n ≤ 160) (h : t < n) (hm : m < 160) (hff : ∀ σ', P σ' → σ' 92 m = nI f) (hv : ∀ σ', P σ' → CM mX10_isReadable [ar 79, ai (nI (f + t))] σ' (Ret (nI 0) σ')) : CM mX10_letterOf [ar 79, ai (nI m), ai (nI t), ai (nI 0)] σ (RPQ σ (-1000004)) := by
  refine CM_in (ls := [some (ar 79), some (ai (nI m)), some (ai (nI t)), some (ai (nI 0)), none]) rfl ?_
  refine g_aload_n (p0 := 1) (i := 0) dX10_letterOf_0 rfl rfl rfl ?_
  refine g_cV0P (p0 := 4) (r1 := mX10_lays) dX10_letterOf_1 lX10_151 vX10_lays (by first | rfl | assumption | exact RW.s (by assumption) | exact TW.s (by assumption)) ⟨_, _, rfl⟩ (FITi rfl rfl) (Nat.le_of_ble_eq_true rfl) (hly) rfl ?_
  rintro σ1 ⟨hP, hf⟩
  have w92 := hff σ1 hP
  refine g_aload_n (p0 := 5) (i := 0) dX10_letterOf_4 rfl rfl rfl ?_
  refine g_iload_n (p0 := 6) (i := 1) dX10_letterOf_5 rfl rfl rfl ?_
  refine g_cV1R (p0 := 9) (r1 := mX10_isMessage) dX10_letterOf_6 lX10_158 vX10_isMessage (by first | rfl | assumption | exact RW.s (by assumption) | exact TW.s (by assumption)) ⟨_, _, rfl⟩ (FITi rfl rfl) (Nat.le_of_ble_eq_true rfl) (him _ hP) rfl ?_
  first | ((with_reducible refine isN1 ?_); refine g_ifN_eq (tgt := 25) (p1 := 12) dX10_letterOf_9 rfl (by omega) rfl (fun c_9 => by exfalso; first | omega | contradiction | exact absurd (by assumption) c_9 | (simp_all; done)) (fun c_9 => ?_)) | refine g_if_eq (tgt := 25) (p1 := 12) dX10_letterOf_9 rfl rfl (fun c_9 => by exfalso; first | omega | contradiction | exact absurd (by assumption) c_9 | (simp_all; done)) (fun c_9 => ?_)
  refine g_iload_n (p0 := 13) (i := 2) dX10_letterOf_12 rfl rfl rfl ?_
  first | ((with_reducible refine isN1 ?_); refine g_ifN_lt (tgt := 25) (p1 := 16) dX10_letterOf_13 rfl (by omega) rfl (fun c_13 => by exfalso; first | omega | contradiction | exact absurd (by assumption) c_13 | (simp_all; done)) (fun c_13 => ?_)) | refine g_if_lt (tgt := 25) (p1 := 16) dX10_letterOf_13 rfl rfl (fun c_13 => by exfalso; first | omega | contradiction | exact absurd (by assumption) c_13 | (simp_all; done)) (fun c_13 => ?_)
  refine g_iload_n (p0 := 17) (i := 2) dX10_letterOf_16 rfl rfl rfl ?_
  refine g_aload_n (p0 := 18) (i := 0) dX10_letterOf_17 rfl rfl rfl ?_
  refine g_iload_n (p0 := 19) (i := 1) dX10_letterOf_18 rfl rfl rfl ?_
  refine g_cV1R (p0 := 22) (r1 := mX10_longOf) dX10_letterOf_19 lX10_142 vX10_longOf (by first | rfl | assumption | exact RW.s (by assumption) | exact TW.s (by assumption)) ⟨_, _, rfl⟩ (FITi rfl rfl) (Nat.le_of_ble_eq_true rfl) (hlg _ hP) rfl ?_
  first | ((with_reducible refine isN2 ?_); refine g_icmpN_lt (tgt := 28) (p1 := 25) dX10_letterOf_22 rfl (by omega) (by omega) rfl (fun c_22 => ?_) (fun c_22 => by exfalso; first | omega | contradiction | exact absurd (by assumption) c_22 | (simp_all; done))) | refine g_icmp_lt (tgt := 28) (p1 := 25) dX10_letterOf_22 rfl rfl (fun c_22 => ?_) (fun c_22 => by exfalso; first | omega | contradiction | exact absurd (by assumption) c_22 | (simp_all; done))
  refine g_aload_n (p0 := 29) (i := 0) dX10_letterOf_28 rfl rfl rfl ?_
  refine g_getR (p0 := 32) dX10_letterOf_29 fX10_46 (by first | rfl | assumption | exact RW.s (by assumption) | exact TW.s (by assumption)) rfl rfl ?_
  refine g_iload_n (p0 := 33) (i := 1) dX10_letterOf_32 rfl rfl rfl ?_
  first | ((with_reducible refine isN1 ?_); refine g_aldN (p0 := 34) dX10_letterOf_33 (by first | rfl | assumption | exact RW.s (by assumption) | exact TW.s (by assumption)) (by first | decide | assumption) (by omega) (by first | assumption | ((repeat (first | exact up_hit | refine up_nv (by decide) ?_ | refine up_mv (by first | decide | omega) ?_)) <;> first | assumption | rfl)) rfl ?_) | refine g_ald (p0 := 34) dX10_letterOf_33 (by first | rfl | assumption | exact RW.s (by assumption) | exact TW.s (by assumption)) (by assumption) (by first | assumption | ((repeat (first | exact up_hit | refine up_nv (by decide) ?_ | refine up_mv (by first | decide | omega) ?_)) <;> first | assumption | rfl)) rfl ?_
  refine g_iload_n (p0 := 35) (i := 2) dX10_letterOf_34 rfl rfl rfl ?_
  first | ((with_reducible refine isN2 ?_); refine g_iaddN (p0 := 36) dX10_letterOf_35 rfl ?_) | refine g_iadd (p0 := 36) dX10_letterOf_35 rfl ?_
  refine g_istore (p0 := 38) (i := 4) (ls2 := [_, _, _, _, _]) dX10_letterOf_36 (Nat.le_of_ble_eq_true rfl) rfl rfl ?_
  refine g_iload_n (p0 := 39) (i := 3) dX10_letterOf_38 rfl rfl rfl ?_
  refine g_tabIn (tgt := 72) (off := 33) dX10_letterOf_39 (by decide) (by decide) (by decide +kernel) rfl ?_
  refine g_aload_n (p0 := 73) (i := 0) dX10_letterOf_72 rfl rfl rfl ?_
  refine g_iload (p0 := 75) dX10_letterOf_73 rfl rfl ?_
  refine g_cV1R (p0 := 78) (r1 := mX10_isReadable) dX10_letterOf_75 lX10_145 vX10_isReadable (by first | rfl | assumption | exact RW.s (by assumption) | exact TW.s (by assumption)) ⟨_, _, rfl⟩ (FITi rfl rfl) (Nat.le_of_ble_eq_true rfl) (hv _ hP) rfl ?_
  first | ((with_reducible refine isN1 ?_); refine g_ifN_eq (tgt := 90) (p1 := 81) dX10_letterOf_78 rfl (by omega) rfl (fun c_78 => ?_) (fun c_78 => by exfalso; first | omega | contradiction | exact absurd (by assumption) c_78 | (simp_all; done))) | refine g_if_eq (tgt := 90) (p1 := 81) dX10_letterOf_78 rfl rfl (fun c_78 => ?_) (fun c_78 => by exfalso; first | omega | contradiction | exact absurd (by assumption) c_78 | (simp_all; done))
  refine g_ldc (p0 := 92) dX10_letterOf_90 qX10_154 rfl ?_
  refine g_ireturn dX10_letterOf_92 rfl rfl (?_)
  exact ⟨rfl, hf.fq⟩
set_option maxRecDepth 20000 in
set_option maxHeartbeats 2000000 in
theorem lo_r0 {P : Sg → Prop} {m t f n : Nat} {v : Int32} {σ : Sg} (hly : CM mX10_lays [ar 79] σ (RelV (fun σ' => P σ' ∧ FRl σ σ'))) (him : ∀ σ', P σ' → CM mX10_isMessage [ar 79, ai (nI m)] σ' (Ret (nI 1) σ')) (hlg : ∀ σ', P σ' → CM mX10_longOf [ar 79, ai (nI m)] σ' (Ret (nI n) σ')) (hn : n ≤ 160) (h : t < n) (hm : m < 160) (hff : ∀ σ', P σ' → σ' 92 m = nI f) (hv : ∀ σ', P σ' → CM mX10_isReadable [ar 79, ai (nI (f + t))] σ' (Ret (nI 1) σ') ∧ CM mX10_read0 [ar 79, ai (nI (f + t))] σ' (Ret v σ')) : CM mX10_letterOf [ar 79, ai (nI m), ai (nI t), ai (nI 0)] σ (RPQ σ v) := by
  refine CM_in (ls := [some (ar 79), some (ai (nI m)), some (ai (nI t)), some (ai (nI 0)), none]) rfl ?_
  refine g_aload_n (p0 := 1) (i := 0) dX10_letterOf_0 rfl rfl rfl ?_
  refine g_cV0P (p0 := 4) (r1 := mX10_lays) dX10_letterOf_1 lX10_151 vX10_lays (by first | rfl | assumption | exact RW.s (by assumption) | exact TW.s (by assumption)) ⟨_, _, rfl⟩ (FITi rfl rfl) (Nat.le_of_ble_eq_true rfl) (hly) rfl ?_
  rintro σ1 ⟨hP, hf⟩
  have w92 := hff σ1 hP
  refine g_aload_n (p0 := 5) (i := 0) dX10_letterOf_4 rfl rfl rfl ?_
  refine g_iload_n (p0 := 6) (i := 1) dX10_letterOf_5 rfl rfl rfl ?_
  refine g_cV1R (p0 := 9) (r1 := mX10_isMessage) dX10_letterOf_6 lX10_158 vX10_isMessage (by first | rfl | assumption | exact RW.s (by assumption) | exact TW.s (by assumption)) ⟨_, _, rfl⟩ (FITi rfl rfl) (Nat.le_of_ble_eq_true rfl) (him _ hP) rfl ?_
  first | ((with_reducible refine isN1 ?_); refine g_ifN_eq (tgt := 25) (p1 := 12) dX10_letterOf_9 rfl (by omega) rfl (fun c_9 => by exfalso; first | omega | contradiction | exact absurd (by assumption) c_9 | (simp_all; done)) (fun c_9 => ?_)) | refine g_if_eq (tgt := 25) (p1 := 12) dX10_letterOf_9 rfl rfl (fun c_9 => by exfalso; first | omega | contradiction | exact absurd (by assumption) c_9 | (simp_all; done)) (fun c_9 => ?_)
  refine g_iload_n (p0 := 13) (i := 2) dX10_letterOf_12 rfl rfl rfl ?_
  first | ((with_reducible refine isN1 ?_); refine g_ifN_lt (tgt := 25) (p1 := 16) dX10_letterOf_13 rfl (by omega) rfl (fun c_13 => by exfalso; first | omega | contradiction | exact absurd (by assumption) c_13 | (simp_all; done)) (fun c_13 => ?_)) | refine g_if_lt (tgt := 25) (p1 := 16) dX10_letterOf_13 rfl rfl (fun c_13 => by exfalso; first | omega | contradiction | exact absurd (by assumption) c_13 | (simp_all; done)) (fun c_13 => ?_)
  refine g_iload_n (p0 := 17) (i := 2) dX10_letterOf_16 rfl rfl rfl ?_
  refine g_aload_n (p0 := 18) (i := 0) dX10_letterOf_17 rfl rfl rfl ?_
  refine g_iload_n (p0 := 19) (i := 1) dX10_letterOf_18 rfl rfl rfl ?_
  refine g_cV1R (p0 := 22) (r1 := mX10_longOf) dX10_letterOf_19 lX10_142 vX10_longOf (by first | rfl | assumption | exact RW.s (by assumption) | exact TW.s (by assumption)) ⟨_, _, rfl⟩ (FITi rfl rfl) (Nat.le_of_ble_eq_true rfl) (hlg _ hP) rfl ?_
  first | ((with_reducible refine isN2 ?_); refine g_icmpN_lt (tgt := 28) (p1 := 25) dX10_letterOf_22 rfl (by omega) (by omega) rfl (fun c_22 => ?_) (fun c_22 => by exfalso; first | omega | contradiction | exact absurd (by assumption) c_22 | (simp_all; done))) | refine g_icmp_lt (tgt := 28) (p1 := 25) dX10_letterOf_22 rfl rfl (fun c_22 => ?_) (fun c_22 => by exfalso; first | omega | contradiction | exact absurd (by assumption) c_22 | (simp_all; done))
  refine g_aload_n (p0 := 29) (i := 0) dX10_letterOf_28 rfl rfl rfl ?_
  refine g_getR (p0 := 32) dX10_letterOf_29 fX10_46 (by first | rfl | assumption | exact RW.s (by assumption) | exact TW.s (by assumption)) rfl rfl ?_
  refine g_iload_n (p0 := 33) (i := 1) dX10_letterOf_32 rfl rfl rfl ?_
  first | ((with_reducible refine isN1 ?_); refine g_aldN (p0 := 34) dX10_letterOf_33 (by first | rfl | assumption | exact RW.s (by assumption) | exact TW.s (by assumption)) (by first | decide | assumption) (by omega) (by first | assumption | ((repeat (first | exact up_hit | refine up_nv (by decide) ?_ | refine up_mv (by first | decide | omega) ?_)) <;> first | assumption | rfl)) rfl ?_) | refine g_ald (p0 := 34) dX10_letterOf_33 (by first | rfl | assumption | exact RW.s (by assumption) | exact TW.s (by assumption)) (by assumption) (by first | assumption | ((repeat (first | exact up_hit | refine up_nv (by decide) ?_ | refine up_mv (by first | decide | omega) ?_)) <;> first | assumption | rfl)) rfl ?_
  refine g_iload_n (p0 := 35) (i := 2) dX10_letterOf_34 rfl rfl rfl ?_
  first | ((with_reducible refine isN2 ?_); refine g_iaddN (p0 := 36) dX10_letterOf_35 rfl ?_) | refine g_iadd (p0 := 36) dX10_letterOf_35 rfl ?_
  refine g_istore (p0 := 38) (i := 4) (ls2 := [_, _, _, _, _]) dX10_letterOf_36 (Nat.le_of_ble_eq_true rfl) rfl rfl ?_
  refine g_iload_n (p0 := 39) (i := 3) dX10_letterOf_38 rfl rfl rfl ?_
  refine g_tabIn (tgt := 72) (off := 33) dX10_letterOf_39 (by decide) (by decide) (by decide +kernel) rfl ?_
  refine g_aload_n (p0 := 73) (i := 0) dX10_letterOf_72 rfl rfl rfl ?_
  refine g_iload (p0 := 75) dX10_letterOf_73 rfl rfl ?_
  refine g_cV1R (p0 := 78) (r1 := mX10_isReadable) dX10_letterOf_75 lX10_145 vX10_isReadable (by first | rfl | assumption | exact RW.s (by assumption) | exact TW.s (by assumption)) ⟨_, _, rfl⟩ (FITi rfl rfl) (Nat.le_of_ble_eq_true rfl) ((hv _ hP).1) rfl ?_
  first | ((with_reducible refine isN1 ?_); refine g_ifN_eq (tgt := 90) (p1 := 81) dX10_letterOf_78 rfl (by omega) rfl (fun c_78 => by exfalso; first | omega | contradiction | exact absurd (by assumption) c_78 | (simp_all; done)) (fun c_78 => ?_)) | refine g_if_eq (tgt := 90) (p1 := 81) dX10_letterOf_78 rfl rfl (fun c_78 => by exfalso; first | omega | contradiction | exact absurd (by assumption) c_78 | (simp_all; done)) (fun c_78 => ?_)
  refine g_aload_n (p0 := 82) (i := 0) dX10_letterOf_81 rfl rfl rfl ?_
  refine g_iload (p0 := 84) dX10_letterOf_82 rfl rfl ?_
  refine g_cV1R (p0 := 87) (r1 := mX10_read0) dX10_letterOf_84 lX10_148 vX10_read0 (by first | rfl | assumption | exact RW.s (by assumption) | exact TW.s (by assumption)) ⟨_, _, rfl⟩ (FITi rfl rfl) (Nat.le_of_ble_eq_true rfl) ((hv _ hP).2) rfl ?_
  refine g_goto (tgt := 92) dX10_letterOf_87 rfl ?_
  refine g_ireturn dX10_letterOf_92 rfl rfl (?_)
  exact ⟨rfl, hf.fq⟩
set_option maxRecDepth 20000 in
set_option maxHeartbeats 2000000 in
theorem lo_r1 {P : Sg → Prop} {m t f n : Nat} {v : Int32} {σ : Sg} (hly : CM mX10_lays [ar 79] σ (RelV (fun σ' => P σ' ∧ FRl σ σ'))) (him : ∀ σ', P σ' → CM mX10_isMessage [ar 79, ai (nI m)] σ' (Ret (nI 1) σ')) (hlg : ∀ σ', P σ' → CM mX10_longOf [ar 79, ai (nI m)] σ' (Ret (nI n) σ')) (hn : n ≤ 160) (h : t < n) (hm : m < 160) (hff : ∀ σ', P σ' → σ' 92 m = nI f) (hb : f + t < 160) (hv : ∀ σ', P σ' → σ' 89 (f + t) = v) : CM mX10_letterOf [ar 79, ai (nI m), ai (nI t), ai (nI 1)] σ (RPQ σ v) := by
  refine CM_in (ls := [some (ar 79), some (ai (nI m)), some (ai (nI t)), some (ai (nI 1)), none]) rfl ?_
  refine g_aload_n (p0 := 1) (i := 0) dX10_letterOf_0 rfl rfl rfl ?_
  refine g_cV0P (p0 := 4) (r1 := mX10_lays) dX10_letterOf_1 lX10_151 vX10_lays (by first | rfl | assumption | exact RW.s (by assumption) | exact TW.s (by assumption)) ⟨_, _, rfl⟩ (FITi rfl rfl) (Nat.le_of_ble_eq_true rfl) (hly) rfl ?_
  rintro σ1 ⟨hP, hf⟩
  have w92 := hff σ1 hP
  have w := hv σ1 hP
  refine g_aload_n (p0 := 5) (i := 0) dX10_letterOf_4 rfl rfl rfl ?_
  refine g_iload_n (p0 := 6) (i := 1) dX10_letterOf_5 rfl rfl rfl ?_
  refine g_cV1R (p0 := 9) (r1 := mX10_isMessage) dX10_letterOf_6 lX10_158 vX10_isMessage (by first | rfl | assumption | exact RW.s (by assumption) | exact TW.s (by assumption)) ⟨_, _, rfl⟩ (FITi rfl rfl) (Nat.le_of_ble_eq_true rfl) (him _ hP) rfl ?_
  first | ((with_reducible refine isN1 ?_); refine g_ifN_eq (tgt := 25) (p1 := 12) dX10_letterOf_9 rfl (by omega) rfl (fun c_9 => by exfalso; first | omega | contradiction | exact absurd (by assumption) c_9 | (simp_all; done)) (fun c_9 => ?_)) | refine g_if_eq (tgt := 25) (p1 := 12) dX10_letterOf_9 rfl rfl (fun c_9 => by exfalso; first | omega | contradiction | exact absurd (by assumption) c_9 | (simp_all; done)) (fun c_9 => ?_)
  refine g_iload_n (p0 := 13) (i := 2) dX10_letterOf_12 rfl rfl rfl ?_
  first | ((with_reducible refine isN1 ?_); refine g_ifN_lt (tgt := 25) (p1 := 16) dX10_letterOf_13 rfl (by omega) rfl (fun c_13 => by exfalso; first | omega | contradiction | exact absurd (by assumption) c_13 | (simp_all; done)) (fun c_13 => ?_)) | refine g_if_lt (tgt := 25) (p1 := 16) dX10_letterOf_13 rfl rfl (fun c_13 => by exfalso; first | omega | contradiction | exact absurd (by assumption) c_13 | (simp_all; done)) (fun c_13 => ?_)
  refine g_iload_n (p0 := 17) (i := 2) dX10_letterOf_16 rfl rfl rfl ?_
  refine g_aload_n (p0 := 18) (i := 0) dX10_letterOf_17 rfl rfl rfl ?_
  refine g_iload_n (p0 := 19) (i := 1) dX10_letterOf_18 rfl rfl rfl ?_
  refine g_cV1R (p0 := 22) (r1 := mX10_longOf) dX10_letterOf_19 lX10_142 vX10_longOf (by first | rfl | assumption | exact RW.s (by assumption) | exact TW.s (by assumption)) ⟨_, _, rfl⟩ (FITi rfl rfl) (Nat.le_of_ble_eq_true rfl) (hlg _ hP) rfl ?_
  first | ((with_reducible refine isN2 ?_); refine g_icmpN_lt (tgt := 28) (p1 := 25) dX10_letterOf_22 rfl (by omega) (by omega) rfl (fun c_22 => ?_) (fun c_22 => by exfalso; first | omega | contradiction | exact absurd (by assumption) c_22 | (simp_all; done))) | refine g_icmp_lt (tgt := 28) (p1 := 25) dX10_letterOf_22 rfl rfl (fun c_22 => ?_) (fun c_22 => by exfalso; first | omega | contradiction | exact absurd (by assumption) c_22 | (simp_all; done))
  refine g_aload_n (p0 := 29) (i := 0) dX10_letterOf_28 rfl rfl rfl ?_
  refine g_getR (p0 := 32) dX10_letterOf_29 fX10_46 (by first | rfl | assumption | exact RW.s (by assumption) | exact TW.s (by assumption)) rfl rfl ?_
  refine g_iload_n (p0 := 33) (i := 1) dX10_letterOf_32 rfl rfl rfl ?_
  first | ((with_reducible refine isN1 ?_); refine g_aldN (p0 := 34) dX10_letterOf_33 (by first | rfl | assumption | exact RW.s (by assumption) | exact TW.s (by assumption)) (by first | decide | assumption) (by omega) (by first | assumption | ((repeat (first | exact up_hit | refine up_nv (by decide) ?_ | refine up_mv (by first | decide | omega) ?_)) <;> first | assumption | rfl)) rfl ?_) | refine g_ald (p0 := 34) dX10_letterOf_33 (by first | rfl | assumption | exact RW.s (by assumption) | exact TW.s (by assumption)) (by assumption) (by first | assumption | ((repeat (first | exact up_hit | refine up_nv (by decide) ?_ | refine up_mv (by first | decide | omega) ?_)) <;> first | assumption | rfl)) rfl ?_
  refine g_iload_n (p0 := 35) (i := 2) dX10_letterOf_34 rfl rfl rfl ?_
  first | ((with_reducible refine isN2 ?_); refine g_iaddN (p0 := 36) dX10_letterOf_35 rfl ?_) | refine g_iadd (p0 := 36) dX10_letterOf_35 rfl ?_
  refine g_istore (p0 := 38) (i := 4) (ls2 := [_, _, _, _, _]) dX10_letterOf_36 (Nat.le_of_ble_eq_true rfl) rfl rfl ?_
  refine g_iload_n (p0 := 39) (i := 3) dX10_letterOf_38 rfl rfl rfl ?_
  refine g_tabIn (tgt := 93) (off := 54) dX10_letterOf_39 (by decide) (by decide) (by decide +kernel) rfl ?_
  refine g_aload_n (p0 := 94) (i := 0) dX10_letterOf_93 rfl rfl rfl ?_
  refine g_getR (p0 := 97) dX10_letterOf_94 fX10_37 (by first | rfl | assumption | exact RW.s (by assumption) | exact TW.s (by assumption)) rfl rfl ?_
  refine g_iload (p0 := 99) dX10_letterOf_97 rfl rfl ?_
  first | ((with_reducible refine isN1 ?_); refine g_aldN (p0 := 100) dX10_letterOf_99 (by first | rfl | assumption | exact RW.s (by assumption) | exact TW.s (by assumption)) (by first | decide | assumption) (by omega) (by first | assumption | ((repeat (first | exact up_hit | refine up_nv (by decide) ?_ | refine up_mv (by first | decide | omega) ?_)) <;> first | assumption | rfl)) rfl ?_) | refine g_ald (p0 := 100) dX10_letterOf_99 (by first | rfl | assumption | exact RW.s (by assumption) | exact TW.s (by assumption)) (by assumption) (by first | assumption | ((repeat (first | exact up_hit | refine up_nv (by decide) ?_ | refine up_mv (by first | decide | omega) ?_)) <;> first | assumption | rfl)) rfl ?_
  refine g_ireturn dX10_letterOf_100 rfl rfl (?_)
  exact ⟨rfl, hf.fq⟩
set_option maxRecDepth 20000 in
set_option maxHeartbeats 2000000 in
theorem lo_r2 {P : Sg → Prop} {m t f n : Nat} {v : Int32} {σ : Sg} (hly : CM mX10_lays [ar 79] σ (RelV (fun σ' => P σ' ∧ FRl σ σ'))) (him : ∀ σ', P σ' → CM mX10_isMessage [ar 79, ai (nI m)] σ' (Ret (nI 1) σ')) (hlg : ∀ σ', P σ' → CM mX10_longOf [ar 79, ai (nI m)] σ' (Ret (nI n) σ')) (hn : n ≤ 160) (h : t < n) (hm : m < 160) (hff : ∀ σ', P σ' → σ' 92 m = nI f) (hb : f + t < 160) (hv : ∀ σ', P σ' → σ' 90 (f + t) = v) : CM mX10_letterOf [ar 79, ai (nI m), ai (nI t), ai (nI 2)] σ (RPQ σ v) := by
  refine CM_in (ls := [some (ar 79), some (ai (nI m)), some (ai (nI t)), some (ai (nI 2)), none]) rfl ?_
  refine g_aload_n (p0 := 1) (i := 0) dX10_letterOf_0 rfl rfl rfl ?_
  refine g_cV0P (p0 := 4) (r1 := mX10_lays) dX10_letterOf_1 lX10_151 vX10_lays (by first | rfl | assumption | exact RW.s (by assumption) | exact TW.s (by assumption)) ⟨_, _, rfl⟩ (FITi rfl rfl) (Nat.le_of_ble_eq_true rfl) (hly) rfl ?_
  rintro σ1 ⟨hP, hf⟩
  have w92 := hff σ1 hP
  have w := hv σ1 hP
  refine g_aload_n (p0 := 5) (i := 0) dX10_letterOf_4 rfl rfl rfl ?_
  refine g_iload_n (p0 := 6) (i := 1) dX10_letterOf_5 rfl rfl rfl ?_
  refine g_cV1R (p0 := 9) (r1 := mX10_isMessage) dX10_letterOf_6 lX10_158 vX10_isMessage (by first | rfl | assumption | exact RW.s (by assumption) | exact TW.s (by assumption)) ⟨_, _, rfl⟩ (FITi rfl rfl) (Nat.le_of_ble_eq_true rfl) (him _ hP) rfl ?_
  first | ((with_reducible refine isN1 ?_); refine g_ifN_eq (tgt := 25) (p1 := 12) dX10_letterOf_9 rfl (by omega) rfl (fun c_9 => by exfalso; first | omega | contradiction | exact absurd (by assumption) c_9 | (simp_all; done)) (fun c_9 => ?_)) | refine g_if_eq (tgt := 25) (p1 := 12) dX10_letterOf_9 rfl rfl (fun c_9 => by exfalso; first | omega | contradiction | exact absurd (by assumption) c_9 | (simp_all; done)) (fun c_9 => ?_)
  refine g_iload_n (p0 := 13) (i := 2) dX10_letterOf_12 rfl rfl rfl ?_
  first | ((with_reducible refine isN1 ?_); refine g_ifN_lt (tgt := 25) (p1 := 16) dX10_letterOf_13 rfl (by omega) rfl (fun c_13 => by exfalso; first | omega | contradiction | exact absurd (by assumption) c_13 | (simp_all; done)) (fun c_13 => ?_)) | refine g_if_lt (tgt := 25) (p1 := 16) dX10_letterOf_13 rfl rfl (fun c_13 => by exfalso; first | omega | contradiction | exact absurd (by assumption) c_13 | (simp_all; done)) (fun c_13 => ?_)
  refine g_iload_n (p0 := 17) (i := 2) dX10_letterOf_16 rfl rfl rfl ?_
  refine g_aload_n (p0 := 18) (i := 0) dX10_letterOf_17 rfl rfl rfl ?_
  refine g_iload_n (p0 := 19) (i := 1) dX10_letterOf_18 rfl rfl rfl ?_
  refine g_cV1R (p0 := 22) (r1 := mX10_longOf) dX10_letterOf_19 lX10_142 vX10_longOf (by first | rfl | assumption | exact RW.s (by assumption) | exact TW.s (by assumption)) ⟨_, _, rfl⟩ (FITi rfl rfl) (Nat.le_of_ble_eq_true rfl) (hlg _ hP) rfl ?_
  first | ((with_reducible refine isN2 ?_); refine g_icmpN_lt (tgt := 28) (p1 := 25) dX10_letterOf_22 rfl (by omega) (by omega) rfl (fun c_22 => ?_) (fun c_22 => by exfalso; first | omega | contradiction | exact absurd (by assumption) c_22 | (simp_all; done))) | refine g_icmp_lt (tgt := 28) (p1 := 25) dX10_letterOf_22 rfl rfl (fun c_22 => ?_) (fun c_22 => by exfalso; first | omega | contradiction | exact absurd (by assumption) c_22 | (simp_all; done))
  refine g_aload_n (p0 := 29) (i := 0) dX10_letterOf_28 rfl rfl rfl ?_
  refine g_getR (p0 := 32) dX10_letterOf_29 fX10_46 (by first | rfl | assumption | exact RW.s (by assumption) | exact TW.s (by assumption)) rfl rfl ?_
  refine g_iload_n (p0 := 33) (i := 1) dX10_letterOf_32 rfl rfl rfl ?_
  first | ((with_reducible refine isN1 ?_); refine g_aldN (p0 := 34) dX10_letterOf_33 (by first | rfl | assumption | exact RW.s (by assumption) | exact TW.s (by assumption)) (by first | decide | assumption) (by omega) (by first | assumption | ((repeat (first | exact up_hit | refine up_nv (by decide) ?_ | refine up_mv (by first | decide | omega) ?_)) <;> first | assumption | rfl)) rfl ?_) | refine g_ald (p0 := 34) dX10_letterOf_33 (by first | rfl | assumption | exact RW.s (by assumption) | exact TW.s (by assumption)) (by assumption) (by first | assumption | ((repeat (first | exact up_hit | refine up_nv (by decide) ?_ | refine up_mv (by first | decide | omega) ?_)) <;> first | assumption | rfl)) rfl ?_
  refine g_iload_n (p0 := 35) (i := 2) dX10_letterOf_34 rfl rfl rfl ?_
  first | ((with_reducible refine isN2 ?_); refine g_iaddN (p0 := 36) dX10_letterOf_35 rfl ?_) | refine g_iadd (p0 := 36) dX10_letterOf_35 rfl ?_
  refine g_istore (p0 := 38) (i := 4) (ls2 := [_, _, _, _, _]) dX10_letterOf_36 (Nat.le_of_ble_eq_true rfl) rfl rfl ?_
  refine g_iload_n (p0 := 39) (i := 3) dX10_letterOf_38 rfl rfl rfl ?_
  refine g_tabIn (tgt := 101) (off := 62) dX10_letterOf_39 (by decide) (by decide) (by decide +kernel) rfl ?_
  refine g_aload_n (p0 := 102) (i := 0) dX10_letterOf_101 rfl rfl rfl ?_
  refine g_getR (p0 := 105) dX10_letterOf_102 fX10_40 (by first | rfl | assumption | exact RW.s (by assumption) | exact TW.s (by assumption)) rfl rfl ?_
  refine g_iload (p0 := 107) dX10_letterOf_105 rfl rfl ?_
  first | ((with_reducible refine isN1 ?_); refine g_aldN (p0 := 108) dX10_letterOf_107 (by first | rfl | assumption | exact RW.s (by assumption) | exact TW.s (by assumption)) (by first | decide | assumption) (by omega) (by first | assumption | ((repeat (first | exact up_hit | refine up_nv (by decide) ?_ | refine up_mv (by first | decide | omega) ?_)) <;> first | assumption | rfl)) rfl ?_) | refine g_ald (p0 := 108) dX10_letterOf_107 (by first | rfl | assumption | exact RW.s (by assumption) | exact TW.s (by assumption)) (by assumption) (by first | assumption | ((repeat (first | exact up_hit | refine up_nv (by decide) ?_ | refine up_mv (by first | decide | omega) ?_)) <;> first | assumption | rfl)) rfl ?_
  refine g_ireturn dX10_letterOf_108 rfl rfl (?_)
  exact ⟨rfl, hf.fq⟩
set_option maxRecDepth 20000 in
set_option maxHeartbeats 2000000 in
theorem lo_r3z {P : Sg → Prop} {m t f n : Nat}  {σ : Sg} (hly : CM mX10_lays [ar 79] σ (RelV (fun σ' => P σ' ∧ FRl σ σ'))) (him : ∀ σ', P σ' → CM mX10_isMessage [ar 79, ai (nI m)] σ' (Ret (nI 1) σ')) (hlg : ∀ σ', P σ' → CM mX10_longOf [ar 79, ai (nI m)] σ' (Ret (nI n) σ')) (hn : n ≤ 160) (h : t < n) (hm : m < 160) (hff : ∀ σ', P σ' → σ' 92 m = nI f) {gg : Nat} (hb : f + t < 160) (hg1 : gg < 500) (h2 : gg < 2) (hv : ∀ σ', P σ' → σ' 89 (f + t) = nI gg) : CM mX10_letterOf [ar 79, ai (nI m), ai (nI t), ai (nI 3)] σ (RPQ σ (-1000004)) := by
  refine CM_in (ls := [some (ar 79), some (ai (nI m)), some (ai (nI t)), some (ai (nI 3)), none]) rfl ?_
  refine g_aload_n (p0 := 1) (i := 0) dX10_letterOf_0 rfl rfl rfl ?_
  refine g_cV0P (p0 := 4) (r1 := mX10_lays) dX10_letterOf_1 lX10_151 vX10_lays (by first | rfl | assumption | exact RW.s (by assumption) | exact TW.s (by assumption)) ⟨_, _, rfl⟩ (FITi rfl rfl) (Nat.le_of_ble_eq_true rfl) (hly) rfl ?_
  rintro σ1 ⟨hP, hf⟩
  have w92 := hff σ1 hP
  have w := hv σ1 hP
  refine g_aload_n (p0 := 5) (i := 0) dX10_letterOf_4 rfl rfl rfl ?_
  refine g_iload_n (p0 := 6) (i := 1) dX10_letterOf_5 rfl rfl rfl ?_
  refine g_cV1R (p0 := 9) (r1 := mX10_isMessage) dX10_letterOf_6 lX10_158 vX10_isMessage (by first | rfl | assumption | exact RW.s (by assumption) | exact TW.s (by assumption)) ⟨_, _, rfl⟩ (FITi rfl rfl) (Nat.le_of_ble_eq_true rfl) (him _ hP) rfl ?_
  first | ((with_reducible refine isN1 ?_); refine g_ifN_eq (tgt := 25) (p1 := 12) dX10_letterOf_9 rfl (by omega) rfl (fun c_9 => by exfalso; first | omega | contradiction | exact absurd (by assumption) c_9 | (simp_all; done)) (fun c_9 => ?_)) | refine g_if_eq (tgt := 25) (p1 := 12) dX10_letterOf_9 rfl rfl (fun c_9 => by exfalso; first | omega | contradiction | exact absurd (by assumption) c_9 | (simp_all; done)) (fun c_9 => ?_)
  refine g_iload_n (p0 := 13) (i := 2) dX10_letterOf_12 rfl rfl rfl ?_
  first | ((with_reducible refine isN1 ?_); refine g_ifN_lt (tgt := 25) (p1 := 16) dX10_letterOf_13 rfl (by omega) rfl (fun c_13 => by exfalso; first | omega | contradiction | exact absurd (by assumption) c_13 | (simp_all; done)) (fun c_13 => ?_)) | refine g_if_lt (tgt := 25) (p1 := 16) dX10_letterOf_13 rfl rfl (fun c_13 => by exfalso; first | omega | contradiction | exact absurd (by assumption) c_13 | (simp_all; done)) (fun c_13 => ?_)
  refine g_iload_n (p0 := 17) (i := 2) dX10_letterOf_16 rfl rfl rfl ?_
  refine g_aload_n (p0 := 18) (i := 0) dX10_letterOf_17 rfl rfl rfl ?_
  refine g_iload_n (p0 := 19) (i := 1) dX10_letterOf_18 rfl rfl rfl ?_
  refine g_cV1R (p0 := 22) (r1 := mX10_longOf) dX10_letterOf_19 lX10_142 vX10_longOf (by first | rfl | assumption | exact RW.s (by assumption) | exact TW.s (by assumption)) ⟨_, _, rfl⟩ (FITi rfl rfl) (Nat.le_of_ble_eq_true rfl) (hlg _ hP) rfl ?_
  first | ((with_reducible refine isN2 ?_); refine g_icmpN_lt (tgt := 28) (p1 := 25) dX10_letterOf_22 rfl (by omega) (by omega) rfl (fun c_22 => ?_) (fun c_22 => by exfalso; first | omega | contradiction | exact absurd (by assumption) c_22 | (simp_all; done))) | refine g_icmp_lt (tgt := 28) (p1 := 25) dX10_letterOf_22 rfl rfl (fun c_22 => ?_) (fun c_22 => by exfalso; first | omega | contradiction | exact absurd (by assumption) c_22 | (simp_all; done))
  refine g_aload_n (p0 := 29) (i := 0) dX10_letterOf_28 rfl rfl rfl ?_
  refine g_getR (p0 := 32) dX10_letterOf_29 fX10_46 (by first | rfl | assumption | exact RW.s (by assumption) | exact TW.s (by assumption)) rfl rfl ?_
  refine g_iload_n (p0 := 33) (i := 1) dX10_letterOf_32 rfl rfl rfl ?_
  first | ((with_reducible refine isN1 ?_); refine g_aldN (p0 := 34) dX10_letterOf_33 (by first | rfl | assumption | exact RW.s (by assumption) | exact TW.s (by assumption)) (by first | decide | assumption) (by omega) (by first | assumption | ((repeat (first | exact up_hit | refine up_nv (by decide) ?_ | refine up_mv (by first | decide | omega) ?_)) <;> first | assumption | rfl)) rfl ?_) | refine g_ald (p0 := 34) dX10_letterOf_33 (by first | rfl | assumption | exact RW.s (by assumption) | exact TW.s (by assumption)) (by assumption) (by first | assumption | ((repeat (first | exact up_hit | refine up_nv (by decide) ?_ | refine up_mv (by first | decide | omega) ?_)) <;> first | assumption | rfl)) rfl ?_
  refine g_iload_n (p0 := 35) (i := 2) dX10_letterOf_34 rfl rfl rfl ?_
  first | ((with_reducible refine isN2 ?_); refine g_iaddN (p0 := 36) dX10_letterOf_35 rfl ?_) | refine g_iadd (p0 := 36) dX10_letterOf_35 rfl ?_
  refine g_istore (p0 := 38) (i := 4) (ls2 := [_, _, _, _, _]) dX10_letterOf_36 (Nat.le_of_ble_eq_true rfl) rfl rfl ?_
  refine g_iload_n (p0 := 39) (i := 3) dX10_letterOf_38 rfl rfl rfl ?_
  refine g_tabIn (tgt := 109) (off := 70) dX10_letterOf_39 (by decide) (by decide) (by decide +kernel) rfl ?_
  refine g_aload_n (p0 := 110) (i := 0) dX10_letterOf_109 rfl rfl rfl ?_
  refine g_getR (p0 := 113) dX10_letterOf_110 fX10_37 (by first | rfl | assumption | exact RW.s (by assumption) | exact TW.s (by assumption)) rfl rfl ?_
  refine g_iload (p0 := 115) dX10_letterOf_113 rfl rfl ?_
  first | ((with_reducible refine isN1 ?_); refine g_aldN (p0 := 116) dX10_letterOf_115 (by first | rfl | assumption | exact RW.s (by assumption) | exact TW.s (by assumption)) (by first | decide | assumption) (by omega) (by first | assumption | ((repeat (first | exact up_hit | refine up_nv (by decide) ?_ | refine up_mv (by first | decide | omega) ?_)) <;> first | assumption | rfl)) rfl ?_) | refine g_ald (p0 := 116) dX10_letterOf_115 (by first | rfl | assumption | exact RW.s (by assumption) | exact TW.s (by assumption)) (by assumption) (by first | assumption | ((repeat (first | exact up_hit | refine up_nv (by decide) ?_ | refine up_mv (by first | decide | omega) ?_)) <;> first | assumption | rfl)) rfl ?_
  refine g_iconst (p0 := 117) (v := nI 1) dX10_letterOf_116 rfl rfl ?_
  first | ((with_reducible refine isN2 ?_); refine g_icmpN_le (tgt := 130) (p1 := 120) dX10_letterOf_117 rfl (by omega) (by omega) rfl (fun c_117 => ?_) (fun c_117 => by exfalso; first | omega | contradiction | exact absurd (by assumption) c_117 | (simp_all; done))) | refine g_icmp_le (tgt := 130) (p1 := 120) dX10_letterOf_117 rfl rfl (fun c_117 => ?_) (fun c_117 => by exfalso; first | omega | contradiction | exact absurd (by assumption) c_117 | (simp_all; done))
  refine g_ldc (p0 := 132) dX10_letterOf_130 qX10_154 rfl ?_
  refine g_ireturn dX10_letterOf_132 rfl rfl (?_)
  exact ⟨rfl, hf.fq⟩
set_option maxRecDepth 20000 in
set_option maxHeartbeats 2000000 in
theorem lo_r3 {P : Sg → Prop} {m t f n : Nat} {v : Int32} {σ : Sg} (hly : CM mX10_lays [ar 79] σ (RelV (fun σ' => P σ' ∧ FRl σ σ'))) (him : ∀ σ', P σ' → CM mX10_isMessage [ar 79, ai (nI m)] σ' (Ret (nI 1) σ')) (hlg : ∀ σ', P σ' → CM mX10_longOf [ar 79, ai (nI m)] σ' (Ret (nI n) σ')) (hn : n ≤ 160) (h : t < n) (hm : m < 160) (hff : ∀ σ', P σ' → σ' 92 m = nI f) {gg : Nat} (hb : f + t < 160) (hg1 : gg < 500) (h2 : 2 ≤ gg) (hv : ∀ σ', P σ' → σ' 89 (f + t) = nI gg ∧ σ' 91 (f + t) = v) : CM mX10_letterOf [ar 79, ai (nI m), ai (nI t), ai (nI 3)] σ (RPQ σ v) := by
  refine CM_in (ls := [some (ar 79), some (ai (nI m)), some (ai (nI t)), some (ai (nI 3)), none]) rfl ?_
  refine g_aload_n (p0 := 1) (i := 0) dX10_letterOf_0 rfl rfl rfl ?_
  refine g_cV0P (p0 := 4) (r1 := mX10_lays) dX10_letterOf_1 lX10_151 vX10_lays (by first | rfl | assumption | exact RW.s (by assumption) | exact TW.s (by assumption)) ⟨_, _, rfl⟩ (FITi rfl rfl) (Nat.le_of_ble_eq_true rfl) (hly) rfl ?_
  rintro σ1 ⟨hP, hf⟩
  have w92 := hff σ1 hP
  obtain ⟨w, w2⟩ := hv σ1 hP
  refine g_aload_n (p0 := 5) (i := 0) dX10_letterOf_4 rfl rfl rfl ?_
  refine g_iload_n (p0 := 6) (i := 1) dX10_letterOf_5 rfl rfl rfl ?_
  refine g_cV1R (p0 := 9) (r1 := mX10_isMessage) dX10_letterOf_6 lX10_158 vX10_isMessage (by first | rfl | assumption | exact RW.s (by assumption) | exact TW.s (by assumption)) ⟨_, _, rfl⟩ (FITi rfl rfl) (Nat.le_of_ble_eq_true rfl) (him _ hP) rfl ?_
  first | ((with_reducible refine isN1 ?_); refine g_ifN_eq (tgt := 25) (p1 := 12) dX10_letterOf_9 rfl (by omega) rfl (fun c_9 => by exfalso; first | omega | contradiction | exact absurd (by assumption) c_9 | (simp_all; done)) (fun c_9 => ?_)) | refine g_if_eq (tgt := 25) (p1 := 12) dX10_letterOf_9 rfl rfl (fun c_9 => by exfalso; first | omega | contradiction | exact absurd (by assumption) c_9 | (simp_all; done)) (fun c_9 => ?_)
  refine g_iload_n (p0 := 13) (i := 2) dX10_letterOf_12 rfl rfl rfl ?_
  first | ((with_reducible refine isN1 ?_); refine g_ifN_lt (tgt := 25) (p1 := 16) dX10_letterOf_13 rfl (by omega) rfl (fun c_13 => by exfalso; first | omega | contradiction | exact absurd (by assumption) c_13 | (simp_all; done)) (fun c_13 => ?_)) | refine g_if_lt (tgt := 25) (p1 := 16) dX10_letterOf_13 rfl rfl (fun c_13 => by exfalso; first | omega | contradiction | exact absurd (by assumption) c_13 | (simp_all; done)) (fun c_13 => ?_)
  refine g_iload_n (p0 := 17) (i := 2) dX10_letterOf_16 rfl rfl rfl ?_
  refine g_aload_n (p0 := 18) (i := 0) dX10_letterOf_17 rfl rfl rfl ?_
  refine g_iload_n (p0 := 19) (i := 1) dX10_letterOf_18 rfl rfl rfl ?_
  refine g_cV1R (p0 := 22) (r1 := mX10_longOf) dX10_letterOf_19 lX10_142 vX10_longOf (by first | rfl | assumption | exact RW.s (by assumption) | exact TW.s (by assumption)) ⟨_, _, rfl⟩ (FITi rfl rfl) (Nat.le_of_ble_eq_true rfl) (hlg _ hP) rfl ?_
  first | ((with_reducible refine isN2 ?_); refine g_icmpN_lt (tgt := 28) (p1 := 25) dX10_letterOf_22 rfl (by omega) (by omega) rfl (fun c_22 => ?_) (fun c_22 => by exfalso; first | omega | contradiction | exact absurd (by assumption) c_22 | (simp_all; done))) | refine g_icmp_lt (tgt := 28) (p1 := 25) dX10_letterOf_22 rfl rfl (fun c_22 => ?_) (fun c_22 => by exfalso; first | omega | contradiction | exact absurd (by assumption) c_22 | (simp_all; done))
  refine g_aload_n (p0 := 29) (i := 0) dX10_letterOf_28 rfl rfl rfl ?_
  refine g_getR (p0 := 32) dX10_letterOf_29 fX10_46 (by first | rfl | assumption | exact RW.s (by assumption) | exact TW.s (by assumption)) rfl rfl ?_
  refine g_iload_n (p0 := 33) (i := 1) dX10_letterOf_32 rfl rfl rfl ?_
  first | ((with_reducible refine isN1 ?_); refine g_aldN (p0 := 34) dX10_letterOf_33 (by first | rfl | assumption | exact RW.s (by assumption) | exact TW.s (by assumption)) (by first | decide | assumption) (by omega) (by first | assumption | ((repeat (first | exact up_hit | refine up_nv (by decide) ?_ | refine up_mv (by first | decide | omega) ?_)) <;> first | assumption | rfl)) rfl ?_) | refine g_ald (p0 := 34) dX10_letterOf_33 (by first | rfl | assumption | exact RW.s (by assumption) | exact TW.s (by assumption)) (by assumption) (by first | assumption | ((repeat (first | exact up_hit | refine up_nv (by decide) ?_ | refine up_mv (by first | decide | omega) ?_)) <;> first | assumption | rfl)) rfl ?_
  refine g_iload_n (p0 := 35) (i := 2) dX10_letterOf_34 rfl rfl rfl ?_
  first | ((with_reducible refine isN2 ?_); refine g_iaddN (p0 := 36) dX10_letterOf_35 rfl ?_) | refine g_iadd (p0 := 36) dX10_letterOf_35 rfl ?_
  refine g_istore (p0 := 38) (i := 4) (ls2 := [_, _, _, _, _]) dX10_letterOf_36 (Nat.le_of_ble_eq_true rfl) rfl rfl ?_
  refine g_iload_n (p0 := 39) (i := 3) dX10_letterOf_38 rfl rfl rfl ?_
  refine g_tabIn (tgt := 109) (off := 70) dX10_letterOf_39 (by decide) (by decide) (by decide +kernel) rfl ?_
  refine g_aload_n (p0 := 110) (i := 0) dX10_letterOf_109 rfl rfl rfl ?_
  refine g_getR (p0 := 113) dX10_letterOf_110 fX10_37 (by first | rfl | assumption | exact RW.s (by assumption) | exact TW.s (by assumption)) rfl rfl ?_
  refine g_iload (p0 := 115) dX10_letterOf_113 rfl rfl ?_
  first | ((with_reducible refine isN1 ?_); refine g_aldN (p0 := 116) dX10_letterOf_115 (by first | rfl | assumption | exact RW.s (by assumption) | exact TW.s (by assumption)) (by first | decide | assumption) (by omega) (by first | assumption | ((repeat (first | exact up_hit | refine up_nv (by decide) ?_ | refine up_mv (by first | decide | omega) ?_)) <;> first | assumption | rfl)) rfl ?_) | refine g_ald (p0 := 116) dX10_letterOf_115 (by first | rfl | assumption | exact RW.s (by assumption) | exact TW.s (by assumption)) (by assumption) (by first | assumption | ((repeat (first | exact up_hit | refine up_nv (by decide) ?_ | refine up_mv (by first | decide | omega) ?_)) <;> first | assumption | rfl)) rfl ?_
  refine g_iconst (p0 := 117) (v := nI 1) dX10_letterOf_116 rfl rfl ?_
  first | ((with_reducible refine isN2 ?_); refine g_icmpN_le (tgt := 130) (p1 := 120) dX10_letterOf_117 rfl (by omega) (by omega) rfl (fun c_117 => by exfalso; first | omega | contradiction | exact absurd (by assumption) c_117 | (simp_all; done)) (fun c_117 => ?_)) | refine g_icmp_le (tgt := 130) (p1 := 120) dX10_letterOf_117 rfl rfl (fun c_117 => by exfalso; first | omega | contradiction | exact absurd (by assumption) c_117 | (simp_all; done)) (fun c_117 => ?_)
  refine g_aload_n (p0 := 121) (i := 0) dX10_letterOf_120 rfl rfl rfl ?_
  refine g_getR (p0 := 124) dX10_letterOf_121 fX10_43 (by first | rfl | assumption | exact RW.s (by assumption) | exact TW.s (by assumption)) rfl rfl ?_
  refine g_iload (p0 := 126) dX10_letterOf_124 rfl rfl ?_
  first | ((with_reducible refine isN1 ?_); refine g_aldN (p0 := 127) dX10_letterOf_126 (by first | rfl | assumption | exact RW.s (by assumption) | exact TW.s (by assumption)) (by first | decide | assumption) (by omega) (by first | assumption | ((repeat (first | exact up_hit | refine up_nv (by decide) ?_ | refine up_mv (by first | decide | omega) ?_)) <;> first | assumption | rfl)) rfl ?_) | refine g_ald (p0 := 127) dX10_letterOf_126 (by first | rfl | assumption | exact RW.s (by assumption) | exact TW.s (by assumption)) (by assumption) (by first | assumption | ((repeat (first | exact up_hit | refine up_nv (by decide) ?_ | refine up_mv (by first | decide | omega) ?_)) <;> first | assumption | rfl)) rfl ?_
  refine g_goto (tgt := 132) dX10_letterOf_127 rfl ?_
  refine g_ireturn dX10_letterOf_132 rfl rfl (?_)
  exact ⟨rfl, hf.fq⟩
set_option maxRecDepth 20000 in
set_option maxHeartbeats 2000000 in
theorem lo_r4z {P : Sg → Prop} {m t f n : Nat}  {σ : Sg} (hly : CM mX10_lays [ar 79] σ (RelV (fun σ' => P σ' ∧ FRl σ σ'))) (him : ∀ σ', P σ' → CM mX10_isMessage [ar 79, ai (nI m)] σ' (Ret (nI 1) σ')) (hlg : ∀ σ', P σ' → CM mX10_longOf [ar 79, ai (nI m)] σ' (Ret (nI n) σ')) (hn : n ≤ 160) (h : t < n) (hm : m < 160) (hff : ∀ σ', P σ' → σ' 92 m = nI f) {gg : Nat} (hb : f + t < 160) (hg1 : gg < 500) (h2 : ¬ gg = 2) (hv : ∀ σ', P σ' → σ' 89 (f + t) = nI gg) : CM mX10_letterOf [ar 79, ai (nI m), ai (nI t), ai (nI 4)] σ (RPQ σ (-1000004)) := by
  refine CM_in (ls := [some (ar 79), some (ai (nI m)), some (ai (nI t)), some (ai (nI 4)), none]) rfl ?_
  refine g_aload_n (p0 := 1) (i := 0) dX10_letterOf_0 rfl rfl rfl ?_
  refine g_cV0P (p0 := 4) (r1 := mX10_lays) dX10_letterOf_1 lX10_151 vX10_lays (by first | rfl | assumption | exact RW.s (by assumption) | exact TW.s (by assumption)) ⟨_, _, rfl⟩ (FITi rfl rfl) (Nat.le_of_ble_eq_true rfl) (hly) rfl ?_
  rintro σ1 ⟨hP, hf⟩
  have w92 := hff σ1 hP
  have w := hv σ1 hP
  refine g_aload_n (p0 := 5) (i := 0) dX10_letterOf_4 rfl rfl rfl ?_
  refine g_iload_n (p0 := 6) (i := 1) dX10_letterOf_5 rfl rfl rfl ?_
  refine g_cV1R (p0 := 9) (r1 := mX10_isMessage) dX10_letterOf_6 lX10_158 vX10_isMessage (by first | rfl | assumption | exact RW.s (by assumption) | exact TW.s (by assumption)) ⟨_, _, rfl⟩ (FITi rfl rfl) (Nat.le_of_ble_eq_true rfl) (him _ hP) rfl ?_
  first | ((with_reducible refine isN1 ?_); refine g_ifN_eq (tgt := 25) (p1 := 12) dX10_letterOf_9 rfl (by omega) rfl (fun c_9 => by exfalso; first | omega | contradiction | exact absurd (by assumption) c_9 | (simp_all; done)) (fun c_9 => ?_)) | refine g_if_eq (tgt := 25) (p1 := 12) dX10_letterOf_9 rfl rfl (fun c_9 => by exfalso; first | omega | contradiction | exact absurd (by assumption) c_9 | (simp_all; done)) (fun c_9 => ?_)
  refine g_iload_n (p0 := 13) (i := 2) dX10_letterOf_12 rfl rfl rfl ?_
  first | ((with_reducible refine isN1 ?_); refine g_ifN_lt (tgt := 25) (p1 := 16) dX10_letterOf_13 rfl (by omega) rfl (fun c_13 => by exfalso; first | omega | contradiction | exact absurd (by assumption) c_13 | (simp_all; done)) (fun c_13 => ?_)) | refine g_if_lt (tgt := 25) (p1 := 16) dX10_letterOf_13 rfl rfl (fun c_13 => by exfalso; first | omega | contradiction | exact absurd (by assumption) c_13 | (simp_all; done)) (fun c_13 => ?_)
  refine g_iload_n (p0 := 17) (i := 2) dX10_letterOf_16 rfl rfl rfl ?_
  refine g_aload_n (p0 := 18) (i := 0) dX10_letterOf_17 rfl rfl rfl ?_
  refine g_iload_n (p0 := 19) (i := 1) dX10_letterOf_18 rfl rfl rfl ?_
  refine g_cV1R (p0 := 22) (r1 := mX10_longOf) dX10_letterOf_19 lX10_142 vX10_longOf (by first | rfl | assumption | exact RW.s (by assumption) | exact TW.s (by assumption)) ⟨_, _, rfl⟩ (FITi rfl rfl) (Nat.le_of_ble_eq_true rfl) (hlg _ hP) rfl ?_
  first | ((with_reducible refine isN2 ?_); refine g_icmpN_lt (tgt := 28) (p1 := 25) dX10_letterOf_22 rfl (by omega) (by omega) rfl (fun c_22 => ?_) (fun c_22 => by exfalso; first | omega | contradiction | exact absurd (by assumption) c_22 | (simp_all; done))) | refine g_icmp_lt (tgt := 28) (p1 := 25) dX10_letterOf_22 rfl rfl (fun c_22 => ?_) (fun c_22 => by exfalso; first | omega | contradiction | exact absurd (by assumption) c_22 | (simp_all; done))
  refine g_aload_n (p0 := 29) (i := 0) dX10_letterOf_28 rfl rfl rfl ?_
  refine g_getR (p0 := 32) dX10_letterOf_29 fX10_46 (by first | rfl | assumption | exact RW.s (by assumption) | exact TW.s (by assumption)) rfl rfl ?_
  refine g_iload_n (p0 := 33) (i := 1) dX10_letterOf_32 rfl rfl rfl ?_
  first | ((with_reducible refine isN1 ?_); refine g_aldN (p0 := 34) dX10_letterOf_33 (by first | rfl | assumption | exact RW.s (by assumption) | exact TW.s (by assumption)) (by first | decide | assumption) (by omega) (by first | assumption | ((repeat (first | exact up_hit | refine up_nv (by decide) ?_ | refine up_mv (by first | decide | omega) ?_)) <;> first | assumption | rfl)) rfl ?_) | refine g_ald (p0 := 34) dX10_letterOf_33 (by first | rfl | assumption | exact RW.s (by assumption) | exact TW.s (by assumption)) (by assumption) (by first | assumption | ((repeat (first | exact up_hit | refine up_nv (by decide) ?_ | refine up_mv (by first | decide | omega) ?_)) <;> first | assumption | rfl)) rfl ?_
  refine g_iload_n (p0 := 35) (i := 2) dX10_letterOf_34 rfl rfl rfl ?_
  first | ((with_reducible refine isN2 ?_); refine g_iaddN (p0 := 36) dX10_letterOf_35 rfl ?_) | refine g_iadd (p0 := 36) dX10_letterOf_35 rfl ?_
  refine g_istore (p0 := 38) (i := 4) (ls2 := [_, _, _, _, _]) dX10_letterOf_36 (Nat.le_of_ble_eq_true rfl) rfl rfl ?_
  refine g_iload_n (p0 := 39) (i := 3) dX10_letterOf_38 rfl rfl rfl ?_
  refine g_tabIn (tgt := 133) (off := 94) dX10_letterOf_39 (by decide) (by decide) (by decide +kernel) rfl ?_
  refine g_aload_n (p0 := 134) (i := 0) dX10_letterOf_133 rfl rfl rfl ?_
  refine g_getR (p0 := 137) dX10_letterOf_134 fX10_37 (by first | rfl | assumption | exact RW.s (by assumption) | exact TW.s (by assumption)) rfl rfl ?_
  refine g_iload (p0 := 139) dX10_letterOf_137 rfl rfl ?_
  first | ((with_reducible refine isN1 ?_); refine g_aldN (p0 := 140) dX10_letterOf_139 (by first | rfl | assumption | exact RW.s (by assumption) | exact TW.s (by assumption)) (by first | decide | assumption) (by omega) (by first | assumption | ((repeat (first | exact up_hit | refine up_nv (by decide) ?_ | refine up_mv (by first | decide | omega) ?_)) <;> first | assumption | rfl)) rfl ?_) | refine g_ald (p0 := 140) dX10_letterOf_139 (by first | rfl | assumption | exact RW.s (by assumption) | exact TW.s (by assumption)) (by assumption) (by first | assumption | ((repeat (first | exact up_hit | refine up_nv (by decide) ?_ | refine up_mv (by first | decide | omega) ?_)) <;> first | assumption | rfl)) rfl ?_
  refine g_iconst (p0 := 141) (v := nI 2) dX10_letterOf_140 rfl rfl ?_
  first | ((with_reducible refine isN2 ?_); refine g_icmpN_ne (tgt := 153) (p1 := 144) dX10_letterOf_141 rfl (by omega) (by omega) rfl (fun c_141 => ?_) (fun c_141 => by exfalso; first | omega | contradiction | exact absurd (by assumption) c_141 | (simp_all; done))) | refine g_icmp_ne (tgt := 153) (p1 := 144) dX10_letterOf_141 rfl rfl (fun c_141 => ?_) (fun c_141 => by exfalso; first | omega | contradiction | exact absurd (by assumption) c_141 | (simp_all; done))
  refine g_ldc (p0 := 155) dX10_letterOf_153 qX10_154 rfl ?_
  refine g_ireturn dX10_letterOf_155 rfl rfl (?_)
  exact ⟨rfl, hf.fq⟩
set_option maxRecDepth 20000 in
set_option maxHeartbeats 2000000 in
theorem lo_r4 {P : Sg → Prop} {m t f n : Nat} {v : Int32} {σ : Sg} (hly : CM mX10_lays [ar 79] σ (RelV (fun σ' => P σ' ∧ FRl σ σ'))) (him : ∀ σ', P σ' → CM mX10_isMessage [ar 79, ai (nI m)] σ' (Ret (nI 1) σ')) (hlg : ∀ σ', P σ' → CM mX10_longOf [ar 79, ai (nI m)] σ' (Ret (nI n) σ')) (hn : n ≤ 160) (h : t < n) (hm : m < 160) (hff : ∀ σ', P σ' → σ' 92 m = nI f) {gg : Nat} (hb : f + t < 160) (hg1 : gg < 500) (h2 : gg = 2) (hv : ∀ σ', P σ' → σ' 89 (f + t) = nI gg ∧ CM mX10_moreOf [ar 79, ai (nI (f + t))] σ' (Ret v σ')) : CM mX10_letterOf [ar 79, ai (nI m), ai (nI t), ai (nI 4)] σ (RPQ σ v) := by
  refine CM_in (ls := [some (ar 79), some (ai (nI m)), some (ai (nI t)), some (ai (nI 4)), none]) rfl ?_
  refine g_aload_n (p0 := 1) (i := 0) dX10_letterOf_0 rfl rfl rfl ?_
  refine g_cV0P (p0 := 4) (r1 := mX10_lays) dX10_letterOf_1 lX10_151 vX10_lays (by first | rfl | assumption | exact RW.s (by assumption) | exact TW.s (by assumption)) ⟨_, _, rfl⟩ (FITi rfl rfl) (Nat.le_of_ble_eq_true rfl) (hly) rfl ?_
  rintro σ1 ⟨hP, hf⟩
  have w92 := hff σ1 hP
  obtain ⟨w, w2⟩ := hv σ1 hP
  refine g_aload_n (p0 := 5) (i := 0) dX10_letterOf_4 rfl rfl rfl ?_
  refine g_iload_n (p0 := 6) (i := 1) dX10_letterOf_5 rfl rfl rfl ?_
  refine g_cV1R (p0 := 9) (r1 := mX10_isMessage) dX10_letterOf_6 lX10_158 vX10_isMessage (by first | rfl | assumption | exact RW.s (by assumption) | exact TW.s (by assumption)) ⟨_, _, rfl⟩ (FITi rfl rfl) (Nat.le_of_ble_eq_true rfl) (him _ hP) rfl ?_
  first | ((with_reducible refine isN1 ?_); refine g_ifN_eq (tgt := 25) (p1 := 12) dX10_letterOf_9 rfl (by omega) rfl (fun c_9 => by exfalso; first | omega | contradiction | exact absurd (by assumption) c_9 | (simp_all; done)) (fun c_9 => ?_)) | refine g_if_eq (tgt := 25) (p1 := 12) dX10_letterOf_9 rfl rfl (fun c_9 => by exfalso; first | omega | contradiction | exact absurd (by assumption) c_9 | (simp_all; done)) (fun c_9 => ?_)
  refine g_iload_n (p0 := 13) (i := 2) dX10_letterOf_12 rfl rfl rfl ?_
  first | ((with_reducible refine isN1 ?_); refine g_ifN_lt (tgt := 25) (p1 := 16) dX10_letterOf_13 rfl (by omega) rfl (fun c_13 => by exfalso; first | omega | contradiction | exact absurd (by assumption) c_13 | (simp_all; done)) (fun c_13 => ?_)) | refine g_if_lt (tgt := 25) (p1 := 16) dX10_letterOf_13 rfl rfl (fun c_13 => by exfalso; first | omega | contradiction | exact absurd (by assumption) c_13 | (simp_all; done)) (fun c_13 => ?_)
  refine g_iload_n (p0 := 17) (i := 2) dX10_letterOf_16 rfl rfl rfl ?_
  refine g_aload_n (p0 := 18) (i := 0) dX10_letterOf_17 rfl rfl rfl ?_
  refine g_iload_n (p0 := 19) (i := 1) dX10_letterOf_18 rfl rfl rfl ?_
  refine g_cV1R (p0 := 22) (r1 := mX10_longOf) dX10_letterOf_19 lX10_142 vX10_longOf (by first | rfl | assumption | exact RW.s (by assumption) | exact TW.s (by assumption)) ⟨_, _, rfl⟩ (FITi rfl rfl) (Nat.le_of_ble_eq_true rfl) (hlg _ hP) rfl ?_
  first | ((with_reducible refine isN2 ?_); refine g_icmpN_lt (tgt := 28) (p1 := 25) dX10_letterOf_22 rfl (by omega) (by omega) rfl (fun c_22 => ?_) (fun c_22 => by exfalso; first | omega | contradiction | exact absurd (by assumption) c_22 | (simp_all; done))) | refine g_icmp_lt (tgt := 28) (p1 := 25) dX10_letterOf_22 rfl rfl (fun c_22 => ?_) (fun c_22 => by exfalso; first | omega | contradiction | exact absurd (by assumption) c_22 | (simp_all; done))
  refine g_aload_n (p0 := 29) (i := 0) dX10_letterOf_28 rfl rfl rfl ?_
  refine g_getR (p0 := 32) dX10_letterOf_29 fX10_46 (by first | rfl | assumption | exact RW.s (by assumption) | exact TW.s (by assumption)) rfl rfl ?_
  refine g_iload_n (p0 := 33) (i := 1) dX10_letterOf_32 rfl rfl rfl ?_
  first | ((with_reducible refine isN1 ?_); refine g_aldN (p0 := 34) dX10_letterOf_33 (by first | rfl | assumption | exact RW.s (by assumption) | exact TW.s (by assumption)) (by first | decide | assumption) (by omega) (by first | assumption | ((repeat (first | exact up_hit | refine up_nv (by decide) ?_ | refine up_mv (by first | decide | omega) ?_)) <;> first | assumption | rfl)) rfl ?_) | refine g_ald (p0 := 34) dX10_letterOf_33 (by first | rfl | assumption | exact RW.s (by assumption) | exact TW.s (by assumption)) (by assumption) (by first | assumption | ((repeat (first | exact up_hit | refine up_nv (by decide) ?_ | refine up_mv (by first | decide | omega) ?_)) <;> first | assumption | rfl)) rfl ?_
  refine g_iload_n (p0 := 35) (i := 2) dX10_letterOf_34 rfl rfl rfl ?_
  first | ((with_reducible refine isN2 ?_); refine g_iaddN (p0 := 36) dX10_letterOf_35 rfl ?_) | refine g_iadd (p0 := 36) dX10_letterOf_35 rfl ?_
  refine g_istore (p0 := 38) (i := 4) (ls2 := [_, _, _, _, _]) dX10_letterOf_36 (Nat.le_of_ble_eq_true rfl) rfl rfl ?_
  refine g_iload_n (p0 := 39) (i := 3) dX10_letterOf_38 rfl rfl rfl ?_
  refine g_tabIn (tgt := 133) (off := 94) dX10_letterOf_39 (by decide) (by decide) (by decide +kernel) rfl ?_
  refine g_aload_n (p0 := 134) (i := 0) dX10_letterOf_133 rfl rfl rfl ?_
  refine g_getR (p0 := 137) dX10_letterOf_134 fX10_37 (by first | rfl | assumption | exact RW.s (by assumption) | exact TW.s (by assumption)) rfl rfl ?_
  refine g_iload (p0 := 139) dX10_letterOf_137 rfl rfl ?_
  first | ((with_reducible refine isN1 ?_); refine g_aldN (p0 := 140) dX10_letterOf_139 (by first | rfl | assumption | exact RW.s (by assumption) | exact TW.s (by assumption)) (by first | decide | assumption) (by omega) (by first | assumption | ((repeat (first | exact up_hit | refine up_nv (by decide) ?_ | refine up_mv (by first | decide | omega) ?_)) <;> first | assumption | rfl)) rfl ?_) | refine g_ald (p0 := 140) dX10_letterOf_139 (by first | rfl | assumption | exact RW.s (by assumption) | exact TW.s (by assumption)) (by assumption) (by first | assumption | ((repeat (first | exact up_hit | refine up_nv (by decide) ?_ | refine up_mv (by first | decide | omega) ?_)) <;> first | assumption | rfl)) rfl ?_
  refine g_iconst (p0 := 141) (v := nI 2) dX10_letterOf_140 rfl rfl ?_
  first | ((with_reducible refine isN2 ?_); refine g_icmpN_ne (tgt := 153) (p1 := 144) dX10_letterOf_141 rfl (by omega) (by omega) rfl (fun c_141 => by exfalso; first | omega | contradiction | exact absurd (by assumption) c_141 | (simp_all; done)) (fun c_141 => ?_)) | refine g_icmp_ne (tgt := 153) (p1 := 144) dX10_letterOf_141 rfl rfl (fun c_141 => by exfalso; first | omega | contradiction | exact absurd (by assumption) c_141 | (simp_all; done)) (fun c_141 => ?_)
  refine g_aload_n (p0 := 145) (i := 0) dX10_letterOf_144 rfl rfl rfl ?_
  refine g_iload (p0 := 147) dX10_letterOf_145 rfl rfl ?_
  refine g_cV1R (p0 := 150) (r1 := mX10_moreOf) dX10_letterOf_147 lX10_167 vX10_moreOf (by first | rfl | assumption | exact RW.s (by assumption) | exact TW.s (by assumption)) ⟨_, _, rfl⟩ (FITi rfl rfl) (Nat.le_of_ble_eq_true rfl) (w2) rfl ?_
  refine g_goto (tgt := 155) dX10_letterOf_150 rfl ?_
  refine g_ireturn dX10_letterOf_155 rfl rfl (?_)
  exact ⟨rfl, hf.fq⟩
theorem op_letterOf (x0 x1 x2 : Int32) : OpOK Inv mX9_letterOf mX10_letterOf [ai x0, ai x1, ai x2] := by
  intro σ hI
  obtain ⟨s, M, L, c, fs, f, n, p, d, g, a, b, hs, hs1, hC, hJ⟩ := JQ hI
  obtain ⟨⟨c1, c2, c3, k1, k2, k3⟩, cM, cL⟩ := id hC
  have hM1 : M ≤ 160 := by omega
  rcases msg_c hM1 x0 with ⟨m, hm, rfl⟩ | ⟨h1, h2⟩
  · obtain ⟨⟨n1, n2⟩, a1, a2, a3, a4, a5, a6, a7⟩ := cM m hm
    have hm1 : m < 160 := by omega
    have hn1 : n m ≤ 160 := by omega
    have hfn : f m + n m ≤ 160 := by omega
    have him : ∀ σ' : Sg, REF σ' s M L c fs f n p d g a b (σ 42) (σ 44) → CM mX10_isMessage [ar 79, ai (nI m)] σ' (Ret (nI 1) σ') := fun σ' hP => isMessage_T hP.1.2.2.1 hM1 hm
    have hlg : ∀ σ' : Sg, REF σ' s M L c fs f n p d g a b (σ 42) (σ 44) → CM mX10_longOf [ar 79, ai (nI m)] σ' (Ret (nI (n m)) σ') := by
      intro σ' hP
      have h := longOf_sp (σ := σ') hm1 (hP.2.1 m hm).2.1 (hP.2.1 m hm).2.2.1 (by omega)
      rw [Nat.add_sub_cancel_left] at h
      exact h
    have h92 : ∀ σ' : Sg, REF σ' s M L c fs f n p d g a b (σ 42) (σ 44) → σ' 92 m = nI (f m) := fun σ' hP => (hP.2.1 m hm).2.1
    rcases i32c x1 with hneg | ⟨t, ht2, rfl⟩
    · exact op_ask hI (CPQ_of (lo_cn (t := 0) (f := 0) c1 hM1 hm a3 hn1 hneg)) (fun σ1 hf hI1 => lo_rn (t := 0) (f := 0) (hJ σ1 hf) him hlg hn1 hneg)
    · by_cases ht : t < n m
      · have hb : f m + t < 160 := by omega
        obtain ⟨⟨q1, q2, q3, q4, q5, q6⟩, b1, b2, b3, b4⟩ := cL (f m + t) (by omega)
        have hLT : ∀ σ' : Sg, REF σ' s M L c fs f n p d g a b (σ 42) (σ 44) → σ' 89 (f m + t) = nI (g (f m + t)) ∧ σ' 90 (f m + t) = nI (a (f m + t)) ∧ σ' 91 (f m + t) = nI (b (f m + t)) := fun σ' hP => hP.2.2.1.1.2 (f m + t) (by omega)
        rcases i32c x2 with h | ⟨j, hj, rfl⟩
        · have h0 : x2.toInt < 0 ∨ 4 < x2.toInt := by
            rw [Int32.lt_iff_toInt_lt] at h
            exact Or.inl h
          exact op_ask hI (CPQ_of (lo_cx c1 hM1 hm a3 hn1 ht a2 hfn b1 q2 h0)) (fun σ1 hf hI1 => lo_rx (hJ σ1 hf) him hlg hn1 ht hm1 h92 h0)
        · by_cases h5 : j < 5
          · have hc : j = 0 ∨ j = 1 ∨ j = 2 ∨ j = 3 ∨ j = 4 := by omega
            rcases hc with rfl | rfl | rfl | rfl | rfl
            · by_cases hv : σ 42 (f m + t) = -1
              · refine op_ask hI (CPQ_of (lo_c0z c1 hM1 hm a3 hn1 ht a2 hfn b1 q2 hv)) (fun σ1 hf hI1 => lo_r0z (hJ σ1 hf) him hlg hn1 ht hm1 h92 (fun σ' hP => ?_))
                rcases hP.2.2.1.read (l := f m + t) (by omega) with ⟨_, hr⟩ | ⟨h3, _⟩
                · exact hr
                · exact absurd hv h3
              · refine op_ask hI (CPQ_of (lo_c0 c1 hM1 hm a3 hn1 ht a2 hfn b1 q2 rfl hv)) (fun σ1 hf hI1 => lo_r0 (hJ σ1 hf) him hlg hn1 ht hm1 h92 (fun σ' hP => ?_))
                rcases hP.2.2.1.read (l := f m + t) (by omega) with ⟨h3, _⟩ | ⟨_, _, _, _, _, hr, h0⟩
                · exact absurd h3 hv
                · exact ⟨hr, h0⟩
            · exact op_ask hI (CPQ_of (lo_c1 c1 hM1 hm a3 hn1 ht a2 hfn b1 q2)) (fun σ1 hf hI1 => lo_r1 (hJ σ1 hf) him hlg hn1 ht hm1 h92 hb (fun σ' hP => (hLT σ' hP).1))
            · exact op_ask hI (CPQ_of (lo_c2 c1 hM1 hm a3 hn1 ht a2 hfn b1 q2 b2)) (fun σ1 hf hI1 => lo_r2 (hJ σ1 hf) him hlg hn1 ht hm1 h92 hb (fun σ' hP => (hLT σ' hP).2.1))
            · by_cases hg2 : g (f m + t) < 2
              · exact op_ask hI (CPQ_of (lo_c3z c1 hM1 hm a3 hn1 ht a2 hfn b1 q2 hg2)) (fun σ1 hf hI1 => lo_r3z (hJ σ1 hf) him hlg hn1 ht hm1 h92 hb q2 hg2 (fun σ' hP => (hLT σ' hP).1))
              · exact op_ask hI (CPQ_of (lo_c3 c1 hM1 hm a3 hn1 ht a2 hfn b1 q2 (by omega) b3)) (fun σ1 hf hI1 => lo_r3 (hJ σ1 hf) him hlg hn1 ht hm1 h92 hb q2 (by omega) (fun σ' hP => ⟨(hLT σ' hP).1, (hLT σ' hP).2.2⟩))
            · by_cases hg2 : g (f m + t) = 2
              · refine op_ask hI (CPQ_of (lo_c4 c1 hM1 hm a3 hn1 ht a2 hfn b1 q2 hg2 (oneMore_sp hb b1 b2 b3 q2 q4 q6))) (fun σ1 hf hI1 => lo_r4 (hJ σ1 hf) him hlg hn1 ht hm1 h92 hb q2 hg2 (fun σ' hP => ⟨(hLT σ' hP).1, ?_⟩))
                rw [hg2]
                exact more_sp hP (by omega) q4 q6
              · exact op_ask hI (CPQ_of (lo_c4z c1 hM1 hm a3 hn1 ht a2 hfn b1 q2 hg2)) (fun σ1 hf hI1 => lo_r4z (hJ σ1 hf) him hlg hn1 ht hm1 h92 hb q2 hg2 (fun σ' hP => (hLT σ' hP).1))
          · have h0 : (nI j).toInt < 0 ∨ 4 < (nI j).toInt := by
              rw [nI_toInt (by omega)]
              omega
            exact op_ask hI (CPQ_of (lo_cx c1 hM1 hm a3 hn1 ht a2 hfn b1 q2 h0)) (fun σ1 hf hI1 => lo_rx (hJ σ1 hf) him hlg hn1 ht hm1 h92 h0)
      · exact op_ask hI (CPQ_of (lo_cb (f := 0) c1 hM1 hm a3 hn1 (by omega) ht2)) (fun σ1 hf hI1 => lo_rb (f := 0) (hJ σ1 hf) him hlg hn1 (by omega) ht2)
  · exact op_ask hI (CPQ_of (lo_cF (h1 σ c1))) (fun σ1 hf hI1 => lo_rF (hJ σ1 hf) (fun σ' hP => h2 σ' hP.1.2.2.1))
