/-! QUESTIONS: messageOf, letterOf, correction -/
theorem msg_c {M : Nat} (hM1 : M ≤ 160) (x : Int32) : (∃ m, m < M ∧ x = nI m) ∨ ((∀ σ1 : Sg, σ1 45 7 = nI M → CM mX6_hasMessage [ar 33, ai x] σ1 (Ret (nI 0) σ1)) ∧ ∀ σ2 : Sg, σ2 79 11 = nI M → CM mX10_isMessage [ar 79, ai x] σ2 (Ret (nI 0) σ2)) := by
  rcases i32c x with h | ⟨j, hj, rfl⟩
  · exact Or.inr ⟨fun _ _ => hasMessage_F1 h, fun _ _ => isMessage_F1 h⟩
  · by_cases hjM : j < M
    · exact Or.inl ⟨j, hjM, rfl⟩
    · exact Or.inr ⟨fun _ e => hasMessage_F2 e hM1 (by omega) hj, fun _ e => isMessage_F2 e hM1 (by omega) hj⟩
theorem FQ_96 {σ σ' : Sg} (h : ∀ z, z ≠ 96 → σ' z = σ z) : FQ σ σ' := ⟨fun z _ h2 => h z (by omega), by rw [h 79 (by decide)], by rw [h 79 (by decide)]⟩
theorem FC_72 {σ σ' : Sg} (h : ∀ z, z ≠ 72 → σ' z = σ z) : FC σ σ' := fun z h2 => h z (by omega)
theorem i_or0 (x : Int32) : x ||| nI 0 = x := by rw [nI_0]; simp
theorem i_0or (x : Int32) : nI 0 ||| x = x := by rw [nI_0]; simp
theorem CS.of {σ σ1 : Sg} {F : Nat → Prop} {cd : Nat → Int32} {Q : Nat} {w : Int32} (h : CS σ σ1 F cd Q w) : FC σ σ1 := FC_72 h.1
set_option maxRecDepth 20000 in
set_option maxHeartbeats 2000000 in
theorem fitting_sp {σ : Sg} {s M L : Nat} {c fs f n p d g a b : Nat → Nat} {m : Nat} (hC : CLS σ s M L c fs f n p d g a b) (hm : m < M) : CM mX1_fitting [ar 72, ar 33, ai (nI m)] σ (RelI (fun u σ1 => u = nI (cnF (FIQ (σ 42) (σ 44) g a b (f m) (n m)) (4 * n m)) ∧ FC σ σ1)) := by
  refine CM_in (ls := [some (ar 72), some (ar 33), some (ai (nI m))]) rfl ?_
  refine g_aload_n (p0 := 1) (i := 0) dX1_fitting_0 rfl rfl rfl ?_
  refine g_aload_n (p0 := 2) (i := 1) dX1_fitting_1 rfl rfl rfl ?_
  refine g_iload_n (p0 := 3) (i := 2) dX1_fitting_2 rfl rfl rfl ?_
  refine g_iconst (p0 := 4) (v := -1) dX1_fitting_3 rfl rfl ?_
  refine g_cV3P (p0 := 7) (r1 := mX1_search) dX1_fitting_4 lX1_27 vX1_search (by first | rfl | assumption | exact RW.s (by assumption) | exact TW.s (by assumption)) ⟨_, _, rfl⟩ (FITi rfl rfl) (Nat.le_of_ble_eq_true rfl) (search_r hC hm) rfl ?_
  rintro σ1 hS
  have hv := hS.2.1
  refine g_aload_n (p0 := 8) (i := 0) dX1_fitting_7 rfl rfl rfl ?_
  refine g_getI (p0 := 11) dX1_fitting_8 fX1_24 (by first | rfl | assumption | exact RW.s (by assumption) | exact TW.s (by assumption)) rfl (by first | assumption | ((repeat (first | exact up_hit | refine up_nv (by decide) ?_ | refine up_mv (by first | decide | omega) ?_)) <;> first | assumption | rfl)) rfl ?_
  refine g_ireturn dX1_fitting_11 rfl rfl (?_)
  exact ⟨_, rfl, rfl, hS.of⟩
set_option maxRecDepth 20000 in
set_option maxHeartbeats 2000000 in
theorem find_0 {σ : Sg} {s M L : Nat} {c fs f n p d g a b : Nat → Nat} {m : Nat} {j : Nat} (hC : CLS σ s M L c fs f n p d g a b) (hm : m < M) (hj2 : j < 2147483648) (hj : ¬ j < cnF (FIQ (σ 42) (σ 44) g a b (f m) (n m)) (4 * n m)) : CM mX1_find [ar 72, ar 33, ai (nI m), ai (nI j)] σ (RelI (fun u σ1 => u = nI 0 ∧ CS σ σ1 (FIQ (σ 42) (σ 44) g a b (f m) (n m)) (cdq (σ 44) g a b (f m)) (4 * n m) (nI j))) := by
  have hb := cnF_le (F := (FIQ (σ 42) (σ 44) g a b (f m) (n m))) (4 * n m)
  have hnm := (hC.2.1 m hm).1.2
  have hk := hC.1.2.2.2
  refine CM_in (ls := [some (ar 72), some (ar 33), some (ai (nI m)), some (ai (nI j))]) rfl ?_
  refine g_aload_n (p0 := 1) (i := 0) dX1_find_0 rfl rfl rfl ?_
  refine g_aload_n (p0 := 2) (i := 1) dX1_find_1 rfl rfl rfl ?_
  refine g_iload_n (p0 := 3) (i := 2) dX1_find_2 rfl rfl rfl ?_
  refine g_iload_n (p0 := 4) (i := 3) dX1_find_3 rfl rfl rfl ?_
  refine g_cV3P (p0 := 7) (r1 := mX1_search) dX1_find_4 lX1_27 vX1_search (by first | rfl | assumption | exact RW.s (by assumption) | exact TW.s (by assumption)) ⟨_, _, rfl⟩ (FITi rfl rfl) (Nat.le_of_ble_eq_true rfl) (search_r hC hm) rfl ?_
  rintro σ1 hS
  have hv := hS.2.1
  refine g_iload_n (p0 := 8) (i := 3) dX1_find_7 rfl rfl rfl ?_
  refine g_aload_n (p0 := 9) (i := 0) dX1_find_8 rfl rfl rfl ?_
  refine g_getI (p0 := 12) dX1_find_9 fX1_24 (by first | rfl | assumption | exact RW.s (by assumption) | exact TW.s (by assumption)) rfl (by first | assumption | ((repeat (first | exact up_hit | refine up_nv (by decide) ?_ | refine up_mv (by first | decide | omega) ?_)) <;> first | assumption | rfl)) rfl ?_
  first | ((with_reducible refine isN2 ?_); refine g_icmpN_ge (tgt := 19) (p1 := 15) dX1_find_12 rfl (by omega) (by omega) rfl (fun c_12 => ?_) (fun c_12 => by exfalso; first | omega | contradiction | exact absurd (by assumption) c_12 | (simp_all; done))) | refine g_icmp_ge (tgt := 19) (p1 := 15) dX1_find_12 rfl rfl (fun c_12 => ?_) (fun c_12 => by exfalso; first | omega | contradiction | exact absurd (by assumption) c_12 | (simp_all; done))
  refine g_iconst (p0 := 20) (v := nI 0) dX1_find_19 rfl rfl ?_
  refine g_ireturn dX1_find_20 rfl (by first | rfl | exact bool_narrow (by first | exact Or.inl rfl | exact Or.inr rfl | assumption | (split <;> first | exact Or.inl rfl | exact Or.inr rfl))) (?_)
  exact ⟨_, rfl, rfl, hS⟩
set_option maxRecDepth 20000 in
set_option maxHeartbeats 2000000 in
theorem find_1 {σ : Sg} {s M L : Nat} {c fs f n p d g a b : Nat → Nat} {m : Nat} {j : Nat} (hC : CLS σ s M L c fs f n p d g a b) (hm : m < M) (hj2 : j < 2147483648) (hj : j < cnF (FIQ (σ 42) (σ 44) g a b (f m) (n m)) (4 * n m)) : CM mX1_find [ar 72, ar 33, ai (nI m), ai (nI j)] σ (RelI (fun u σ1 => u = nI 1 ∧ CS σ σ1 (FIQ (σ 42) (σ 44) g a b (f m) (n m)) (cdq (σ 44) g a b (f m)) (4 * n m) (nI j))) := by
  have hb := cnF_le (F := (FIQ (σ 42) (σ 44) g a b (f m) (n m))) (4 * n m)
  have hnm := (hC.2.1 m hm).1.2
  have hk := hC.1.2.2.2
  refine CM_in (ls := [some (ar 72), some (ar 33), some (ai (nI m)), some (ai (nI j))]) rfl ?_
  refine g_aload_n (p0 := 1) (i := 0) dX1_find_0 rfl rfl rfl ?_
  refine g_aload_n (p0 := 2) (i := 1) dX1_find_1 rfl rfl rfl ?_
  refine g_iload_n (p0 := 3) (i := 2) dX1_find_2 rfl rfl rfl ?_
  refine g_iload_n (p0 := 4) (i := 3) dX1_find_3 rfl rfl rfl ?_
  refine g_cV3P (p0 := 7) (r1 := mX1_search) dX1_find_4 lX1_27 vX1_search (by first | rfl | assumption | exact RW.s (by assumption) | exact TW.s (by assumption)) ⟨_, _, rfl⟩ (FITi rfl rfl) (Nat.le_of_ble_eq_true rfl) (search_r hC hm) rfl ?_
  rintro σ1 hS
  have hv := hS.2.1
  refine g_iload_n (p0 := 8) (i := 3) dX1_find_7 rfl rfl rfl ?_
  refine g_aload_n (p0 := 9) (i := 0) dX1_find_8 rfl rfl rfl ?_
  refine g_getI (p0 := 12) dX1_find_9 fX1_24 (by first | rfl | assumption | exact RW.s (by assumption) | exact TW.s (by assumption)) rfl (by first | assumption | ((repeat (first | exact up_hit | refine up_nv (by decide) ?_ | refine up_mv (by first | decide | omega) ?_)) <;> first | assumption | rfl)) rfl ?_
  first | ((with_reducible refine isN2 ?_); refine g_icmpN_ge (tgt := 19) (p1 := 15) dX1_find_12 rfl (by omega) (by omega) rfl (fun c_12 => by exfalso; first | omega | contradiction | exact absurd (by assumption) c_12 | (simp_all; done)) (fun c_12 => ?_)) | refine g_icmp_ge (tgt := 19) (p1 := 15) dX1_find_12 rfl rfl (fun c_12 => by exfalso; first | omega | contradiction | exact absurd (by assumption) c_12 | (simp_all; done)) (fun c_12 => ?_)
  refine g_iconst (p0 := 16) (v := nI 1) dX1_find_15 rfl rfl ?_
  refine g_goto (tgt := 20) dX1_find_16 rfl ?_
  refine g_ireturn dX1_find_20 rfl (by first | rfl | exact bool_narrow (by first | exact Or.inl rfl | exact Or.inr rfl | assumption | (split <;> first | exact Or.inl rfl | exact Or.inr rfl))) (?_)
  exact ⟨_, rfl, rfl, hS⟩
set_option maxRecDepth 20000 in
set_option maxHeartbeats 2000000 in
theorem mo_cF {x y : Int32} {σ : Sg} (h : CM mX6_hasMessage [ar 33, ai x] σ (Ret (nI 0) σ)) : CM mX9_messageOf [ar 0, ai x, ai y] σ (Ret (-1000001) σ) := by
  refine CM_in (ls := [some (ar 0), some (ai x), some (ai y)]) rfl ?_
  refine g_aload_n (p0 := 1) (i := 0) dX9_messageOf_0 rfl rfl rfl ?_
  refine g_getR (p0 := 4) dX9_messageOf_1 fX9_29 (by first | rfl | assumption | exact RW.s (by assumption) | exact TW.s (by assumption)) rfl rfl ?_
  refine g_iload_n (p0 := 5) (i := 1) dX9_messageOf_4 rfl rfl rfl ?_
  refine g_cV1R (p0 := 8) (r1 := mX6_hasMessage) dX9_messageOf_5 lX9_133 vX6_hasMessage (by first | rfl | assumption | exact RW.s (by assumption) | exact TW.s (by assumption)) ⟨_, _, rfl⟩ (FITi rfl rfl) (Nat.le_of_ble_eq_true rfl) (h) rfl ?_
  first | ((with_reducible refine isN1 ?_); refine g_ifN_ne (tgt := 14) (p1 := 11) dX9_messageOf_8 rfl (by omega) rfl (fun c_8 => by exfalso; first | omega | contradiction | exact absurd (by assumption) c_8 | (simp_all; done)) (fun c_8 => ?_)) | refine g_if_ne (tgt := 14) (p1 := 11) dX9_messageOf_8 rfl rfl (fun c_8 => by exfalso; first | omega | contradiction | exact absurd (by assumption) c_8 | (simp_all; done)) (fun c_8 => ?_)
  refine g_ldc (p0 := 13) dX9_messageOf_11 qX9_68 rfl ?_
  refine g_ireturn dX9_messageOf_13 rfl rfl (?_)
  exact ⟨rfl, rfl⟩
set_option maxRecDepth 20000 in
set_option maxHeartbeats 2000000 in
theorem mo_cx {m M : Nat} {x : Int32} {σ : Sg} (hM : σ 45 7 = nI M) (hM1 : M ≤ 160) (hm : m < M) (h : x.toInt < 0 ∨ 6 < x.toInt) : CM mX9_messageOf [ar 0, ai (nI m), ai x] σ (Ret (-1000001) σ) := by
  refine CM_in (ls := [some (ar 0), some (ai (nI m)), some (ai x)]) rfl ?_
  refine g_aload_n (p0 := 1) (i := 0) dX9_messageOf_0 rfl rfl rfl ?_
  refine g_getR (p0 := 4) dX9_messageOf_1 fX9_29 (by first | rfl | assumption | exact RW.s (by assumption) | exact TW.s (by assumption)) rfl rfl ?_
  refine g_iload_n (p0 := 5) (i := 1) dX9_messageOf_4 rfl rfl rfl ?_
  refine g_cV1R (p0 := 8) (r1 := mX6_hasMessage) dX9_messageOf_5 lX9_133 vX6_hasMessage (by first | rfl | assumption | exact RW.s (by assumption) | exact TW.s (by assumption)) ⟨_, _, rfl⟩ (FITi rfl rfl) (Nat.le_of_ble_eq_true rfl) (hasMessage_T hM hM1 hm) rfl ?_
  first | ((with_reducible refine isN1 ?_); refine g_ifN_ne (tgt := 14) (p1 := 11) dX9_messageOf_8 rfl (by omega) rfl (fun c_8 => ?_) (fun c_8 => by exfalso; first | omega | contradiction | exact absurd (by assumption) c_8 | (simp_all; done))) | refine g_if_ne (tgt := 14) (p1 := 11) dX9_messageOf_8 rfl rfl (fun c_8 => ?_) (fun c_8 => by exfalso; first | omega | contradiction | exact absurd (by assumption) c_8 | (simp_all; done))
  refine g_iload_n (p0 := 15) (i := 2) dX9_messageOf_14 rfl rfl rfl ?_
  refine g_tabOut (tgt := 155) dX9_messageOf_15 (by omega) rfl ?_
  refine g_ldc (p0 := 157) dX9_messageOf_155 qX9_68 rfl ?_
  refine g_ireturn dX9_messageOf_157 rfl rfl (?_)
  exact ⟨rfl, rfl⟩
set_option maxRecDepth 20000 in
set_option maxHeartbeats 2000000 in
theorem mo_c0 {m M : Nat} {v : Int32} {σ : Sg} (hM : σ 45 7 = nI M) (hM1 : M ≤ 160) (hm : m < M) (h : σ 51 m = v) : CM mX9_messageOf [ar 0, ai (nI m), ai (nI 0)] σ (Ret v σ) := by
  refine CM_in (ls := [some (ar 0), some (ai (nI m)), some (ai (nI 0))]) rfl ?_
  refine g_aload_n (p0 := 1) (i := 0) dX9_messageOf_0 rfl rfl rfl ?_
  refine g_getR (p0 := 4) dX9_messageOf_1 fX9_29 (by first | rfl | assumption | exact RW.s (by assumption) | exact TW.s (by assumption)) rfl rfl ?_
  refine g_iload_n (p0 := 5) (i := 1) dX9_messageOf_4 rfl rfl rfl ?_
  refine g_cV1R (p0 := 8) (r1 := mX6_hasMessage) dX9_messageOf_5 lX9_133 vX6_hasMessage (by first | rfl | assumption | exact RW.s (by assumption) | exact TW.s (by assumption)) ⟨_, _, rfl⟩ (FITi rfl rfl) (Nat.le_of_ble_eq_true rfl) (hasMessage_T hM hM1 hm) rfl ?_
  first | ((with_reducible refine isN1 ?_); refine g_ifN_ne (tgt := 14) (p1 := 11) dX9_messageOf_8 rfl (by omega) rfl (fun c_8 => ?_) (fun c_8 => by exfalso; first | omega | contradiction | exact absurd (by assumption) c_8 | (simp_all; done))) | refine g_if_ne (tgt := 14) (p1 := 11) dX9_messageOf_8 rfl rfl (fun c_8 => ?_) (fun c_8 => by exfalso; first | omega | contradiction | exact absurd (by assumption) c_8 | (simp_all; done))
  refine g_iload_n (p0 := 15) (i := 2) dX9_messageOf_14 rfl rfl rfl ?_
  refine g_tabIn (tgt := 56) (off := 41) dX9_messageOf_15 (by decide) (by decide) (by decide +kernel) rfl ?_
  refine g_aload_n (p0 := 57) (i := 0) dX9_messageOf_56 rfl rfl rfl ?_
  refine g_getR (p0 := 60) dX9_messageOf_57 fX9_29 (by first | rfl | assumption | exact RW.s (by assumption) | exact TW.s (by assumption)) rfl rfl ?_
  refine g_iload_n (p0 := 61) (i := 1) dX9_messageOf_60 rfl rfl rfl ?_
  refine g_cV1R (p0 := 64) (r1 := mX6_lengthOf) dX9_messageOf_61 lX9_136 vX6_lengthOf (by first | rfl | assumption | exact RW.s (by assumption) | exact TW.s (by assumption)) ⟨_, _, rfl⟩ (FITi rfl rfl) (Nat.le_of_ble_eq_true rfl) (lengthOf_sp (by omega) h) rfl ?_
  refine g_ireturn dX9_messageOf_64 rfl rfl (?_)
  exact ⟨rfl, rfl⟩
set_option maxRecDepth 20000 in
set_option maxHeartbeats 2000000 in
theorem mo_c1 {m M : Nat} {v : Int32} {σ : Sg} (hM : σ 45 7 = nI M) (hM1 : M ≤ 160) (hm : m < M) (h : σ 57 m = v) : CM mX9_messageOf [ar 0, ai (nI m), ai (nI 1)] σ (Ret v σ) := by
  refine CM_in (ls := [some (ar 0), some (ai (nI m)), some (ai (nI 1))]) rfl ?_
  refine g_aload_n (p0 := 1) (i := 0) dX9_messageOf_0 rfl rfl rfl ?_
  refine g_getR (p0 := 4) dX9_messageOf_1 fX9_29 (by first | rfl | assumption | exact RW.s (by assumption) | exact TW.s (by assumption)) rfl rfl ?_
  refine g_iload_n (p0 := 5) (i := 1) dX9_messageOf_4 rfl rfl rfl ?_
  refine g_cV1R (p0 := 8) (r1 := mX6_hasMessage) dX9_messageOf_5 lX9_133 vX6_hasMessage (by first | rfl | assumption | exact RW.s (by assumption) | exact TW.s (by assumption)) ⟨_, _, rfl⟩ (FITi rfl rfl) (Nat.le_of_ble_eq_true rfl) (hasMessage_T hM hM1 hm) rfl ?_
  first | ((with_reducible refine isN1 ?_); refine g_ifN_ne (tgt := 14) (p1 := 11) dX9_messageOf_8 rfl (by omega) rfl (fun c_8 => ?_) (fun c_8 => by exfalso; first | omega | contradiction | exact absurd (by assumption) c_8 | (simp_all; done))) | refine g_if_ne (tgt := 14) (p1 := 11) dX9_messageOf_8 rfl rfl (fun c_8 => ?_) (fun c_8 => by exfalso; first | omega | contradiction | exact absurd (by assumption) c_8 | (simp_all; done))
  refine g_iload_n (p0 := 15) (i := 2) dX9_messageOf_14 rfl rfl rfl ?_
  refine g_tabIn (tgt := 65) (off := 50) dX9_messageOf_15 (by decide) (by decide) (by decide +kernel) rfl ?_
  refine g_aload_n (p0 := 66) (i := 0) dX9_messageOf_65 rfl rfl rfl ?_
  refine g_getR (p0 := 69) dX9_messageOf_66 fX9_29 (by first | rfl | assumption | exact RW.s (by assumption) | exact TW.s (by assumption)) rfl rfl ?_
  refine g_getR (p0 := 72) dX9_messageOf_69 fX9_139 (by first | rfl | assumption | exact RW.s (by assumption) | exact TW.s (by assumption)) rfl rfl ?_
  refine g_getR (p0 := 75) dX9_messageOf_72 fX9_143 (by first | rfl | assumption | exact RW.s (by assumption) | exact TW.s (by assumption)) rfl rfl ?_
  refine g_iload_n (p0 := 76) (i := 1) dX9_messageOf_75 rfl rfl rfl ?_
  refine g_cV1R (p0 := 79) (r1 := mX7_at) dX9_messageOf_76 lX9_114 vX7_at (by first | rfl | assumption | exact RW.s (by assumption) | exact TW.s (by assumption)) ⟨_, _, rfl⟩ (FITi rfl rfl) (Nat.le_of_ble_eq_true rfl) (at_N (by first | exact ⟨rfl, rfl, by decide⟩ | assumption) (by omega) h) rfl ?_
  refine g_ireturn dX9_messageOf_79 rfl rfl (?_)
  exact ⟨rfl, rfl⟩
set_option maxRecDepth 20000 in
set_option maxHeartbeats 2000000 in
theorem mo_c3 {m M : Nat} {v : Int32} {σ : Sg} (hM : σ 45 7 = nI M) (hM1 : M ≤ 160) (hm : m < M) (h : σ 53 m = v) : CM mX9_messageOf [ar 0, ai (nI m), ai (nI 3)] σ (Ret v σ) := by
  refine CM_in (ls := [some (ar 0), some (ai (nI m)), some (ai (nI 3))]) rfl ?_
  refine g_aload_n (p0 := 1) (i := 0) dX9_messageOf_0 rfl rfl rfl ?_
  refine g_getR (p0 := 4) dX9_messageOf_1 fX9_29 (by first | rfl | assumption | exact RW.s (by assumption) | exact TW.s (by assumption)) rfl rfl ?_
  refine g_iload_n (p0 := 5) (i := 1) dX9_messageOf_4 rfl rfl rfl ?_
  refine g_cV1R (p0 := 8) (r1 := mX6_hasMessage) dX9_messageOf_5 lX9_133 vX6_hasMessage (by first | rfl | assumption | exact RW.s (by assumption) | exact TW.s (by assumption)) ⟨_, _, rfl⟩ (FITi rfl rfl) (Nat.le_of_ble_eq_true rfl) (hasMessage_T hM hM1 hm) rfl ?_
  first | ((with_reducible refine isN1 ?_); refine g_ifN_ne (tgt := 14) (p1 := 11) dX9_messageOf_8 rfl (by omega) rfl (fun c_8 => ?_) (fun c_8 => by exfalso; first | omega | contradiction | exact absurd (by assumption) c_8 | (simp_all; done))) | refine g_if_ne (tgt := 14) (p1 := 11) dX9_messageOf_8 rfl rfl (fun c_8 => ?_) (fun c_8 => by exfalso; first | omega | contradiction | exact absurd (by assumption) c_8 | (simp_all; done))
  refine g_iload_n (p0 := 15) (i := 2) dX9_messageOf_14 rfl rfl rfl ?_
  refine g_tabIn (tgt := 97) (off := 82) dX9_messageOf_15 (by decide) (by decide) (by decide +kernel) rfl ?_
  refine g_aload_n (p0 := 98) (i := 0) dX9_messageOf_97 rfl rfl rfl ?_
  refine g_getR (p0 := 101) dX9_messageOf_98 fX9_29 (by first | rfl | assumption | exact RW.s (by assumption) | exact TW.s (by assumption)) rfl rfl ?_
  refine g_getR (p0 := 104) dX9_messageOf_101 fX9_139 (by first | rfl | assumption | exact RW.s (by assumption) | exact TW.s (by assumption)) rfl rfl ?_
  refine g_getR (p0 := 107) dX9_messageOf_104 fX9_151 (by first | rfl | assumption | exact RW.s (by assumption) | exact TW.s (by assumption)) rfl rfl ?_
  refine g_iload_n (p0 := 108) (i := 1) dX9_messageOf_107 rfl rfl rfl ?_
  refine g_cV1R (p0 := 111) (r1 := mX7_at) dX9_messageOf_108 lX9_114 vX7_at (by first | rfl | assumption | exact RW.s (by assumption) | exact TW.s (by assumption)) ⟨_, _, rfl⟩ (FITi rfl rfl) (Nat.le_of_ble_eq_true rfl) (at_N (by first | exact ⟨rfl, rfl, by decide⟩ | assumption) (by omega) h) rfl ?_
  refine g_ireturn dX9_messageOf_111 rfl rfl (?_)
  exact ⟨rfl, rfl⟩
set_option maxRecDepth 20000 in
set_option maxHeartbeats 2000000 in
theorem mo_c5 {m M : Nat} {v : Int32} {σ : Sg} (hM : σ 45 7 = nI M) (hM1 : M ≤ 160) (hm : m < M) (h : σ 47 m = v) : CM mX9_messageOf [ar 0, ai (nI m), ai (nI 5)] σ (Ret v σ) := by
  refine CM_in (ls := [some (ar 0), some (ai (nI m)), some (ai (nI 5))]) rfl ?_
  refine g_aload_n (p0 := 1) (i := 0) dX9_messageOf_0 rfl rfl rfl ?_
  refine g_getR (p0 := 4) dX9_messageOf_1 fX9_29 (by first | rfl | assumption | exact RW.s (by assumption) | exact TW.s (by assumption)) rfl rfl ?_
  refine g_iload_n (p0 := 5) (i := 1) dX9_messageOf_4 rfl rfl rfl ?_
  refine g_cV1R (p0 := 8) (r1 := mX6_hasMessage) dX9_messageOf_5 lX9_133 vX6_hasMessage (by first | rfl | assumption | exact RW.s (by assumption) | exact TW.s (by assumption)) ⟨_, _, rfl⟩ (FITi rfl rfl) (Nat.le_of_ble_eq_true rfl) (hasMessage_T hM hM1 hm) rfl ?_
  first | ((with_reducible refine isN1 ?_); refine g_ifN_ne (tgt := 14) (p1 := 11) dX9_messageOf_8 rfl (by omega) rfl (fun c_8 => ?_) (fun c_8 => by exfalso; first | omega | contradiction | exact absurd (by assumption) c_8 | (simp_all; done))) | refine g_if_ne (tgt := 14) (p1 := 11) dX9_messageOf_8 rfl rfl (fun c_8 => ?_) (fun c_8 => by exfalso; first | omega | contradiction | exact absurd (by assumption) c_8 | (simp_all; done))
  refine g_iload_n (p0 := 15) (i := 2) dX9_messageOf_14 rfl rfl rfl ?_
  refine g_tabIn (tgt := 125) (off := 110) dX9_messageOf_15 (by decide) (by decide) (by decide +kernel) rfl ?_
  refine g_aload_n (p0 := 126) (i := 0) dX9_messageOf_125 rfl rfl rfl ?_
  refine g_getR (p0 := 129) dX9_messageOf_126 fX9_29 (by first | rfl | assumption | exact RW.s (by assumption) | exact TW.s (by assumption)) rfl rfl ?_
  refine g_getR (p0 := 132) dX9_messageOf_129 fX9_139 (by first | rfl | assumption | exact RW.s (by assumption) | exact TW.s (by assumption)) rfl rfl ?_
  refine g_getR (p0 := 135) dX9_messageOf_132 fX9_158 (by first | rfl | assumption | exact RW.s (by assumption) | exact TW.s (by assumption)) rfl rfl ?_
  refine g_iload_n (p0 := 136) (i := 1) dX9_messageOf_135 rfl rfl rfl ?_
  refine g_cV1R (p0 := 139) (r1 := mX7_at) dX9_messageOf_136 lX9_114 vX7_at (by first | rfl | assumption | exact RW.s (by assumption) | exact TW.s (by assumption)) ⟨_, _, rfl⟩ (FITi rfl rfl) (Nat.le_of_ble_eq_true rfl) (at_N (by first | exact ⟨rfl, rfl, by decide⟩ | assumption) (by omega) h) rfl ?_
  refine g_ireturn dX9_messageOf_139 rfl rfl (?_)
  exact ⟨rfl, rfl⟩
set_option maxRecDepth 20000 in
set_option maxHeartbeats 2000000 in
theorem mo_c6 {m M : Nat} {v : Int32} {σ : Sg} (hM : σ 45 7 = nI M) (hM1 : M ≤ 160) (hm : m < M) (h : σ 55 m = v) : CM mX9_messageOf [ar 0, ai (nI m), ai (nI 6)] σ (Ret v σ) := by
  refine CM_in (ls := [some (ar 0), some (ai (nI m)), some (ai (nI 6))]) rfl ?_
  refine g_aload_n (p0 := 1) (i := 0) dX9_messageOf_0 rfl rfl rfl ?_
  refine g_getR (p0 := 4) dX9_messageOf_1 fX9_29 (by first | rfl | assumption | exact RW.s (by assumption) | exact TW.s (by assumption)) rfl rfl ?_
  refine g_iload_n (p0 := 5) (i := 1) dX9_messageOf_4 rfl rfl rfl ?_
  refine g_cV1R (p0 := 8) (r1 := mX6_hasMessage) dX9_messageOf_5 lX9_133 vX6_hasMessage (by first | rfl | assumption | exact RW.s (by assumption) | exact TW.s (by assumption)) ⟨_, _, rfl⟩ (FITi rfl rfl) (Nat.le_of_ble_eq_true rfl) (hasMessage_T hM hM1 hm) rfl ?_
  first | ((with_reducible refine isN1 ?_); refine g_ifN_ne (tgt := 14) (p1 := 11) dX9_messageOf_8 rfl (by omega) rfl (fun c_8 => ?_) (fun c_8 => by exfalso; first | omega | contradiction | exact absurd (by assumption) c_8 | (simp_all; done))) | refine g_if_ne (tgt := 14) (p1 := 11) dX9_messageOf_8 rfl rfl (fun c_8 => ?_) (fun c_8 => by exfalso; first | omega | contradiction | exact absurd (by assumption) c_8 | (simp_all; done))
  refine g_iload_n (p0 := 15) (i := 2) dX9_messageOf_14 rfl rfl rfl ?_
  refine g_tabIn (tgt := 140) (off := 125) dX9_messageOf_15 (by decide) (by decide) (by decide +kernel) rfl ?_
  refine g_aload_n (p0 := 141) (i := 0) dX9_messageOf_140 rfl rfl rfl ?_
  refine g_getR (p0 := 144) dX9_messageOf_141 fX9_29 (by first | rfl | assumption | exact RW.s (by assumption) | exact TW.s (by assumption)) rfl rfl ?_
  refine g_getR (p0 := 147) dX9_messageOf_144 fX9_139 (by first | rfl | assumption | exact RW.s (by assumption) | exact TW.s (by assumption)) rfl rfl ?_
  refine g_getR (p0 := 150) dX9_messageOf_147 fX9_161 (by first | rfl | assumption | exact RW.s (by assumption) | exact TW.s (by assumption)) rfl rfl ?_
  refine g_iload_n (p0 := 151) (i := 1) dX9_messageOf_150 rfl rfl rfl ?_
  refine g_cV1R (p0 := 154) (r1 := mX7_at) dX9_messageOf_151 lX9_114 vX7_at (by first | rfl | assumption | exact RW.s (by assumption) | exact TW.s (by assumption)) ⟨_, _, rfl⟩ (FITi rfl rfl) (Nat.le_of_ble_eq_true rfl) (at_N (by first | exact ⟨rfl, rfl, by decide⟩ | assumption) (by omega) h) rfl ?_
  refine g_ireturn dX9_messageOf_154 rfl rfl (?_)
  exact ⟨rfl, rfl⟩
set_option maxRecDepth 20000 in
set_option maxHeartbeats 2000000 in
theorem mo_c2_0 {m M : Nat} {σ : Sg} (hM : σ 45 7 = nI M) (hM1 : M ≤ 160) (hm : m < M) (h : CM mX6_isRight [ar 33, ai (nI m)] σ (Ret (nI 0) σ)) : CM mX9_messageOf [ar 0, ai (nI m), ai (nI 2)] σ (Ret (nI 0) σ) := by
  refine CM_in (ls := [some (ar 0), some (ai (nI m)), some (ai (nI 2))]) rfl ?_
  refine g_aload_n (p0 := 1) (i := 0) dX9_messageOf_0 rfl rfl rfl ?_
  refine g_getR (p0 := 4) dX9_messageOf_1 fX9_29 (by first | rfl | assumption | exact RW.s (by assumption) | exact TW.s (by assumption)) rfl rfl ?_
  refine g_iload_n (p0 := 5) (i := 1) dX9_messageOf_4 rfl rfl rfl ?_
  refine g_cV1R (p0 := 8) (r1 := mX6_hasMessage) dX9_messageOf_5 lX9_133 vX6_hasMessage (by first | rfl | assumption | exact RW.s (by assumption) | exact TW.s (by assumption)) ⟨_, _, rfl⟩ (FITi rfl rfl) (Nat.le_of_ble_eq_true rfl) (hasMessage_T hM hM1 hm) rfl ?_
  first | ((with_reducible refine isN1 ?_); refine g_ifN_ne (tgt := 14) (p1 := 11) dX9_messageOf_8 rfl (by omega) rfl (fun c_8 => ?_) (fun c_8 => by exfalso; first | omega | contradiction | exact absurd (by assumption) c_8 | (simp_all; done))) | refine g_if_ne (tgt := 14) (p1 := 11) dX9_messageOf_8 rfl rfl (fun c_8 => ?_) (fun c_8 => by exfalso; first | omega | contradiction | exact absurd (by assumption) c_8 | (simp_all; done))
  refine g_iload_n (p0 := 15) (i := 2) dX9_messageOf_14 rfl rfl rfl ?_
  refine g_tabIn (tgt := 80) (off := 65) dX9_messageOf_15 (by decide) (by decide) (by decide +kernel) rfl ?_
  refine g_aload_n (p0 := 81) (i := 0) dX9_messageOf_80 rfl rfl rfl ?_
  refine g_getR (p0 := 84) dX9_messageOf_81 fX9_29 (by first | rfl | assumption | exact RW.s (by assumption) | exact TW.s (by assumption)) rfl rfl ?_
  refine g_iload_n (p0 := 85) (i := 1) dX9_messageOf_84 rfl rfl rfl ?_
  refine g_cV1R (p0 := 88) (r1 := mX6_isRight) dX9_messageOf_85 lX9_148 vX6_isRight (by first | rfl | assumption | exact RW.s (by assumption) | exact TW.s (by assumption)) ⟨_, _, rfl⟩ (FITi rfl rfl) (Nat.le_of_ble_eq_true rfl) (h) rfl ?_
  first | ((with_reducible refine isN1 ?_); refine g_ifN_eq (tgt := 95) (p1 := 91) dX9_messageOf_88 rfl (by omega) rfl (fun c_88 => ?_) (fun c_88 => by exfalso; first | omega | contradiction | exact absurd (by assumption) c_88 | (simp_all; done))) | refine g_if_eq (tgt := 95) (p1 := 91) dX9_messageOf_88 rfl rfl (fun c_88 => ?_) (fun c_88 => by exfalso; first | omega | contradiction | exact absurd (by assumption) c_88 | (simp_all; done))
  refine g_iconst (p0 := 96) (v := nI 0) dX9_messageOf_95 rfl rfl ?_
  refine g_ireturn dX9_messageOf_96 rfl rfl (?_)
  exact ⟨rfl, rfl⟩
set_option maxRecDepth 20000 in
set_option maxHeartbeats 2000000 in
theorem mo_c2_1 {m M : Nat} {σ : Sg} (hM : σ 45 7 = nI M) (hM1 : M ≤ 160) (hm : m < M) (h : CM mX6_isRight [ar 33, ai (nI m)] σ (Ret (nI 1) σ)) : CM mX9_messageOf [ar 0, ai (nI m), ai (nI 2)] σ (Ret (nI 1) σ) := by
  refine CM_in (ls := [some (ar 0), some (ai (nI m)), some (ai (nI 2))]) rfl ?_
  refine g_aload_n (p0 := 1) (i := 0) dX9_messageOf_0 rfl rfl rfl ?_
  refine g_getR (p0 := 4) dX9_messageOf_1 fX9_29 (by first | rfl | assumption | exact RW.s (by assumption) | exact TW.s (by assumption)) rfl rfl ?_
  refine g_iload_n (p0 := 5) (i := 1) dX9_messageOf_4 rfl rfl rfl ?_
  refine g_cV1R (p0 := 8) (r1 := mX6_hasMessage) dX9_messageOf_5 lX9_133 vX6_hasMessage (by first | rfl | assumption | exact RW.s (by assumption) | exact TW.s (by assumption)) ⟨_, _, rfl⟩ (FITi rfl rfl) (Nat.le_of_ble_eq_true rfl) (hasMessage_T hM hM1 hm) rfl ?_
  first | ((with_reducible refine isN1 ?_); refine g_ifN_ne (tgt := 14) (p1 := 11) dX9_messageOf_8 rfl (by omega) rfl (fun c_8 => ?_) (fun c_8 => by exfalso; first | omega | contradiction | exact absurd (by assumption) c_8 | (simp_all; done))) | refine g_if_ne (tgt := 14) (p1 := 11) dX9_messageOf_8 rfl rfl (fun c_8 => ?_) (fun c_8 => by exfalso; first | omega | contradiction | exact absurd (by assumption) c_8 | (simp_all; done))
  refine g_iload_n (p0 := 15) (i := 2) dX9_messageOf_14 rfl rfl rfl ?_
  refine g_tabIn (tgt := 80) (off := 65) dX9_messageOf_15 (by decide) (by decide) (by decide +kernel) rfl ?_
  refine g_aload_n (p0 := 81) (i := 0) dX9_messageOf_80 rfl rfl rfl ?_
  refine g_getR (p0 := 84) dX9_messageOf_81 fX9_29 (by first | rfl | assumption | exact RW.s (by assumption) | exact TW.s (by assumption)) rfl rfl ?_
  refine g_iload_n (p0 := 85) (i := 1) dX9_messageOf_84 rfl rfl rfl ?_
  refine g_cV1R (p0 := 88) (r1 := mX6_isRight) dX9_messageOf_85 lX9_148 vX6_isRight (by first | rfl | assumption | exact RW.s (by assumption) | exact TW.s (by assumption)) ⟨_, _, rfl⟩ (FITi rfl rfl) (Nat.le_of_ble_eq_true rfl) (h) rfl ?_
  first | ((with_reducible refine isN1 ?_); refine g_ifN_eq (tgt := 95) (p1 := 91) dX9_messageOf_88 rfl (by omega) rfl (fun c_88 => by exfalso; first | omega | contradiction | exact absurd (by assumption) c_88 | (simp_all; done)) (fun c_88 => ?_)) | refine g_if_eq (tgt := 95) (p1 := 91) dX9_messageOf_88 rfl rfl (fun c_88 => by exfalso; first | omega | contradiction | exact absurd (by assumption) c_88 | (simp_all; done)) (fun c_88 => ?_)
  refine g_iconst (p0 := 92) (v := nI 1) dX9_messageOf_91 rfl rfl ?_
  refine g_goto (tgt := 96) dX9_messageOf_92 rfl ?_
  refine g_ireturn dX9_messageOf_96 rfl rfl (?_)
  exact ⟨rfl, rfl⟩
set_option maxRecDepth 20000 in
set_option maxHeartbeats 2000000 in
theorem mo_c4 {m M : Nat} {v : Int32} {σ : Sg} (hM : σ 45 7 = nI M) (hM1 : M ≤ 160) (hm : m < M) (h : CM mX1_fitting [ar 72, ar 33, ai (nI m)] σ (RelI (fun u σ1 => u = v ∧ FC σ σ1))) : CM mX9_messageOf [ar 0, ai (nI m), ai (nI 4)] σ (CPQ σ v) := by
  refine CM_in (ls := [some (ar 0), some (ai (nI m)), some (ai (nI 4))]) rfl ?_
  refine g_aload_n (p0 := 1) (i := 0) dX9_messageOf_0 rfl rfl rfl ?_
  refine g_getR (p0 := 4) dX9_messageOf_1 fX9_29 (by first | rfl | assumption | exact RW.s (by assumption) | exact TW.s (by assumption)) rfl rfl ?_
  refine g_iload_n (p0 := 5) (i := 1) dX9_messageOf_4 rfl rfl rfl ?_
  refine g_cV1R (p0 := 8) (r1 := mX6_hasMessage) dX9_messageOf_5 lX9_133 vX6_hasMessage (by first | rfl | assumption | exact RW.s (by assumption) | exact TW.s (by assumption)) ⟨_, _, rfl⟩ (FITi rfl rfl) (Nat.le_of_ble_eq_true rfl) (hasMessage_T hM hM1 hm) rfl ?_
  first | ((with_reducible refine isN1 ?_); refine g_ifN_ne (tgt := 14) (p1 := 11) dX9_messageOf_8 rfl (by omega) rfl (fun c_8 => ?_) (fun c_8 => by exfalso; first | omega | contradiction | exact absurd (by assumption) c_8 | (simp_all; done))) | refine g_if_ne (tgt := 14) (p1 := 11) dX9_messageOf_8 rfl rfl (fun c_8 => ?_) (fun c_8 => by exfalso; first | omega | contradiction | exact absurd (by assumption) c_8 | (simp_all; done))
  refine g_iload_n (p0 := 15) (i := 2) dX9_messageOf_14 rfl rfl rfl ?_
  refine g_tabIn (tgt := 112) (off := 97) dX9_messageOf_15 (by decide) (by decide) (by decide +kernel) rfl ?_
  refine g_aload_n (p0 := 113) (i := 0) dX9_messageOf_112 rfl rfl rfl ?_
  refine g_getR (p0 := 116) dX9_messageOf_113 fX9_36 (by first | rfl | assumption | exact RW.s (by assumption) | exact TW.s (by assumption)) rfl rfl ?_
  refine g_aload_n (p0 := 117) (i := 0) dX9_messageOf_116 rfl rfl rfl ?_
  refine g_getR (p0 := 120) dX9_messageOf_117 fX9_29 (by first | rfl | assumption | exact RW.s (by assumption) | exact TW.s (by assumption)) rfl rfl ?_
  refine g_iload_n (p0 := 121) (i := 1) dX9_messageOf_120 rfl rfl rfl ?_
  refine g_cV2I (p0 := 124) (r1 := mX1_fitting) dX9_messageOf_121 lX9_154 vX1_fitting (by first | rfl | assumption | exact RW.s (by assumption) | exact TW.s (by assumption)) ⟨_, _, rfl⟩ (FITi rfl rfl) (Nat.le_of_ble_eq_true rfl) (h) rfl ?_
  rintro u σ1 ⟨rfl, hfc⟩
  refine g_ireturn dX9_messageOf_124 rfl rfl (?_)
  exact ⟨rfl, hfc⟩
set_option maxRecDepth 20000 in
set_option maxHeartbeats 2000000 in
theorem mo_rF {P : Sg → Prop} {x y : Int32} {σ : Sg} (hly : CM mX10_lays [ar 79] σ (RelV (fun σ' => P σ' ∧ FRl σ σ'))) (him : ∀ σ', P σ' → CM mX10_isMessage [ar 79, ai x] σ' (Ret (nI 0) σ')) : CM mX10_messageOf [ar 79, ai x, ai y] σ (RPQ σ (-1000001)) := by
  refine CM_in (ls := [some (ar 79), some (ai x), some (ai y)]) rfl ?_
  refine g_aload_n (p0 := 1) (i := 0) dX10_messageOf_0 rfl rfl rfl ?_
  refine g_cV0P (p0 := 4) (r1 := mX10_lays) dX10_messageOf_1 lX10_151 vX10_lays (by first | rfl | assumption | exact RW.s (by assumption) | exact TW.s (by assumption)) ⟨_, _, rfl⟩ (FITi rfl rfl) (Nat.le_of_ble_eq_true rfl) (hly) rfl ?_
  rintro σ1 ⟨hP, hf⟩
  refine g_aload_n (p0 := 5) (i := 0) dX10_messageOf_4 rfl rfl rfl ?_
  refine g_iload_n (p0 := 6) (i := 1) dX10_messageOf_5 rfl rfl rfl ?_
  refine g_cV1R (p0 := 9) (r1 := mX10_isMessage) dX10_messageOf_6 lX10_158 vX10_isMessage (by first | rfl | assumption | exact RW.s (by assumption) | exact TW.s (by assumption)) ⟨_, _, rfl⟩ (FITi rfl rfl) (Nat.le_of_ble_eq_true rfl) (him _ hP) rfl ?_
  first | ((with_reducible refine isN1 ?_); refine g_ifN_ne (tgt := 15) (p1 := 12) dX10_messageOf_9 rfl (by omega) rfl (fun c_9 => by exfalso; first | omega | contradiction | exact absurd (by assumption) c_9 | (simp_all; done)) (fun c_9 => ?_)) | refine g_if_ne (tgt := 15) (p1 := 12) dX10_messageOf_9 rfl rfl (fun c_9 => by exfalso; first | omega | contradiction | exact absurd (by assumption) c_9 | (simp_all; done)) (fun c_9 => ?_)
  refine g_ldc (p0 := 14) dX10_messageOf_12 qX10_76 rfl ?_
  refine g_ireturn dX10_messageOf_14 rfl rfl (?_)
  exact ⟨rfl, hf.fq⟩
set_option maxRecDepth 20000 in
set_option maxHeartbeats 2000000 in
theorem mo_rx {P : Sg → Prop} {m : Nat} {x : Int32} {σ : Sg} (hly : CM mX10_lays [ar 79] σ (RelV (fun σ' => P σ' ∧ FRl σ σ'))) (him : ∀ σ', P σ' → CM mX10_isMessage [ar 79, ai (nI m)] σ' (Ret (nI 1) σ')) (h : x.toInt < 0 ∨ 6 < x.toInt) : CM mX10_messageOf [ar 79, ai (nI m), ai x] σ (RPQ σ (-1000001)) := by
  refine CM_in (ls := [some (ar 79), some (ai (nI m)), some (ai x)]) rfl ?_
  refine g_aload_n (p0 := 1) (i := 0) dX10_messageOf_0 rfl rfl rfl ?_
  refine g_cV0P (p0 := 4) (r1 := mX10_lays) dX10_messageOf_1 lX10_151 vX10_lays (by first | rfl | assumption | exact RW.s (by assumption) | exact TW.s (by assumption)) ⟨_, _, rfl⟩ (FITi rfl rfl) (Nat.le_of_ble_eq_true rfl) (hly) rfl ?_
  rintro σ1 ⟨hP, hf⟩
  refine g_aload_n (p0 := 5) (i := 0) dX10_messageOf_4 rfl rfl rfl ?_
  refine g_iload_n (p0 := 6) (i := 1) dX10_messageOf_5 rfl rfl rfl ?_
  refine g_cV1R (p0 := 9) (r1 := mX10_isMessage) dX10_messageOf_6 lX10_158 vX10_isMessage (by first | rfl | assumption | exact RW.s (by assumption) | exact TW.s (by assumption)) ⟨_, _, rfl⟩ (FITi rfl rfl) (Nat.le_of_ble_eq_true rfl) (him _ hP) rfl ?_
  first | ((with_reducible refine isN1 ?_); refine g_ifN_ne (tgt := 15) (p1 := 12) dX10_messageOf_9 rfl (by omega) rfl (fun c_9 => ?_) (fun c_9 => by exfalso; first | omega | contradiction | exact absurd (by assumption) c_9 | (simp_all; done))) | refine g_if_ne (tgt := 15) (p1 := 12) dX10_messageOf_9 rfl rfl (fun c_9 => ?_) (fun c_9 => by exfalso; first | omega | contradiction | exact absurd (by assumption) c_9 | (simp_all; done))
  refine g_iload_n (p0 := 16) (i := 2) dX10_messageOf_15 rfl rfl rfl ?_
  refine g_tabOut (tgt := 118) dX10_messageOf_16 (by omega) rfl ?_
  refine g_ldc (p0 := 120) dX10_messageOf_118 qX10_76 rfl ?_
  refine g_ireturn dX10_messageOf_120 rfl rfl (?_)
  exact ⟨rfl, hf.fq⟩
set_option maxRecDepth 20000 in
set_option maxHeartbeats 2000000 in
theorem mo_r0 {P : Sg → Prop} {m : Nat} {v : Int32} {σ : Sg} (hly : CM mX10_lays [ar 79] σ (RelV (fun σ' => P σ' ∧ FRl σ σ'))) (him : ∀ σ', P σ' → CM mX10_isMessage [ar 79, ai (nI m)] σ' (Ret (nI 1) σ')) (h : ∀ σ', P σ' → CM mX10_longOf [ar 79, ai (nI m)] σ' (Ret v σ')) : CM mX10_messageOf [ar 79, ai (nI m), ai (nI 0)] σ (RPQ σ v) := by
  refine CM_in (ls := [some (ar 79), some (ai (nI m)), some (ai (nI 0))]) rfl ?_
  refine g_aload_n (p0 := 1) (i := 0) dX10_messageOf_0 rfl rfl rfl ?_
  refine g_cV0P (p0 := 4) (r1 := mX10_lays) dX10_messageOf_1 lX10_151 vX10_lays (by first | rfl | assumption | exact RW.s (by assumption) | exact TW.s (by assumption)) ⟨_, _, rfl⟩ (FITi rfl rfl) (Nat.le_of_ble_eq_true rfl) (hly) rfl ?_
  rintro σ1 ⟨hP, hf⟩
  refine g_aload_n (p0 := 5) (i := 0) dX10_messageOf_4 rfl rfl rfl ?_
  refine g_iload_n (p0 := 6) (i := 1) dX10_messageOf_5 rfl rfl rfl ?_
  refine g_cV1R (p0 := 9) (r1 := mX10_isMessage) dX10_messageOf_6 lX10_158 vX10_isMessage (by first | rfl | assumption | exact RW.s (by assumption) | exact TW.s (by assumption)) ⟨_, _, rfl⟩ (FITi rfl rfl) (Nat.le_of_ble_eq_true rfl) (him _ hP) rfl ?_
  first | ((with_reducible refine isN1 ?_); refine g_ifN_ne (tgt := 15) (p1 := 12) dX10_messageOf_9 rfl (by omega) rfl (fun c_9 => ?_) (fun c_9 => by exfalso; first | omega | contradiction | exact absurd (by assumption) c_9 | (simp_all; done))) | refine g_if_ne (tgt := 15) (p1 := 12) dX10_messageOf_9 rfl rfl (fun c_9 => ?_) (fun c_9 => by exfalso; first | omega | contradiction | exact absurd (by assumption) c_9 | (simp_all; done))
  refine g_iload_n (p0 := 16) (i := 2) dX10_messageOf_15 rfl rfl rfl ?_
  refine g_tabIn (tgt := 60) (off := 44) dX10_messageOf_16 (by decide) (by decide) (by decide +kernel) rfl ?_
  refine g_aload_n (p0 := 61) (i := 0) dX10_messageOf_60 rfl rfl rfl ?_
  refine g_iload_n (p0 := 62) (i := 1) dX10_messageOf_61 rfl rfl rfl ?_
  refine g_cV1R (p0 := 65) (r1 := mX10_longOf) dX10_messageOf_62 lX10_142 vX10_longOf (by first | rfl | assumption | exact RW.s (by assumption) | exact TW.s (by assumption)) ⟨_, _, rfl⟩ (FITi rfl rfl) (Nat.le_of_ble_eq_true rfl) (h _ hP) rfl ?_
  refine g_ireturn dX10_messageOf_65 rfl rfl (?_)
  exact ⟨rfl, hf.fq⟩
set_option maxRecDepth 20000 in
set_option maxHeartbeats 2000000 in
theorem mo_r1 {P : Sg → Prop} {m : Nat} {v : Int32} {σ : Sg} (hly : CM mX10_lays [ar 79] σ (RelV (fun σ' => P σ' ∧ FRl σ σ'))) (him : ∀ σ', P σ' → CM mX10_isMessage [ar 79, ai (nI m)] σ' (Ret (nI 1) σ')) (h : ∀ σ', P σ' → CM mX10_unreadable [ar 79, ai (nI m)] σ' (Ret v σ')) : CM mX10_messageOf [ar 79, ai (nI m), ai (nI 1)] σ (RPQ σ v) := by
  refine CM_in (ls := [some (ar 79), some (ai (nI m)), some (ai (nI 1))]) rfl ?_
  refine g_aload_n (p0 := 1) (i := 0) dX10_messageOf_0 rfl rfl rfl ?_
  refine g_cV0P (p0 := 4) (r1 := mX10_lays) dX10_messageOf_1 lX10_151 vX10_lays (by first | rfl | assumption | exact RW.s (by assumption) | exact TW.s (by assumption)) ⟨_, _, rfl⟩ (FITi rfl rfl) (Nat.le_of_ble_eq_true rfl) (hly) rfl ?_
  rintro σ1 ⟨hP, hf⟩
  refine g_aload_n (p0 := 5) (i := 0) dX10_messageOf_4 rfl rfl rfl ?_
  refine g_iload_n (p0 := 6) (i := 1) dX10_messageOf_5 rfl rfl rfl ?_
  refine g_cV1R (p0 := 9) (r1 := mX10_isMessage) dX10_messageOf_6 lX10_158 vX10_isMessage (by first | rfl | assumption | exact RW.s (by assumption) | exact TW.s (by assumption)) ⟨_, _, rfl⟩ (FITi rfl rfl) (Nat.le_of_ble_eq_true rfl) (him _ hP) rfl ?_
  first | ((with_reducible refine isN1 ?_); refine g_ifN_ne (tgt := 15) (p1 := 12) dX10_messageOf_9 rfl (by omega) rfl (fun c_9 => ?_) (fun c_9 => by exfalso; first | omega | contradiction | exact absurd (by assumption) c_9 | (simp_all; done))) | refine g_if_ne (tgt := 15) (p1 := 12) dX10_messageOf_9 rfl rfl (fun c_9 => ?_) (fun c_9 => by exfalso; first | omega | contradiction | exact absurd (by assumption) c_9 | (simp_all; done))
  refine g_iload_n (p0 := 16) (i := 2) dX10_messageOf_15 rfl rfl rfl ?_
  refine g_tabIn (tgt := 66) (off := 50) dX10_messageOf_16 (by decide) (by decide) (by decide +kernel) rfl ?_
  refine g_aload_n (p0 := 67) (i := 0) dX10_messageOf_66 rfl rfl rfl ?_
  refine g_iload_n (p0 := 68) (i := 1) dX10_messageOf_67 rfl rfl rfl ?_
  refine g_cV1R (p0 := 71) (r1 := mX10_unreadable) dX10_messageOf_68 lX10_161 vX10_unreadable (by first | rfl | assumption | exact RW.s (by assumption) | exact TW.s (by assumption)) ⟨_, _, rfl⟩ (FITi rfl rfl) (Nat.le_of_ble_eq_true rfl) (h _ hP) rfl ?_
  refine g_ireturn dX10_messageOf_71 rfl rfl (?_)
  exact ⟨rfl, hf.fq⟩
set_option maxRecDepth 20000 in
set_option maxHeartbeats 2000000 in
theorem mo_r2_0 {P : Sg → Prop} {m : Nat} {σ : Sg} (hly : CM mX10_lays [ar 79] σ (RelV (fun σ' => P σ' ∧ FRl σ σ'))) (him : ∀ σ', P σ' → CM mX10_isMessage [ar 79, ai (nI m)] σ' (Ret (nI 1) σ')) (h : ∀ σ', P σ' → CM mX10_isRight [ar 79, ai (nI m), ai (-1000004), ai (nI 0)] σ' (Ret (nI 0) σ')) : CM mX10_messageOf [ar 79, ai (nI m), ai (nI 2)] σ (RPQ σ (nI 0)) := by
  refine CM_in (ls := [some (ar 79), some (ai (nI m)), some (ai (nI 2))]) rfl ?_
  refine g_aload_n (p0 := 1) (i := 0) dX10_messageOf_0 rfl rfl rfl ?_
  refine g_cV0P (p0 := 4) (r1 := mX10_lays) dX10_messageOf_1 lX10_151 vX10_lays (by first | rfl | assumption | exact RW.s (by assumption) | exact TW.s (by assumption)) ⟨_, _, rfl⟩ (FITi rfl rfl) (Nat.le_of_ble_eq_true rfl) (hly) rfl ?_
  rintro σ1 ⟨hP, hf⟩
  refine g_aload_n (p0 := 5) (i := 0) dX10_messageOf_4 rfl rfl rfl ?_
  refine g_iload_n (p0 := 6) (i := 1) dX10_messageOf_5 rfl rfl rfl ?_
  refine g_cV1R (p0 := 9) (r1 := mX10_isMessage) dX10_messageOf_6 lX10_158 vX10_isMessage (by first | rfl | assumption | exact RW.s (by assumption) | exact TW.s (by assumption)) ⟨_, _, rfl⟩ (FITi rfl rfl) (Nat.le_of_ble_eq_true rfl) (him _ hP) rfl ?_
  first | ((with_reducible refine isN1 ?_); refine g_ifN_ne (tgt := 15) (p1 := 12) dX10_messageOf_9 rfl (by omega) rfl (fun c_9 => ?_) (fun c_9 => by exfalso; first | omega | contradiction | exact absurd (by assumption) c_9 | (simp_all; done))) | refine g_if_ne (tgt := 15) (p1 := 12) dX10_messageOf_9 rfl rfl (fun c_9 => ?_) (fun c_9 => by exfalso; first | omega | contradiction | exact absurd (by assumption) c_9 | (simp_all; done))
  refine g_iload_n (p0 := 16) (i := 2) dX10_messageOf_15 rfl rfl rfl ?_
  refine g_tabIn (tgt := 72) (off := 56) dX10_messageOf_16 (by decide) (by decide) (by decide +kernel) rfl ?_
  refine g_aload_n (p0 := 73) (i := 0) dX10_messageOf_72 rfl rfl rfl ?_
  refine g_iload_n (p0 := 74) (i := 1) dX10_messageOf_73 rfl rfl rfl ?_
  refine g_ldc (p0 := 76) dX10_messageOf_74 qX10_154 rfl ?_
  refine g_iconst (p0 := 77) (v := nI 0) dX10_messageOf_76 rfl rfl ?_
  refine g_cV3R (p0 := 80) (r1 := mX10_isRight) dX10_messageOf_77 lX10_155 vX10_isRight (by first | rfl | assumption | exact RW.s (by assumption) | exact TW.s (by assumption)) ⟨_, _, rfl⟩ (FITi rfl rfl) (Nat.le_of_ble_eq_true rfl) (h _ hP) rfl ?_
  first | ((with_reducible refine isN1 ?_); refine g_ifN_eq (tgt := 87) (p1 := 83) dX10_messageOf_80 rfl (by omega) rfl (fun c_80 => ?_) (fun c_80 => by exfalso; first | omega | contradiction | exact absurd (by assumption) c_80 | (simp_all; done))) | refine g_if_eq (tgt := 87) (p1 := 83) dX10_messageOf_80 rfl rfl (fun c_80 => ?_) (fun c_80 => by exfalso; first | omega | contradiction | exact absurd (by assumption) c_80 | (simp_all; done))
  refine g_iconst (p0 := 88) (v := nI 0) dX10_messageOf_87 rfl rfl ?_
  refine g_ireturn dX10_messageOf_88 rfl rfl (?_)
  exact ⟨rfl, hf.fq⟩
set_option maxRecDepth 20000 in
set_option maxHeartbeats 2000000 in
theorem mo_r2_1 {P : Sg → Prop} {m : Nat} {σ : Sg} (hly : CM mX10_lays [ar 79] σ (RelV (fun σ' => P σ' ∧ FRl σ σ'))) (him : ∀ σ', P σ' → CM mX10_isMessage [ar 79, ai (nI m)] σ' (Ret (nI 1) σ')) (h : ∀ σ', P σ' → CM mX10_isRight [ar 79, ai (nI m), ai (-1000004), ai (nI 0)] σ' (Ret (nI 1) σ')) : CM mX10_messageOf [ar 79, ai (nI m), ai (nI 2)] σ (RPQ σ (nI 1)) := by
  refine CM_in (ls := [some (ar 79), some (ai (nI m)), some (ai (nI 2))]) rfl ?_
  refine g_aload_n (p0 := 1) (i := 0) dX10_messageOf_0 rfl rfl rfl ?_
  refine g_cV0P (p0 := 4) (r1 := mX10_lays) dX10_messageOf_1 lX10_151 vX10_lays (by first | rfl | assumption | exact RW.s (by assumption) | exact TW.s (by assumption)) ⟨_, _, rfl⟩ (FITi rfl rfl) (Nat.le_of_ble_eq_true rfl) (hly) rfl ?_
  rintro σ1 ⟨hP, hf⟩
  refine g_aload_n (p0 := 5) (i := 0) dX10_messageOf_4 rfl rfl rfl ?_
  refine g_iload_n (p0 := 6) (i := 1) dX10_messageOf_5 rfl rfl rfl ?_
  refine g_cV1R (p0 := 9) (r1 := mX10_isMessage) dX10_messageOf_6 lX10_158 vX10_isMessage (by first | rfl | assumption | exact RW.s (by assumption) | exact TW.s (by assumption)) ⟨_, _, rfl⟩ (FITi rfl rfl) (Nat.le_of_ble_eq_true rfl) (him _ hP) rfl ?_
  first | ((with_reducible refine isN1 ?_); refine g_ifN_ne (tgt := 15) (p1 := 12) dX10_messageOf_9 rfl (by omega) rfl (fun c_9 => ?_) (fun c_9 => by exfalso; first | omega | contradiction | exact absurd (by assumption) c_9 | (simp_all; done))) | refine g_if_ne (tgt := 15) (p1 := 12) dX10_messageOf_9 rfl rfl (fun c_9 => ?_) (fun c_9 => by exfalso; first | omega | contradiction | exact absurd (by assumption) c_9 | (simp_all; done))
  refine g_iload_n (p0 := 16) (i := 2) dX10_messageOf_15 rfl rfl rfl ?_
  refine g_tabIn (tgt := 72) (off := 56) dX10_messageOf_16 (by decide) (by decide) (by decide +kernel) rfl ?_
  refine g_aload_n (p0 := 73) (i := 0) dX10_messageOf_72 rfl rfl rfl ?_
  refine g_iload_n (p0 := 74) (i := 1) dX10_messageOf_73 rfl rfl rfl ?_
  refine g_ldc (p0 := 76) dX10_messageOf_74 qX10_154 rfl ?_
  refine g_iconst (p0 := 77) (v := nI 0) dX10_messageOf_76 rfl rfl ?_
  refine g_cV3R (p0 := 80) (r1 := mX10_isRight) dX10_messageOf_77 lX10_155 vX10_isRight (by first | rfl | assumption | exact RW.s (by assumption) | exact TW.s (by assumption)) ⟨_, _, rfl⟩ (FITi rfl rfl) (Nat.le_of_ble_eq_true rfl) (h _ hP) rfl ?_
  first | ((with_reducible refine isN1 ?_); refine g_ifN_eq (tgt := 87) (p1 := 83) dX10_messageOf_80 rfl (by omega) rfl (fun c_80 => by exfalso; first | omega | contradiction | exact absurd (by assumption) c_80 | (simp_all; done)) (fun c_80 => ?_)) | refine g_if_eq (tgt := 87) (p1 := 83) dX10_messageOf_80 rfl rfl (fun c_80 => by exfalso; first | omega | contradiction | exact absurd (by assumption) c_80 | (simp_all; done)) (fun c_80 => ?_)
  refine g_iconst (p0 := 84) (v := nI 1) dX10_messageOf_83 rfl rfl ?_
  refine g_goto (tgt := 88) dX10_messageOf_84 rfl ?_
  refine g_ireturn dX10_messageOf_88 rfl rfl (?_)
  exact ⟨rfl, hf.fq⟩
set_option maxRecDepth 20000 in
set_option maxHeartbeats 2000000 in
theorem mo_r3 {P : Sg → Prop} {m : Nat} {v : Int32} {σ : Sg} (hly : CM mX10_lays [ar 79] σ (RelV (fun σ' => P σ' ∧ FRl σ σ'))) (him : ∀ σ', P σ' → CM mX10_isMessage [ar 79, ai (nI m)] σ' (Ret (nI 1) σ')) (hm : m < 160) (h : ∀ σ', P σ' → σ' 94 m = v) : CM mX10_messageOf [ar 79, ai (nI m), ai (nI 3)] σ (RPQ σ v) := by
  refine CM_in (ls := [some (ar 79), some (ai (nI m)), some (ai (nI 3))]) rfl ?_
  refine g_aload_n (p0 := 1) (i := 0) dX10_messageOf_0 rfl rfl rfl ?_
  refine g_cV0P (p0 := 4) (r1 := mX10_lays) dX10_messageOf_1 lX10_151 vX10_lays (by first | rfl | assumption | exact RW.s (by assumption) | exact TW.s (by assumption)) ⟨_, _, rfl⟩ (FITi rfl rfl) (Nat.le_of_ble_eq_true rfl) (hly) rfl ?_
  rintro σ1 ⟨hP, hf⟩
  have w := h σ1 hP
  refine g_aload_n (p0 := 5) (i := 0) dX10_messageOf_4 rfl rfl rfl ?_
  refine g_iload_n (p0 := 6) (i := 1) dX10_messageOf_5 rfl rfl rfl ?_
  refine g_cV1R (p0 := 9) (r1 := mX10_isMessage) dX10_messageOf_6 lX10_158 vX10_isMessage (by first | rfl | assumption | exact RW.s (by assumption) | exact TW.s (by assumption)) ⟨_, _, rfl⟩ (FITi rfl rfl) (Nat.le_of_ble_eq_true rfl) (him _ hP) rfl ?_
  first | ((with_reducible refine isN1 ?_); refine g_ifN_ne (tgt := 15) (p1 := 12) dX10_messageOf_9 rfl (by omega) rfl (fun c_9 => ?_) (fun c_9 => by exfalso; first | omega | contradiction | exact absurd (by assumption) c_9 | (simp_all; done))) | refine g_if_ne (tgt := 15) (p1 := 12) dX10_messageOf_9 rfl rfl (fun c_9 => ?_) (fun c_9 => by exfalso; first | omega | contradiction | exact absurd (by assumption) c_9 | (simp_all; done))
  refine g_iload_n (p0 := 16) (i := 2) dX10_messageOf_15 rfl rfl rfl ?_
  refine g_tabIn (tgt := 89) (off := 73) dX10_messageOf_16 (by decide) (by decide) (by decide +kernel) rfl ?_
  refine g_aload_n (p0 := 90) (i := 0) dX10_messageOf_89 rfl rfl rfl ?_
  refine g_getR (p0 := 93) dX10_messageOf_90 fX10_52 (by first | rfl | assumption | exact RW.s (by assumption) | exact TW.s (by assumption)) rfl rfl ?_
  refine g_iload_n (p0 := 94) (i := 1) dX10_messageOf_93 rfl rfl rfl ?_
  first | ((with_reducible refine isN1 ?_); refine g_aldN (p0 := 95) dX10_messageOf_94 (by first | rfl | assumption | exact RW.s (by assumption) | exact TW.s (by assumption)) (by first | decide | assumption) (by omega) (by first | assumption | ((repeat (first | exact up_hit | refine up_nv (by decide) ?_ | refine up_mv (by first | decide | omega) ?_)) <;> first | assumption | rfl)) rfl ?_) | refine g_ald (p0 := 95) dX10_messageOf_94 (by first | rfl | assumption | exact RW.s (by assumption) | exact TW.s (by assumption)) (by assumption) (by first | assumption | ((repeat (first | exact up_hit | refine up_nv (by decide) ?_ | refine up_mv (by first | decide | omega) ?_)) <;> first | assumption | rfl)) rfl ?_
  refine g_ireturn dX10_messageOf_95 rfl rfl (?_)
  exact ⟨rfl, hf.fq⟩
set_option maxRecDepth 20000 in
set_option maxHeartbeats 2000000 in
theorem mo_r5 {P : Sg → Prop} {m : Nat} {v : Int32} {σ : Sg} (hly : CM mX10_lays [ar 79] σ (RelV (fun σ' => P σ' ∧ FRl σ σ'))) (him : ∀ σ', P σ' → CM mX10_isMessage [ar 79, ai (nI m)] σ' (Ret (nI 1) σ')) (hm : m < 160) (h : ∀ σ', P σ' → σ' 93 m = v) : CM mX10_messageOf [ar 79, ai (nI m), ai (nI 5)] σ (RPQ σ v) := by
  refine CM_in (ls := [some (ar 79), some (ai (nI m)), some (ai (nI 5))]) rfl ?_
  refine g_aload_n (p0 := 1) (i := 0) dX10_messageOf_0 rfl rfl rfl ?_
  refine g_cV0P (p0 := 4) (r1 := mX10_lays) dX10_messageOf_1 lX10_151 vX10_lays (by first | rfl | assumption | exact RW.s (by assumption) | exact TW.s (by assumption)) ⟨_, _, rfl⟩ (FITi rfl rfl) (Nat.le_of_ble_eq_true rfl) (hly) rfl ?_
  rintro σ1 ⟨hP, hf⟩
  have w := h σ1 hP
  refine g_aload_n (p0 := 5) (i := 0) dX10_messageOf_4 rfl rfl rfl ?_
  refine g_iload_n (p0 := 6) (i := 1) dX10_messageOf_5 rfl rfl rfl ?_
  refine g_cV1R (p0 := 9) (r1 := mX10_isMessage) dX10_messageOf_6 lX10_158 vX10_isMessage (by first | rfl | assumption | exact RW.s (by assumption) | exact TW.s (by assumption)) ⟨_, _, rfl⟩ (FITi rfl rfl) (Nat.le_of_ble_eq_true rfl) (him _ hP) rfl ?_
  first | ((with_reducible refine isN1 ?_); refine g_ifN_ne (tgt := 15) (p1 := 12) dX10_messageOf_9 rfl (by omega) rfl (fun c_9 => ?_) (fun c_9 => by exfalso; first | omega | contradiction | exact absurd (by assumption) c_9 | (simp_all; done))) | refine g_if_ne (tgt := 15) (p1 := 12) dX10_messageOf_9 rfl rfl (fun c_9 => ?_) (fun c_9 => by exfalso; first | omega | contradiction | exact absurd (by assumption) c_9 | (simp_all; done))
  refine g_iload_n (p0 := 16) (i := 2) dX10_messageOf_15 rfl rfl rfl ?_
  refine g_tabIn (tgt := 104) (off := 88) dX10_messageOf_16 (by decide) (by decide) (by decide +kernel) rfl ?_
  refine g_aload_n (p0 := 105) (i := 0) dX10_messageOf_104 rfl rfl rfl ?_
  refine g_getR (p0 := 108) dX10_messageOf_105 fX10_49 (by first | rfl | assumption | exact RW.s (by assumption) | exact TW.s (by assumption)) rfl rfl ?_
  refine g_iload_n (p0 := 109) (i := 1) dX10_messageOf_108 rfl rfl rfl ?_
  first | ((with_reducible refine isN1 ?_); refine g_aldN (p0 := 110) dX10_messageOf_109 (by first | rfl | assumption | exact RW.s (by assumption) | exact TW.s (by assumption)) (by first | decide | assumption) (by omega) (by first | assumption | ((repeat (first | exact up_hit | refine up_nv (by decide) ?_ | refine up_mv (by first | decide | omega) ?_)) <;> first | assumption | rfl)) rfl ?_) | refine g_ald (p0 := 110) dX10_messageOf_109 (by first | rfl | assumption | exact RW.s (by assumption) | exact TW.s (by assumption)) (by assumption) (by first | assumption | ((repeat (first | exact up_hit | refine up_nv (by decide) ?_ | refine up_mv (by first | decide | omega) ?_)) <;> first | assumption | rfl)) rfl ?_
  refine g_ireturn dX10_messageOf_110 rfl rfl (?_)
  exact ⟨rfl, hf.fq⟩
set_option maxRecDepth 20000 in
set_option maxHeartbeats 2000000 in
theorem mo_r6 {P : Sg → Prop} {m : Nat} {v : Int32} {σ : Sg} (hly : CM mX10_lays [ar 79] σ (RelV (fun σ' => P σ' ∧ FRl σ σ'))) (him : ∀ σ', P σ' → CM mX10_isMessage [ar 79, ai (nI m)] σ' (Ret (nI 1) σ')) (hm : m < 160) (h : ∀ σ', P σ' → σ' 95 m = v) : CM mX10_messageOf [ar 79, ai (nI m), ai (nI 6)] σ (RPQ σ v) := by
  refine CM_in (ls := [some (ar 79), some (ai (nI m)), some (ai (nI 6))]) rfl ?_
  refine g_aload_n (p0 := 1) (i := 0) dX10_messageOf_0 rfl rfl rfl ?_
  refine g_cV0P (p0 := 4) (r1 := mX10_lays) dX10_messageOf_1 lX10_151 vX10_lays (by first | rfl | assumption | exact RW.s (by assumption) | exact TW.s (by assumption)) ⟨_, _, rfl⟩ (FITi rfl rfl) (Nat.le_of_ble_eq_true rfl) (hly) rfl ?_
  rintro σ1 ⟨hP, hf⟩
  have w := h σ1 hP
  refine g_aload_n (p0 := 5) (i := 0) dX10_messageOf_4 rfl rfl rfl ?_
  refine g_iload_n (p0 := 6) (i := 1) dX10_messageOf_5 rfl rfl rfl ?_
  refine g_cV1R (p0 := 9) (r1 := mX10_isMessage) dX10_messageOf_6 lX10_158 vX10_isMessage (by first | rfl | assumption | exact RW.s (by assumption) | exact TW.s (by assumption)) ⟨_, _, rfl⟩ (FITi rfl rfl) (Nat.le_of_ble_eq_true rfl) (him _ hP) rfl ?_
  first | ((with_reducible refine isN1 ?_); refine g_ifN_ne (tgt := 15) (p1 := 12) dX10_messageOf_9 rfl (by omega) rfl (fun c_9 => ?_) (fun c_9 => by exfalso; first | omega | contradiction | exact absurd (by assumption) c_9 | (simp_all; done))) | refine g_if_ne (tgt := 15) (p1 := 12) dX10_messageOf_9 rfl rfl (fun c_9 => ?_) (fun c_9 => by exfalso; first | omega | contradiction | exact absurd (by assumption) c_9 | (simp_all; done))
  refine g_iload_n (p0 := 16) (i := 2) dX10_messageOf_15 rfl rfl rfl ?_
  refine g_tabIn (tgt := 111) (off := 95) dX10_messageOf_16 (by decide) (by decide) (by decide +kernel) rfl ?_
  refine g_aload_n (p0 := 112) (i := 0) dX10_messageOf_111 rfl rfl rfl ?_
  refine g_getR (p0 := 115) dX10_messageOf_112 fX10_55 (by first | rfl | assumption | exact RW.s (by assumption) | exact TW.s (by assumption)) rfl rfl ?_
  refine g_iload_n (p0 := 116) (i := 1) dX10_messageOf_115 rfl rfl rfl ?_
  first | ((with_reducible refine isN1 ?_); refine g_aldN (p0 := 117) dX10_messageOf_116 (by first | rfl | assumption | exact RW.s (by assumption) | exact TW.s (by assumption)) (by first | decide | assumption) (by omega) (by first | assumption | ((repeat (first | exact up_hit | refine up_nv (by decide) ?_ | refine up_mv (by first | decide | omega) ?_)) <;> first | assumption | rfl)) rfl ?_) | refine g_ald (p0 := 117) dX10_messageOf_116 (by first | rfl | assumption | exact RW.s (by assumption) | exact TW.s (by assumption)) (by assumption) (by first | assumption | ((repeat (first | exact up_hit | refine up_nv (by decide) ?_ | refine up_mv (by first | decide | omega) ?_)) <;> first | assumption | rfl)) rfl ?_
  refine g_ireturn dX10_messageOf_117 rfl rfl (?_)
  exact ⟨rfl, hf.fq⟩
set_option maxRecDepth 20000 in
set_option maxHeartbeats 2000000 in
theorem mo_r4 {P : Sg → Prop} {m : Nat} {v : Int32} {σ : Sg} (hly : CM mX10_lays [ar 79] σ (RelV (fun σ' => P σ' ∧ FRl σ σ'))) (him : ∀ σ', P σ' → CM mX10_isMessage [ar 79, ai (nI m)] σ' (Ret (nI 1) σ')) (h : ∀ σ', P σ' → CM mX10_corrections [ar 79, ai (nI m), ai (-1000004)] σ' (RelI (fun u σ2 => u = v ∧ ∀ z, z ≠ 96 → σ2 z = σ' z))) : CM mX10_messageOf [ar 79, ai (nI m), ai (nI 4)] σ (RPQ σ v) := by
  refine CM_in (ls := [some (ar 79), some (ai (nI m)), some (ai (nI 4))]) rfl ?_
  refine g_aload_n (p0 := 1) (i := 0) dX10_messageOf_0 rfl rfl rfl ?_
  refine g_cV0P (p0 := 4) (r1 := mX10_lays) dX10_messageOf_1 lX10_151 vX10_lays (by first | rfl | assumption | exact RW.s (by assumption) | exact TW.s (by assumption)) ⟨_, _, rfl⟩ (FITi rfl rfl) (Nat.le_of_ble_eq_true rfl) (hly) rfl ?_
  rintro σ1 ⟨hP, hf⟩
  refine g_aload_n (p0 := 5) (i := 0) dX10_messageOf_4 rfl rfl rfl ?_
  refine g_iload_n (p0 := 6) (i := 1) dX10_messageOf_5 rfl rfl rfl ?_
  refine g_cV1R (p0 := 9) (r1 := mX10_isMessage) dX10_messageOf_6 lX10_158 vX10_isMessage (by first | rfl | assumption | exact RW.s (by assumption) | exact TW.s (by assumption)) ⟨_, _, rfl⟩ (FITi rfl rfl) (Nat.le_of_ble_eq_true rfl) (him _ hP) rfl ?_
  first | ((with_reducible refine isN1 ?_); refine g_ifN_ne (tgt := 15) (p1 := 12) dX10_messageOf_9 rfl (by omega) rfl (fun c_9 => ?_) (fun c_9 => by exfalso; first | omega | contradiction | exact absurd (by assumption) c_9 | (simp_all; done))) | refine g_if_ne (tgt := 15) (p1 := 12) dX10_messageOf_9 rfl rfl (fun c_9 => ?_) (fun c_9 => by exfalso; first | omega | contradiction | exact absurd (by assumption) c_9 | (simp_all; done))
  refine g_iload_n (p0 := 16) (i := 2) dX10_messageOf_15 rfl rfl rfl ?_
  refine g_tabIn (tgt := 96) (off := 80) dX10_messageOf_16 (by decide) (by decide) (by decide +kernel) rfl ?_
  refine g_aload_n (p0 := 97) (i := 0) dX10_messageOf_96 rfl rfl rfl ?_
  refine g_iload_n (p0 := 98) (i := 1) dX10_messageOf_97 rfl rfl rfl ?_
  refine g_ldc (p0 := 100) dX10_messageOf_98 qX10_154 rfl ?_
  refine g_cV2I (p0 := 103) (r1 := mX10_corrections) dX10_messageOf_100 lX10_164 vX10_corrections (by first | rfl | assumption | exact RW.s (by assumption) | exact TW.s (by assumption)) ⟨_, _, rfl⟩ (FITi rfl rfl) (Nat.le_of_ble_eq_true rfl) (h _ hP) rfl ?_
  rintro u σ2 ⟨rfl, hf2⟩
  refine g_ireturn dX10_messageOf_103 rfl rfl (?_)
  exact ⟨rfl, hf.fq.trans (FQ_96 hf2)⟩
theorem REF.pos {σ : Sg} {s M L : Nat} {c fs f n p d g a b : Nat → Nat} (hC : CLS σ s M L c fs f n p d g a b) : ∀ l, l < L → 1 ≤ a l ∧ (g l = 2 → 1 ≤ b l) ∧ g l < 500 ∧ a l < 500 ∧ b l < 500 := by
  intro l hl
  obtain ⟨⟨q1, q2, q3, q4, q5, q6⟩, _⟩ := hC.2.2 l hl
  exact ⟨q3, q5, q2, q4, q6⟩
theorem op_messageOf (x0 x1 : Int32) : OpOK Inv mX9_messageOf mX10_messageOf [ai x0, ai x1] := by
  intro σ hI
  obtain ⟨s, M, L, c, fs, f, n, p, d, g, a, b, hs, hs1, hC, hJ⟩ := JQ hI
  obtain ⟨⟨c1, c2, c3, k1, k2, k3⟩, cM, cL⟩ := id hC
  have hM1 : M ≤ 160 := by omega
  rcases msg_c hM1 x0 with ⟨m, hm, rfl⟩ | ⟨h1, h2⟩
  · obtain ⟨⟨n1, n2⟩, a1, a2, a3, a4, a5, a6, a7⟩ := cM m hm
    have him : ∀ σ' : Sg, REF σ' s M L c fs f n p d g a b (σ 42) (σ 44) → CM mX10_isMessage [ar 79, ai (nI m)] σ' (Ret (nI 1) σ') := fun σ' hP => isMessage_T hP.1.2.2.1 hM1 hm
    rcases i32c x1 with h | ⟨j, hj, rfl⟩
    · have h0 : x1.toInt < 0 ∨ 6 < x1.toInt := by
        rw [Int32.lt_iff_toInt_lt] at h
        exact Or.inl h
      exact op_ask hI (CPQ_of (mo_cx c1 hM1 hm h0)) (fun σ1 hf hI1 => mo_rx (hJ σ1 hf) him h0)
    · by_cases h7 : j < 7
      · have hc : j = 0 ∨ j = 1 ∨ j = 2 ∨ j = 3 ∨ j = 4 ∨ j = 5 ∨ j = 6 := by omega
        rcases hc with rfl | rfl | rfl | rfl | rfl | rfl | rfl
        · refine op_ask hI (CPQ_of (mo_c0 c1 hM1 hm a3)) (fun σ1 hf hI1 => mo_r0 (hJ σ1 hf) him (fun σ' hP => ?_))
          have h := longOf_sp (σ := σ') (by omega) (hP.2.1 m hm).2.1 (hP.2.1 m hm).2.2.1 (by omega)
          rw [Nat.add_sub_cancel_left] at h
          exact h
        · exact op_ask hI (CPQ_of (mo_c1 c1 hM1 hm a6)) (fun σ1 hf hI1 => mo_r1 (hJ σ1 hf) him (fun σ' hP => unreadable_sp hP.2.2.1 (by omega) (hP.2.1 m hm).2.1 (hP.2.1 m hm).2.2.1 (hP.2.1 m hm).2.2.2.1))
        · rcases cRight_sp (σ := σ) (m := m) (by omega) n1 a2 (by omega) a3 a6 a7 with ⟨h, k⟩ | ⟨h, k⟩
          · exact op_ask hI (CPQ_of (mo_c2_1 c1 hM1 hm k)) (fun σ1 hf hI1 => mo_r2_1 (hJ σ1 hf) him (fun σ' hP => rR_1 hP.2.2.1 (by omega) (hP.2.1 m hm).2.1 (hP.2.1 m hm).2.2.1 (hP.2.1 m hm).2.2.2.1 h))
          · refine op_ask hI (CPQ_of (mo_c2_0 c1 hM1 hm k)) (fun σ1 hf hI1 => mo_r2_0 (hJ σ1 hf) him (fun σ' hP => ?_))
            by_cases h2 : n m < 2
            · exact rR_0s hP.2.2.1 (by omega) (hP.2.1 m hm).2.1 (hP.2.1 m hm).2.2.1 (hP.2.1 m hm).2.2.2.1 h2
            · exact rR_0 hP.2.2.1 (by omega) (hP.2.1 m hm).2.1 (hP.2.1 m hm).2.2.1 (hP.2.1 m hm).2.2.2.1 (by omega) h
        · exact op_ask hI (CPQ_of (mo_c3 c1 hM1 hm a4)) (fun σ1 hf hI1 => mo_r3 (hJ σ1 hf) him (by omega) (fun σ' hP => (hP.2.1 m hm).2.2.2.2.1))
        · refine op_ask hI (mo_c4 c1 hM1 hm (fitting_sp hC hm)) (fun σ1 hf hI1 => mo_r4 (hJ σ1 hf) him (fun σ' hP => CM.mono (corrections_r hP (REF.pos hC) hm) ?_))
          rintro w σ2 ⟨u, rfl, h3, h4⟩
          exact ⟨u, rfl, h3, h4.1⟩
        · exact op_ask hI (CPQ_of (mo_c5 c1 hM1 hm a1)) (fun σ1 hf hI1 => mo_r5 (hJ σ1 hf) him (by omega) (fun σ' hP => (hP.2.1 m hm).1))
        · exact op_ask hI (CPQ_of (mo_c6 c1 hM1 hm a5)) (fun σ1 hf hI1 => mo_r6 (hJ σ1 hf) him (by omega) (fun σ' hP => (hP.2.1 m hm).2.2.2.2.2))
      · have h0 : (nI j).toInt < 0 ∨ 6 < (nI j).toInt := by
          rw [nI_toInt (by omega)]
          omega
        exact op_ask hI (CPQ_of (mo_cx c1 hM1 hm h0)) (fun σ1 hf hI1 => mo_rx (hJ σ1 hf) him h0)
  · exact op_ask hI (CPQ_of (mo_cF (h1 σ c1))) (fun σ1 hf hI1 => mo_rF (hJ σ1 hf) (fun σ' hP => h2 σ' hP.1.2.2.1))
