/-! isSo: table and counts, its contract -/
theorem mo_last {c : Nat → Nat} : ∀ k, 0 < Lc c k → mo c k (Lc c k - 1) + 1 = Mc c k ∨ c 0 ≠ 5
  | 0, h => absurd h (Nat.not_lt_zero 0)
  | k + 1, h => by
    by_cases h0 : c 0 = 5
    · left
      have hM := Mc_pos h0 k
      rw [Lc] at h ⊢
      rw [mo]
      by_cases h4 : 4 ≤ c k
      · rw [if_pos h4] at h ⊢
        rw [if_pos h4, Nat.add_sub_cancel, if_pos rfl]
        omega
      · rw [if_neg h4] at h ⊢
        rw [if_neg h4]
        have ih := (mo_last k h).resolve_right (fun q => q h0)
        rw [ih, Mc, if_neg (by omega)]
    · exact Or.inr h0
/-- class and law hold the same tower: settings, times and table of the row ρ, s strokes -/
def LI (σ : Sg) (ρ : Nat → Int32) (s : Nat) : Prop :=
  RowOK ρ s ∧ s ≤ 60 ∧ Rep σ 1 ρ s ∧ (∃ n H, HC σ n H) ∧ RDC σ ρ s ∧ (σ 79 0 = ρ 0 ∧ σ 79 1 = ρ 1 ∧ σ 79 2 = ρ 2 ∧ σ 79 3 = nI s) ∧ (∀ l, l < 25 → σ 81 l = ρ (4 + l)) ∧ (∀ k, k < s → σ 80 k = ρ (29 + k)) ∧ σ 76 1 = nI 0
set_option maxRecDepth 20000 in
set_option maxHeartbeats 2000000 in
theorem i3_loop {v11 v12 v14 v15 v16 v17 v18 : Int32} {e : Nat} {cf : Nat → Nat} {σ : Sg} {Q : SP} {x21 x22 x23 x24 x25 x26 x27 : Option AV} (hc : ∀ l, l < 25 → σ 5 l = nI (cf l) ∧ σ 81 l = nI (cf l) ∧ cf l < 25) (next : WM mL_isSo Q 948 [some (ar 0), some (ar 79), some (ar 80), some (ar 81), some (ar (e + 0)), some (ar (e + 1)), some (ar (e + 2)), some (ar (e + 3)), some (ar (e + 4)), some (ar (e + 5)), some (ar (e + 6)), some (ai v11), some (ai v12), some (ai (-1000004)), some (ai v14), some (ai v15), some (ai v16), some (ai v17), some (ai v18), some (ai (nI 1)), some (ai (nI 25)), x21, x22, x23, x24, x25, x26, x27] [] σ) : ∀ m k, k + m = 25 → WM mL_isSo Q 895 [some (ar 0), some (ar 79), some (ar 80), some (ar 81), some (ar (e + 0)), some (ar (e + 1)), some (ar (e + 2)), some (ar (e + 3)), some (ar (e + 4)), some (ar (e + 5)), some (ar (e + 6)), some (ai v11), some (ai v12), some (ai (-1000004)), some (ai v14), some (ai v15), some (ai v16), some (ai v17), some (ai v18), some (ai (nI 1)), some (ai (nI k)), x21, x22, x23, x24, x25, x26, x27] [] σ := by
  intro m
  induction m with
  | zero =>
    intro k hk
    obtain rfl : k = 25 := by omega
    refine g_iload (p0 := 897) dL_isSo_895 rfl rfl ?_
    refine g_bipush (p0 := 899) (v := nI 25) dL_isSo_897 (by decide) rfl ?_
    first | ((with_reducible refine isN2 ?_); refine g_icmpN_ge (tgt := 948) (p1 := 902) dL_isSo_899 rfl (by omega) (by omega) rfl (fun c_899 => ?_) (fun c_899 => by exfalso; first | exact c_899 rfl | omega | contradiction)) | refine g_icmp_ge (tgt := 948) (p1 := 902) dL_isSo_899 rfl rfl (fun c_899 => ?_) (fun c_899 => by exfalso; first | exact c_899 rfl | omega | contradiction)
    exact next
  | succ m ih =>
    intro k hk
    obtain ⟨h5, h81, hlt⟩ := hc k (by omega)
    have ihk := ih (k + 1) (by omega)
    refine g_iload (p0 := 897) dL_isSo_895 rfl rfl ?_
    refine g_bipush (p0 := 899) (v := nI 25) dL_isSo_897 (by decide) rfl ?_
    first | ((with_reducible refine isN2 ?_); refine g_icmpN_ge (tgt := 948) (p1 := 902) dL_isSo_899 rfl (by omega) (by omega) rfl (fun c_899 => by exfalso; first | exact c_899 rfl | omega | contradiction) (fun c_899 => ?_)) | refine g_icmp_ge (tgt := 948) (p1 := 902) dL_isSo_899 rfl rfl (fun c_899 => by exfalso; first | exact c_899 rfl | omega | contradiction) (fun c_899 => ?_)
    refine g_iload (p0 := 904) dL_isSo_902 rfl rfl ?_
    first | ((with_reducible refine isN1 ?_); refine g_ifN_eq (tgt := 948) (p1 := 907) dL_isSo_904 rfl (by omega) rfl (fun c_904 => by exfalso; first | exact c_904 rfl | omega | contradiction) (fun c_904 => ?_)) | refine g_if_eq (tgt := 948) (p1 := 907) dL_isSo_904 rfl rfl (fun c_904 => by exfalso; first | exact c_904 rfl | omega | contradiction) (fun c_904 => ?_)
    refine g_aload_n (p0 := 908) (i := 0) dL_isSo_907 rfl rfl rfl ?_
    refine g_iload (p0 := 910) dL_isSo_908 rfl rfl ?_
    refine g_cV1R (p0 := 913) (r1 := mX9_tableOf) dL_isSo_910 lL_103 vX9_tableOf (by first | rfl | assumption | exact RW.s (by assumption) | exact TW.s (by assumption)) ⟨_, _, rfl⟩ (FITi rfl rfl) (Nat.le_of_ble_eq_true rfl) (tableOf_cT (by omega) h5 hlt) rfl ?_
    refine g_bipush (p0 := 915) (v := nI 11) dL_isSo_913 (by decide) rfl ?_
    refine g_bipush (p0 := 917) (v := nI 10) dL_isSo_915 (by decide) rfl ?_
    refine g_aload_n (p0 := 918) (i := 3) dL_isSo_917 rfl rfl rfl ?_
    refine g_iload (p0 := 920) dL_isSo_918 rfl rfl ?_
    first | ((with_reducible refine isN1 ?_); refine g_aldN (p0 := 921) dL_isSo_920 (by first | rfl | assumption | exact RW.s (by assumption) | exact TW.s (by assumption)) (by first | decide | assumption) (by omega) (by first | assumption | ((repeat (first | exact up_hit | (apply up_nv; omega) | (apply up_mv; omega))) <;> first | assumption | rfl)) rfl ?_) | refine g_ald (p0 := 921) dL_isSo_920 (by first | rfl | assumption | exact RW.s (by assumption) | exact TW.s (by assumption)) (by assumption) (by first | assumption | ((repeat (first | exact up_hit | (apply up_nv; omega) | (apply up_mv; omega))) <;> first | assumption | rfl)) rfl ?_
    refine g_iconst (p0 := 922) (v := nI 5) dL_isSo_921 rfl rfl ?_
    first | ((with_reducible refine isN2 ?_); refine g_idivN (p0 := 923) dL_isSo_922 (by omega) (by omega) (by omega) rfl ?_) | refine g_idiv (p0 := 923) dL_isSo_922 (by decide) rfl ?_
    first | ((with_reducible refine isN2 ?_); refine g_imulN (p0 := 924) dL_isSo_923 rfl ?_) | refine g_imul (p0 := 924) dL_isSo_923 rfl ?_
    first | ((with_reducible refine isN2 ?_); refine g_iaddN (p0 := 925) dL_isSo_924 rfl ?_) | refine g_iadd (p0 := 925) dL_isSo_924 rfl ?_
    refine g_aload_n (p0 := 926) (i := 3) dL_isSo_925 rfl rfl rfl ?_
    refine g_iload (p0 := 928) dL_isSo_926 rfl rfl ?_
    first | ((with_reducible refine isN1 ?_); refine g_aldN (p0 := 929) dL_isSo_928 (by first | rfl | assumption | exact RW.s (by assumption) | exact TW.s (by assumption)) (by first | decide | assumption) (by omega) (by first | assumption | ((repeat (first | exact up_hit | (apply up_nv; omega) | (apply up_mv; omega))) <;> first | assumption | rfl)) rfl ?_) | refine g_ald (p0 := 929) dL_isSo_928 (by first | rfl | assumption | exact RW.s (by assumption) | exact TW.s (by assumption)) (by assumption) (by first | assumption | ((repeat (first | exact up_hit | (apply up_nv; omega) | (apply up_mv; omega))) <;> first | assumption | rfl)) rfl ?_
    refine g_iconst (p0 := 930) (v := nI 5) dL_isSo_929 rfl rfl ?_
    first | ((with_reducible refine isN2 ?_); refine g_iremN (p0 := 931) dL_isSo_930 (by omega) (by omega) (by omega) rfl ?_) | refine g_irem (p0 := 931) dL_isSo_930 (by decide) rfl ?_
    first | ((with_reducible refine isN2 ?_); refine g_iaddN (p0 := 932) dL_isSo_931 rfl ?_) | refine g_iadd (p0 := 932) dL_isSo_931 rfl ?_
    first | ((with_reducible refine isN2 ?_); refine g_icmpN_ne (tgt := 939) (p1 := 935) dL_isSo_932 rfl (by omega) (by omega) rfl (fun c_932 => by exfalso; first | exact c_932 rfl | omega | contradiction) (fun c_932 => ?_)) | refine g_icmp_ne (tgt := 939) (p1 := 935) dL_isSo_932 rfl rfl (fun c_932 => by exfalso; first | exact c_932 rfl | omega | contradiction) (fun c_932 => ?_)
    refine g_iconst (p0 := 936) (v := nI 1) dL_isSo_935 rfl rfl ?_
    refine g_goto (tgt := 940) dL_isSo_936 rfl ?_
    refine g_istore (p0 := 942) (i := 19) (ls2 := [_, _, _, _, _, _, _, _, _, _, _, _, _, _, _, _, _, _, _, _, _, _, _, _, _, _, _, _]) dL_isSo_940 (Nat.le_of_ble_eq_true rfl) rfl rfl ?_
    first | refine g_iinc1 (p0 := 945) (ls2 := [_, _, _, _, _, _, _, _, _, _, _, _, _, _, _, _, _, _, _, _, _, _, _, _, _, _, _, _]) dL_isSo_942 rfl rfl rfl ?_ | refine g_iinc (p0 := 945) (ls2 := [_, _, _, _, _, _, _, _, _, _, _, _, _, _, _, _, _, _, _, _, _, _, _, _, _, _, _, _]) dL_isSo_942 rfl rfl rfl rfl ?_
    refine g_goto (tgt := 895) dL_isSo_945 rfl ?_
    exact ihk
set_option maxRecDepth 20000 in
set_option maxHeartbeats 2000000 in
theorem iC_z {e s L M lo3 : Nat} {v3 v5 v6 v7 v8 v9 v20 v21 k20 : Int32} {x21 x22 x23 x24 x25 x26 x27 : Option AV} {σ : Sg} {Q : SP} (hs60 : s ≤ 60) (hs12 : σ 1 2 = nI s) (h793 : σ 79 3 = nI s) (b1 : σ 45 7 = nI M) (hM1 : M ≤ 160) (b2 : σ 34 5 = nI L) (b3 : σ 33 8 = nI lo3) (h3 : CM mX4_totalOf [ar 45, ar 56] σ (Ret v3 σ)) (h5 : CM mX4_totalOf [ar 45, ar 52] σ (Ret v5 σ)) (h6 : CM mX4_totalOf [ar 45, ar 54] σ (Ret v6 σ)) (h7 : CM mX6_rightOnes [ar 33] σ (Ret v7 σ)) (h8 : CM mX9_countOfState [ar 0, ai (nI 8)] σ (Ret v8 σ)) (h9 : CM mX9_countOfState [ar 0, ai (nI 9)] σ (Ret v9 σ)) (h792 : σ 79 2 = v8) (h11 : σ 76 1 = nI 0) (h20 : σ 1 3 = v20) (h790 : σ 79 0 = v20) (h21 : σ 1 4 = v21) (h791 : σ 79 1 = v21) (h0 : s = 0) (hv9 : v9 = -1000004) (next : Q (some (ai (nI 1))) σ) : WM mL_isSo Q 948 [some (ar 0), some (ar 79), some (ar 80), some (ar 81), some (ar (e + 0)), some (ar (e + 1)), some (ar (e + 2)), some (ar (e + 3)), some (ar (e + 4)), some (ar (e + 5)), some (ar (e + 6)), some (ai (nI L)), some (ai (nI M)), some (ai (-1000004)), some (ai v3), some (ai (nI lo3)), some (ai v5), some (ai v6), some (ai v7), some (ai (nI 1)), some (ai k20), x21, x22, x23, x24, x25, x26, x27] [] σ := by
  subst hv9
  refine g_iload (p0 := 950) dL_isSo_948 rfl rfl ?_
  first | ((with_reducible refine isN1 ?_); refine g_ifN_eq (tgt := 1040) (p1 := 953) dL_isSo_950 rfl (by omega) rfl (fun c_950 => by exfalso; first | exact c_950 rfl | omega | contradiction) (fun c_950 => ?_)) | refine g_if_eq (tgt := 1040) (p1 := 953) dL_isSo_950 rfl rfl (fun c_950 => by exfalso; first | exact c_950 rfl | omega | contradiction) (fun c_950 => ?_)
  refine g_aload_n (p0 := 954) (i := 0) dL_isSo_953 rfl rfl rfl ?_
  refine g_iconst (p0 := 955) (v := nI 0) dL_isSo_954 rfl rfl ?_
  refine g_cV1R (p0 := 958) (r1 := mX9_count) dL_isSo_955 lL_106 vX9_count (by first | rfl | assumption | exact RW.s (by assumption) | exact TW.s (by assumption)) ⟨_, _, rfl⟩ (FITi rfl rfl) (Nat.le_of_ble_eq_true rfl) (co_c0 hs12) rfl ?_
  refine g_aload_n (p0 := 959) (i := 1) dL_isSo_958 rfl rfl rfl ?_
  refine g_iconst (p0 := 960) (v := nI 3) dL_isSo_959 rfl rfl ?_
  first | ((with_reducible refine isN1 ?_); refine g_aldN (p0 := 961) dL_isSo_960 (by first | rfl | assumption | exact RW.s (by assumption) | exact TW.s (by assumption)) (by first | decide | assumption) (by omega) (by first | assumption | ((repeat (first | exact up_hit | (apply up_nv; omega) | (apply up_mv; omega))) <;> first | assumption | rfl)) rfl ?_) | refine g_ald (p0 := 961) dL_isSo_960 (by first | rfl | assumption | exact RW.s (by assumption) | exact TW.s (by assumption)) (by assumption) (by first | assumption | ((repeat (first | exact up_hit | (apply up_nv; omega) | (apply up_mv; omega))) <;> first | assumption | rfl)) rfl ?_
  first | ((with_reducible refine isN2 ?_); refine g_icmpN_ne (tgt := 1040) (p1 := 964) dL_isSo_961 rfl (by omega) (by omega) rfl (fun c_961 => by exfalso; first | exact c_961 rfl | omega | contradiction) (fun c_961 => ?_)) | refine g_icmp_ne (tgt := 1040) (p1 := 964) dL_isSo_961 rfl rfl (fun c_961 => by exfalso; first | exact c_961 rfl | omega | contradiction) (fun c_961 => ?_)
  refine g_aload_n (p0 := 965) (i := 0) dL_isSo_964 rfl rfl rfl ?_
  refine g_iconst (p0 := 966) (v := nI 1) dL_isSo_965 rfl rfl ?_
  refine g_cV1R (p0 := 969) (r1 := mX9_count) dL_isSo_966 lL_106 vX9_count (by first | rfl | assumption | exact RW.s (by assumption) | exact TW.s (by assumption)) ⟨_, _, rfl⟩ (FITi rfl rfl) (Nat.le_of_ble_eq_true rfl) (co_c1 b1) rfl ?_
  refine g_iload (p0 := 971) dL_isSo_969 rfl rfl ?_
  first | ((with_reducible refine isN2 ?_); refine g_icmpN_ne (tgt := 1040) (p1 := 974) dL_isSo_971 rfl (by omega) (by omega) rfl (fun c_971 => by exfalso; first | exact c_971 rfl | omega | contradiction) (fun c_971 => ?_)) | refine g_icmp_ne (tgt := 1040) (p1 := 974) dL_isSo_971 rfl rfl (fun c_971 => by exfalso; first | exact c_971 rfl | omega | contradiction) (fun c_971 => ?_)
  refine g_aload_n (p0 := 975) (i := 0) dL_isSo_974 rfl rfl rfl ?_
  refine g_iconst (p0 := 976) (v := nI 2) dL_isSo_975 rfl rfl ?_
  refine g_cV1R (p0 := 979) (r1 := mX9_count) dL_isSo_976 lL_106 vX9_count (by first | rfl | assumption | exact RW.s (by assumption) | exact TW.s (by assumption)) ⟨_, _, rfl⟩ (FITi rfl rfl) (Nat.le_of_ble_eq_true rfl) (co_c2 b2) rfl ?_
  refine g_iload (p0 := 981) dL_isSo_979 rfl rfl ?_
  first | ((with_reducible refine isN2 ?_); refine g_icmpN_ne (tgt := 1040) (p1 := 984) dL_isSo_981 rfl (by omega) (by omega) rfl (fun c_981 => by exfalso; first | exact c_981 rfl | omega | contradiction) (fun c_981 => ?_)) | refine g_icmp_ne (tgt := 1040) (p1 := 984) dL_isSo_981 rfl rfl (fun c_981 => by exfalso; first | exact c_981 rfl | omega | contradiction) (fun c_981 => ?_)
  refine g_aload_n (p0 := 985) (i := 0) dL_isSo_984 rfl rfl rfl ?_
  refine g_iconst (p0 := 986) (v := nI 3) dL_isSo_985 rfl rfl ?_
  refine g_cV1R (p0 := 989) (r1 := mX9_count) dL_isSo_986 lL_106 vX9_count (by first | rfl | assumption | exact RW.s (by assumption) | exact TW.s (by assumption)) ⟨_, _, rfl⟩ (FITi rfl rfl) (Nat.le_of_ble_eq_true rfl) (co_c3 h3) rfl ?_
  refine g_iload (p0 := 991) dL_isSo_989 rfl rfl ?_
  first | ((with_reducible refine isN2 ?_); refine g_icmpN_ne (tgt := 1040) (p1 := 994) dL_isSo_991 rfl (by omega) (by omega) rfl (fun c_991 => by exfalso; first | exact c_991 rfl | omega | contradiction) (fun c_991 => ?_)) | refine g_icmp_ne (tgt := 1040) (p1 := 994) dL_isSo_991 rfl rfl (fun c_991 => by exfalso; first | exact c_991 rfl | omega | contradiction) (fun c_991 => ?_)
  refine g_aload_n (p0 := 995) (i := 0) dL_isSo_994 rfl rfl rfl ?_
  refine g_iconst (p0 := 996) (v := nI 4) dL_isSo_995 rfl rfl ?_
  refine g_cV1R (p0 := 999) (r1 := mX9_count) dL_isSo_996 lL_106 vX9_count (by first | rfl | assumption | exact RW.s (by assumption) | exact TW.s (by assumption)) ⟨_, _, rfl⟩ (FITi rfl rfl) (Nat.le_of_ble_eq_true rfl) (co_c4 b3) rfl ?_
  refine g_iload (p0 := 1001) dL_isSo_999 rfl rfl ?_
  first | ((with_reducible refine isN2 ?_); refine g_icmpN_ne (tgt := 1040) (p1 := 1004) dL_isSo_1001 rfl (by omega) (by omega) rfl (fun c_1001 => by exfalso; first | exact c_1001 rfl | omega | contradiction) (fun c_1001 => ?_)) | refine g_icmp_ne (tgt := 1040) (p1 := 1004) dL_isSo_1001 rfl rfl (fun c_1001 => by exfalso; first | exact c_1001 rfl | omega | contradiction) (fun c_1001 => ?_)
  refine g_aload_n (p0 := 1005) (i := 0) dL_isSo_1004 rfl rfl rfl ?_
  refine g_iconst (p0 := 1006) (v := nI 5) dL_isSo_1005 rfl rfl ?_
  refine g_cV1R (p0 := 1009) (r1 := mX9_count) dL_isSo_1006 lL_106 vX9_count (by first | rfl | assumption | exact RW.s (by assumption) | exact TW.s (by assumption)) ⟨_, _, rfl⟩ (FITi rfl rfl) (Nat.le_of_ble_eq_true rfl) (co_c5 h5) rfl ?_
  refine g_iload (p0 := 1011) dL_isSo_1009 rfl rfl ?_
  first | ((with_reducible refine isN2 ?_); refine g_icmpN_ne (tgt := 1040) (p1 := 1014) dL_isSo_1011 rfl (by omega) (by omega) rfl (fun c_1011 => by exfalso; first | exact c_1011 rfl | omega | contradiction) (fun c_1011 => ?_)) | refine g_icmp_ne (tgt := 1040) (p1 := 1014) dL_isSo_1011 rfl rfl (fun c_1011 => by exfalso; first | exact c_1011 rfl | omega | contradiction) (fun c_1011 => ?_)
  refine g_aload_n (p0 := 1015) (i := 0) dL_isSo_1014 rfl rfl rfl ?_
  refine g_bipush (p0 := 1017) (v := nI 6) dL_isSo_1015 (by decide) rfl ?_
  refine g_cV1R (p0 := 1020) (r1 := mX9_count) dL_isSo_1017 lL_106 vX9_count (by first | rfl | assumption | exact RW.s (by assumption) | exact TW.s (by assumption)) ⟨_, _, rfl⟩ (FITi rfl rfl) (Nat.le_of_ble_eq_true rfl) (co_c6 h6) rfl ?_
  refine g_iload (p0 := 1022) dL_isSo_1020 rfl rfl ?_
  first | ((with_reducible refine isN2 ?_); refine g_icmpN_ne (tgt := 1040) (p1 := 1025) dL_isSo_1022 rfl (by omega) (by omega) rfl (fun c_1022 => by exfalso; first | exact c_1022 rfl | omega | contradiction) (fun c_1022 => ?_)) | refine g_icmp_ne (tgt := 1040) (p1 := 1025) dL_isSo_1022 rfl rfl (fun c_1022 => by exfalso; first | exact c_1022 rfl | omega | contradiction) (fun c_1022 => ?_)
  refine g_aload_n (p0 := 1026) (i := 0) dL_isSo_1025 rfl rfl rfl ?_
  refine g_bipush (p0 := 1028) (v := nI 7) dL_isSo_1026 (by decide) rfl ?_
  refine g_cV1R (p0 := 1031) (r1 := mX9_count) dL_isSo_1028 lL_106 vX9_count (by first | rfl | assumption | exact RW.s (by assumption) | exact TW.s (by assumption)) ⟨_, _, rfl⟩ (FITi rfl rfl) (Nat.le_of_ble_eq_true rfl) (co_c7 h7) rfl ?_
  refine g_iload (p0 := 1033) dL_isSo_1031 rfl rfl ?_
  first | ((with_reducible refine isN2 ?_); refine g_icmpN_ne (tgt := 1040) (p1 := 1036) dL_isSo_1033 rfl (by omega) (by omega) rfl (fun c_1033 => by exfalso; first | exact c_1033 rfl | omega | contradiction) (fun c_1033 => ?_)) | refine g_icmp_ne (tgt := 1040) (p1 := 1036) dL_isSo_1033 rfl rfl (fun c_1033 => by exfalso; first | exact c_1033 rfl | omega | contradiction) (fun c_1033 => ?_)
  refine g_iconst (p0 := 1037) (v := nI 1) dL_isSo_1036 rfl rfl ?_
  refine g_goto (tgt := 1041) dL_isSo_1037 rfl ?_
  refine g_istore (p0 := 1043) (i := 19) (ls2 := [_, _, _, _, _, _, _, _, _, _, _, _, _, _, _, _, _, _, _, _, _, _, _, _, _, _, _, _]) dL_isSo_1041 (Nat.le_of_ble_eq_true rfl) rfl rfl ?_
  refine g_iload (p0 := 1045) dL_isSo_1043 rfl rfl ?_
  first | ((with_reducible refine isN1 ?_); refine g_ifN_eq (tgt := 1136) (p1 := 1048) dL_isSo_1045 rfl (by omega) rfl (fun c_1045 => by exfalso; first | exact c_1045 rfl | omega | contradiction) (fun c_1045 => ?_)) | refine g_if_eq (tgt := 1136) (p1 := 1048) dL_isSo_1045 rfl rfl (fun c_1045 => by exfalso; first | exact c_1045 rfl | omega | contradiction) (fun c_1045 => ?_)
  refine g_aload_n (p0 := 1049) (i := 0) dL_isSo_1048 rfl rfl rfl ?_
  refine g_bipush (p0 := 1051) (v := nI 8) dL_isSo_1049 (by decide) rfl ?_
  refine g_cV1R (p0 := 1054) (r1 := mX9_count) dL_isSo_1051 lL_106 vX9_count (by first | rfl | assumption | exact RW.s (by assumption) | exact TW.s (by assumption)) ⟨_, _, rfl⟩ (FITi rfl rfl) (Nat.le_of_ble_eq_true rfl) (co_cs8 h8) rfl ?_
  refine g_aload_n (p0 := 1055) (i := 1) dL_isSo_1054 rfl rfl rfl ?_
  refine g_iconst (p0 := 1056) (v := nI 2) dL_isSo_1055 rfl rfl ?_
  first | ((with_reducible refine isN1 ?_); refine g_aldN (p0 := 1057) dL_isSo_1056 (by first | rfl | assumption | exact RW.s (by assumption) | exact TW.s (by assumption)) (by first | decide | assumption) (by omega) (by first | assumption | ((repeat (first | exact up_hit | (apply up_nv; omega) | (apply up_mv; omega))) <;> first | assumption | rfl)) rfl ?_) | refine g_ald (p0 := 1057) dL_isSo_1056 (by first | rfl | assumption | exact RW.s (by assumption) | exact TW.s (by assumption)) (by assumption) (by first | assumption | ((repeat (first | exact up_hit | (apply up_nv; omega) | (apply up_mv; omega))) <;> first | assumption | rfl)) rfl ?_
  first | ((with_reducible refine isN2 ?_); refine g_icmpN_ne (tgt := 1136) (p1 := 1060) dL_isSo_1057 rfl (by omega) (by omega) rfl (fun c_1057 => by exfalso; first | exact c_1057 rfl | omega | contradiction) (fun c_1057 => ?_)) | refine g_icmp_ne (tgt := 1136) (p1 := 1060) dL_isSo_1057 rfl rfl (fun c_1057 => by exfalso; first | exact c_1057 rfl | omega | contradiction) (fun c_1057 => ?_)
  refine g_aload_n (p0 := 1061) (i := 0) dL_isSo_1060 rfl rfl rfl ?_
  refine g_bipush (p0 := 1063) (v := nI 9) dL_isSo_1061 (by decide) rfl ?_
  refine g_cV1R (p0 := 1066) (r1 := mX9_count) dL_isSo_1063 lL_106 vX9_count (by first | rfl | assumption | exact RW.s (by assumption) | exact TW.s (by assumption)) ⟨_, _, rfl⟩ (FITi rfl rfl) (Nat.le_of_ble_eq_true rfl) (co_cs9 h9) rfl ?_
  refine g_aload_n (p0 := 1067) (i := 1) dL_isSo_1066 rfl rfl rfl ?_
  refine g_iconst (p0 := 1068) (v := nI 3) dL_isSo_1067 rfl rfl ?_
  first | ((with_reducible refine isN1 ?_); refine g_aldN (p0 := 1069) dL_isSo_1068 (by first | rfl | assumption | exact RW.s (by assumption) | exact TW.s (by assumption)) (by first | decide | assumption) (by omega) (by first | assumption | ((repeat (first | exact up_hit | (apply up_nv; omega) | (apply up_mv; omega))) <;> first | assumption | rfl)) rfl ?_) | refine g_ald (p0 := 1069) dL_isSo_1068 (by first | rfl | assumption | exact RW.s (by assumption) | exact TW.s (by assumption)) (by assumption) (by first | assumption | ((repeat (first | exact up_hit | (apply up_nv; omega) | (apply up_mv; omega))) <;> first | assumption | rfl)) rfl ?_
  first | ((with_reducible refine isN1 ?_); refine g_ifN_ne (tgt := 1077) (p1 := 1072) dL_isSo_1069 rfl (by omega) rfl (fun c_1069 => by exfalso; first | exact c_1069 rfl | omega | contradiction) (fun c_1069 => ?_)) | refine g_if_ne (tgt := 1077) (p1 := 1072) dL_isSo_1069 rfl rfl (fun c_1069 => by exfalso; first | exact c_1069 rfl | omega | contradiction) (fun c_1069 => ?_)
  refine g_iload (p0 := 1074) dL_isSo_1072 rfl rfl ?_
  refine g_goto (tgt := 1084) dL_isSo_1074 rfl ?_
  first | ((with_reducible refine isN2 ?_); refine g_icmpN_ne (tgt := 1136) (p1 := 1087) dL_isSo_1084 rfl (by omega) (by omega) rfl (fun c_1084 => by exfalso; first | exact c_1084 rfl | omega | contradiction) (fun c_1084 => ?_)) | refine g_icmp_ne (tgt := 1136) (p1 := 1087) dL_isSo_1084 rfl rfl (fun c_1084 => by exfalso; first | exact c_1084 rfl | omega | contradiction) (fun c_1084 => ?_)
  refine g_aload_n (p0 := 1088) (i := 0) dL_isSo_1087 rfl rfl rfl ?_
  refine g_bipush (p0 := 1090) (v := nI 11) dL_isSo_1088 (by decide) rfl ?_
  refine g_cV1R (p0 := 1093) (r1 := mX9_count) dL_isSo_1090 lL_106 vX9_count (by first | rfl | assumption | exact RW.s (by assumption) | exact TW.s (by assumption)) ⟨_, _, rfl⟩ (FITi rfl rfl) (Nat.le_of_ble_eq_true rfl) (co_cs11 (cs_11 h11)) rfl ?_
  first | ((with_reducible refine isN1 ?_); refine g_ifN_ne (tgt := 1136) (p1 := 1096) dL_isSo_1093 rfl (by omega) rfl (fun c_1093 => by exfalso; first | exact c_1093 rfl | omega | contradiction) (fun c_1093 => ?_)) | refine g_if_ne (tgt := 1136) (p1 := 1096) dL_isSo_1093 rfl rfl (fun c_1093 => by exfalso; first | exact c_1093 rfl | omega | contradiction) (fun c_1093 => ?_)
  refine g_aload_n (p0 := 1097) (i := 0) dL_isSo_1096 rfl rfl rfl ?_
  refine g_bipush (p0 := 1099) (v := nI 20) dL_isSo_1097 (by decide) rfl ?_
  refine g_cV1R (p0 := 1102) (r1 := mX9_count) dL_isSo_1099 lL_106 vX9_count (by first | rfl | assumption | exact RW.s (by assumption) | exact TW.s (by assumption)) ⟨_, _, rfl⟩ (FITi rfl rfl) (Nat.le_of_ble_eq_true rfl) (co_cs20 (cs_20 h20)) rfl ?_
  refine g_aload_n (p0 := 1103) (i := 1) dL_isSo_1102 rfl rfl rfl ?_
  refine g_iconst (p0 := 1104) (v := nI 0) dL_isSo_1103 rfl rfl ?_
  first | ((with_reducible refine isN1 ?_); refine g_aldN (p0 := 1105) dL_isSo_1104 (by first | rfl | assumption | exact RW.s (by assumption) | exact TW.s (by assumption)) (by first | decide | assumption) (by omega) (by first | assumption | ((repeat (first | exact up_hit | (apply up_nv; omega) | (apply up_mv; omega))) <;> first | assumption | rfl)) rfl ?_) | refine g_ald (p0 := 1105) dL_isSo_1104 (by first | rfl | assumption | exact RW.s (by assumption) | exact TW.s (by assumption)) (by assumption) (by first | assumption | ((repeat (first | exact up_hit | (apply up_nv; omega) | (apply up_mv; omega))) <;> first | assumption | rfl)) rfl ?_
  first | ((with_reducible refine isN2 ?_); refine g_icmpN_ne (tgt := 1136) (p1 := 1108) dL_isSo_1105 rfl (by omega) (by omega) rfl (fun c_1105 => by exfalso; first | exact c_1105 rfl | omega | contradiction) (fun c_1105 => ?_)) | refine g_icmp_ne (tgt := 1136) (p1 := 1108) dL_isSo_1105 rfl rfl (fun c_1105 => by exfalso; first | exact c_1105 rfl | omega | contradiction) (fun c_1105 => ?_)
  refine g_aload_n (p0 := 1109) (i := 0) dL_isSo_1108 rfl rfl rfl ?_
  refine g_bipush (p0 := 1111) (v := nI 21) dL_isSo_1109 (by decide) rfl ?_
  refine g_cV1R (p0 := 1114) (r1 := mX9_count) dL_isSo_1111 lL_106 vX9_count (by first | rfl | assumption | exact RW.s (by assumption) | exact TW.s (by assumption)) ⟨_, _, rfl⟩ (FITi rfl rfl) (Nat.le_of_ble_eq_true rfl) (co_cs21 (cs_21 h21)) rfl ?_
  refine g_aload_n (p0 := 1115) (i := 1) dL_isSo_1114 rfl rfl rfl ?_
  refine g_iconst (p0 := 1116) (v := nI 1) dL_isSo_1115 rfl rfl ?_
  first | ((with_reducible refine isN1 ?_); refine g_aldN (p0 := 1117) dL_isSo_1116 (by first | rfl | assumption | exact RW.s (by assumption) | exact TW.s (by assumption)) (by first | decide | assumption) (by omega) (by first | assumption | ((repeat (first | exact up_hit | (apply up_nv; omega) | (apply up_mv; omega))) <;> first | assumption | rfl)) rfl ?_) | refine g_ald (p0 := 1117) dL_isSo_1116 (by first | rfl | assumption | exact RW.s (by assumption) | exact TW.s (by assumption)) (by assumption) (by first | assumption | ((repeat (first | exact up_hit | (apply up_nv; omega) | (apply up_mv; omega))) <;> first | assumption | rfl)) rfl ?_
  first | ((with_reducible refine isN2 ?_); refine g_icmpN_ne (tgt := 1136) (p1 := 1120) dL_isSo_1117 rfl (by omega) (by omega) rfl (fun c_1117 => by exfalso; first | exact c_1117 rfl | omega | contradiction) (fun c_1117 => ?_)) | refine g_icmp_ne (tgt := 1136) (p1 := 1120) dL_isSo_1117 rfl rfl (fun c_1117 => by exfalso; first | exact c_1117 rfl | omega | contradiction) (fun c_1117 => ?_)
  refine g_aload_n (p0 := 1121) (i := 0) dL_isSo_1120 rfl rfl rfl ?_
  refine g_iload (p0 := 1123) dL_isSo_1121 rfl rfl ?_
  refine g_iconst (p0 := 1124) (v := nI 0) dL_isSo_1123 rfl rfl ?_
  refine g_cV2R (p0 := 1127) (r1 := mX9_messageOf) dL_isSo_1124 lL_100 vX9_messageOf (by first | rfl | assumption | exact RW.s (by assumption) | exact TW.s (by assumption)) ⟨_, _, rfl⟩ (FITi rfl rfl) (Nat.le_of_ble_eq_true rfl) (mo_cF (hasMessage_F2 b1 hM1 (Nat.le_refl _) (by omega))) rfl ?_
  refine g_ldc (p0 := 1129) dL_isSo_1127 qL_51 rfl ?_
  first | ((with_reducible refine isN2 ?_); refine g_icmpN_ne (tgt := 1136) (p1 := 1132) dL_isSo_1129 rfl (by omega) (by omega) rfl (fun c_1129 => by exfalso; first | exact c_1129 rfl | omega | contradiction) (fun c_1129 => ?_)) | refine g_icmp_ne (tgt := 1136) (p1 := 1132) dL_isSo_1129 rfl rfl (fun c_1129 => by exfalso; first | exact c_1129 rfl | omega | contradiction) (fun c_1129 => ?_)
  refine g_iconst (p0 := 1133) (v := nI 1) dL_isSo_1132 rfl rfl ?_
  refine g_goto (tgt := 1137) dL_isSo_1133 rfl ?_
  refine g_ireturn dL_isSo_1137 rfl (by first | rfl | exact bool_narrow (by first | exact Or.inl rfl | exact Or.inr rfl | assumption | (split <;> first | exact Or.inl rfl | exact Or.inr rfl))) (?_)
  exact next
set_option maxRecDepth 20000 in
set_option maxHeartbeats 2000000 in
theorem iC_p {e s L M lo3 : Nat} {v3 v5 v6 v7 v8 v9 v20 v21 k20 : Int32} {x21 x22 x23 x24 x25 x26 x27 : Option AV} {σ : Sg} {Q : SP} (hs60 : s ≤ 60) (hs12 : σ 1 2 = nI s) (h793 : σ 79 3 = nI s) (b1 : σ 45 7 = nI M) (hM1 : M ≤ 160) (b2 : σ 34 5 = nI L) (b3 : σ 33 8 = nI lo3) (h3 : CM mX4_totalOf [ar 45, ar 56] σ (Ret v3 σ)) (h5 : CM mX4_totalOf [ar 45, ar 52] σ (Ret v5 σ)) (h6 : CM mX4_totalOf [ar 45, ar 54] σ (Ret v6 σ)) (h7 : CM mX6_rightOnes [ar 33] σ (Ret v7 σ)) (h8 : CM mX9_countOfState [ar 0, ai (nI 8)] σ (Ret v8 σ)) (h9 : CM mX9_countOfState [ar 0, ai (nI 9)] σ (Ret v9 σ)) (h792 : σ 79 2 = v8) (h11 : σ 76 1 = nI 0) (h20 : σ 1 3 = v20) (h790 : σ 79 0 = v20) (h21 : σ 1 4 = v21) (h791 : σ 79 1 = v21) (h0 : 0 < s) (h80 : σ 80 (s - 1) = v9) (next : Q (some (ai (nI 1))) σ) : WM mL_isSo Q 948 [some (ar 0), some (ar 79), some (ar 80), some (ar 81), some (ar (e + 0)), some (ar (e + 1)), some (ar (e + 2)), some (ar (e + 3)), some (ar (e + 4)), some (ar (e + 5)), some (ar (e + 6)), some (ai (nI L)), some (ai (nI M)), some (ai (-1000004)), some (ai v3), some (ai (nI lo3)), some (ai v5), some (ai v6), some (ai v7), some (ai (nI 1)), some (ai k20), x21, x22, x23, x24, x25, x26, x27] [] σ := by
  refine g_iload (p0 := 950) dL_isSo_948 rfl rfl ?_
  first | ((with_reducible refine isN1 ?_); refine g_ifN_eq (tgt := 1040) (p1 := 953) dL_isSo_950 rfl (by omega) rfl (fun c_950 => by exfalso; first | exact c_950 rfl | omega | contradiction) (fun c_950 => ?_)) | refine g_if_eq (tgt := 1040) (p1 := 953) dL_isSo_950 rfl rfl (fun c_950 => by exfalso; first | exact c_950 rfl | omega | contradiction) (fun c_950 => ?_)
  refine g_aload_n (p0 := 954) (i := 0) dL_isSo_953 rfl rfl rfl ?_
  refine g_iconst (p0 := 955) (v := nI 0) dL_isSo_954 rfl rfl ?_
  refine g_cV1R (p0 := 958) (r1 := mX9_count) dL_isSo_955 lL_106 vX9_count (by first | rfl | assumption | exact RW.s (by assumption) | exact TW.s (by assumption)) ⟨_, _, rfl⟩ (FITi rfl rfl) (Nat.le_of_ble_eq_true rfl) (co_c0 hs12) rfl ?_
  refine g_aload_n (p0 := 959) (i := 1) dL_isSo_958 rfl rfl rfl ?_
  refine g_iconst (p0 := 960) (v := nI 3) dL_isSo_959 rfl rfl ?_
  first | ((with_reducible refine isN1 ?_); refine g_aldN (p0 := 961) dL_isSo_960 (by first | rfl | assumption | exact RW.s (by assumption) | exact TW.s (by assumption)) (by first | decide | assumption) (by omega) (by first | assumption | ((repeat (first | exact up_hit | (apply up_nv; omega) | (apply up_mv; omega))) <;> first | assumption | rfl)) rfl ?_) | refine g_ald (p0 := 961) dL_isSo_960 (by first | rfl | assumption | exact RW.s (by assumption) | exact TW.s (by assumption)) (by assumption) (by first | assumption | ((repeat (first | exact up_hit | (apply up_nv; omega) | (apply up_mv; omega))) <;> first | assumption | rfl)) rfl ?_
  first | ((with_reducible refine isN2 ?_); refine g_icmpN_ne (tgt := 1040) (p1 := 964) dL_isSo_961 rfl (by omega) (by omega) rfl (fun c_961 => by exfalso; first | exact c_961 rfl | omega | contradiction) (fun c_961 => ?_)) | refine g_icmp_ne (tgt := 1040) (p1 := 964) dL_isSo_961 rfl rfl (fun c_961 => by exfalso; first | exact c_961 rfl | omega | contradiction) (fun c_961 => ?_)
  refine g_aload_n (p0 := 965) (i := 0) dL_isSo_964 rfl rfl rfl ?_
  refine g_iconst (p0 := 966) (v := nI 1) dL_isSo_965 rfl rfl ?_
  refine g_cV1R (p0 := 969) (r1 := mX9_count) dL_isSo_966 lL_106 vX9_count (by first | rfl | assumption | exact RW.s (by assumption) | exact TW.s (by assumption)) ⟨_, _, rfl⟩ (FITi rfl rfl) (Nat.le_of_ble_eq_true rfl) (co_c1 b1) rfl ?_
  refine g_iload (p0 := 971) dL_isSo_969 rfl rfl ?_
  first | ((with_reducible refine isN2 ?_); refine g_icmpN_ne (tgt := 1040) (p1 := 974) dL_isSo_971 rfl (by omega) (by omega) rfl (fun c_971 => by exfalso; first | exact c_971 rfl | omega | contradiction) (fun c_971 => ?_)) | refine g_icmp_ne (tgt := 1040) (p1 := 974) dL_isSo_971 rfl rfl (fun c_971 => by exfalso; first | exact c_971 rfl | omega | contradiction) (fun c_971 => ?_)
  refine g_aload_n (p0 := 975) (i := 0) dL_isSo_974 rfl rfl rfl ?_
  refine g_iconst (p0 := 976) (v := nI 2) dL_isSo_975 rfl rfl ?_
  refine g_cV1R (p0 := 979) (r1 := mX9_count) dL_isSo_976 lL_106 vX9_count (by first | rfl | assumption | exact RW.s (by assumption) | exact TW.s (by assumption)) ⟨_, _, rfl⟩ (FITi rfl rfl) (Nat.le_of_ble_eq_true rfl) (co_c2 b2) rfl ?_
  refine g_iload (p0 := 981) dL_isSo_979 rfl rfl ?_
  first | ((with_reducible refine isN2 ?_); refine g_icmpN_ne (tgt := 1040) (p1 := 984) dL_isSo_981 rfl (by omega) (by omega) rfl (fun c_981 => by exfalso; first | exact c_981 rfl | omega | contradiction) (fun c_981 => ?_)) | refine g_icmp_ne (tgt := 1040) (p1 := 984) dL_isSo_981 rfl rfl (fun c_981 => by exfalso; first | exact c_981 rfl | omega | contradiction) (fun c_981 => ?_)
  refine g_aload_n (p0 := 985) (i := 0) dL_isSo_984 rfl rfl rfl ?_
  refine g_iconst (p0 := 986) (v := nI 3) dL_isSo_985 rfl rfl ?_
  refine g_cV1R (p0 := 989) (r1 := mX9_count) dL_isSo_986 lL_106 vX9_count (by first | rfl | assumption | exact RW.s (by assumption) | exact TW.s (by assumption)) ⟨_, _, rfl⟩ (FITi rfl rfl) (Nat.le_of_ble_eq_true rfl) (co_c3 h3) rfl ?_
  refine g_iload (p0 := 991) dL_isSo_989 rfl rfl ?_
  first | ((with_reducible refine isN2 ?_); refine g_icmpN_ne (tgt := 1040) (p1 := 994) dL_isSo_991 rfl (by omega) (by omega) rfl (fun c_991 => by exfalso; first | exact c_991 rfl | omega | contradiction) (fun c_991 => ?_)) | refine g_icmp_ne (tgt := 1040) (p1 := 994) dL_isSo_991 rfl rfl (fun c_991 => by exfalso; first | exact c_991 rfl | omega | contradiction) (fun c_991 => ?_)
  refine g_aload_n (p0 := 995) (i := 0) dL_isSo_994 rfl rfl rfl ?_
  refine g_iconst (p0 := 996) (v := nI 4) dL_isSo_995 rfl rfl ?_
  refine g_cV1R (p0 := 999) (r1 := mX9_count) dL_isSo_996 lL_106 vX9_count (by first | rfl | assumption | exact RW.s (by assumption) | exact TW.s (by assumption)) ⟨_, _, rfl⟩ (FITi rfl rfl) (Nat.le_of_ble_eq_true rfl) (co_c4 b3) rfl ?_
  refine g_iload (p0 := 1001) dL_isSo_999 rfl rfl ?_
  first | ((with_reducible refine isN2 ?_); refine g_icmpN_ne (tgt := 1040) (p1 := 1004) dL_isSo_1001 rfl (by omega) (by omega) rfl (fun c_1001 => by exfalso; first | exact c_1001 rfl | omega | contradiction) (fun c_1001 => ?_)) | refine g_icmp_ne (tgt := 1040) (p1 := 1004) dL_isSo_1001 rfl rfl (fun c_1001 => by exfalso; first | exact c_1001 rfl | omega | contradiction) (fun c_1001 => ?_)
  refine g_aload_n (p0 := 1005) (i := 0) dL_isSo_1004 rfl rfl rfl ?_
  refine g_iconst (p0 := 1006) (v := nI 5) dL_isSo_1005 rfl rfl ?_
  refine g_cV1R (p0 := 1009) (r1 := mX9_count) dL_isSo_1006 lL_106 vX9_count (by first | rfl | assumption | exact RW.s (by assumption) | exact TW.s (by assumption)) ⟨_, _, rfl⟩ (FITi rfl rfl) (Nat.le_of_ble_eq_true rfl) (co_c5 h5) rfl ?_
  refine g_iload (p0 := 1011) dL_isSo_1009 rfl rfl ?_
  first | ((with_reducible refine isN2 ?_); refine g_icmpN_ne (tgt := 1040) (p1 := 1014) dL_isSo_1011 rfl (by omega) (by omega) rfl (fun c_1011 => by exfalso; first | exact c_1011 rfl | omega | contradiction) (fun c_1011 => ?_)) | refine g_icmp_ne (tgt := 1040) (p1 := 1014) dL_isSo_1011 rfl rfl (fun c_1011 => by exfalso; first | exact c_1011 rfl | omega | contradiction) (fun c_1011 => ?_)
  refine g_aload_n (p0 := 1015) (i := 0) dL_isSo_1014 rfl rfl rfl ?_
  refine g_bipush (p0 := 1017) (v := nI 6) dL_isSo_1015 (by decide) rfl ?_
  refine g_cV1R (p0 := 1020) (r1 := mX9_count) dL_isSo_1017 lL_106 vX9_count (by first | rfl | assumption | exact RW.s (by assumption) | exact TW.s (by assumption)) ⟨_, _, rfl⟩ (FITi rfl rfl) (Nat.le_of_ble_eq_true rfl) (co_c6 h6) rfl ?_
  refine g_iload (p0 := 1022) dL_isSo_1020 rfl rfl ?_
  first | ((with_reducible refine isN2 ?_); refine g_icmpN_ne (tgt := 1040) (p1 := 1025) dL_isSo_1022 rfl (by omega) (by omega) rfl (fun c_1022 => by exfalso; first | exact c_1022 rfl | omega | contradiction) (fun c_1022 => ?_)) | refine g_icmp_ne (tgt := 1040) (p1 := 1025) dL_isSo_1022 rfl rfl (fun c_1022 => by exfalso; first | exact c_1022 rfl | omega | contradiction) (fun c_1022 => ?_)
  refine g_aload_n (p0 := 1026) (i := 0) dL_isSo_1025 rfl rfl rfl ?_
  refine g_bipush (p0 := 1028) (v := nI 7) dL_isSo_1026 (by decide) rfl ?_
  refine g_cV1R (p0 := 1031) (r1 := mX9_count) dL_isSo_1028 lL_106 vX9_count (by first | rfl | assumption | exact RW.s (by assumption) | exact TW.s (by assumption)) ⟨_, _, rfl⟩ (FITi rfl rfl) (Nat.le_of_ble_eq_true rfl) (co_c7 h7) rfl ?_
  refine g_iload (p0 := 1033) dL_isSo_1031 rfl rfl ?_
  first | ((with_reducible refine isN2 ?_); refine g_icmpN_ne (tgt := 1040) (p1 := 1036) dL_isSo_1033 rfl (by omega) (by omega) rfl (fun c_1033 => by exfalso; first | exact c_1033 rfl | omega | contradiction) (fun c_1033 => ?_)) | refine g_icmp_ne (tgt := 1040) (p1 := 1036) dL_isSo_1033 rfl rfl (fun c_1033 => by exfalso; first | exact c_1033 rfl | omega | contradiction) (fun c_1033 => ?_)
  refine g_iconst (p0 := 1037) (v := nI 1) dL_isSo_1036 rfl rfl ?_
  refine g_goto (tgt := 1041) dL_isSo_1037 rfl ?_
  refine g_istore (p0 := 1043) (i := 19) (ls2 := [_, _, _, _, _, _, _, _, _, _, _, _, _, _, _, _, _, _, _, _, _, _, _, _, _, _, _, _]) dL_isSo_1041 (Nat.le_of_ble_eq_true rfl) rfl rfl ?_
  refine g_iload (p0 := 1045) dL_isSo_1043 rfl rfl ?_
  first | ((with_reducible refine isN1 ?_); refine g_ifN_eq (tgt := 1136) (p1 := 1048) dL_isSo_1045 rfl (by omega) rfl (fun c_1045 => by exfalso; first | exact c_1045 rfl | omega | contradiction) (fun c_1045 => ?_)) | refine g_if_eq (tgt := 1136) (p1 := 1048) dL_isSo_1045 rfl rfl (fun c_1045 => by exfalso; first | exact c_1045 rfl | omega | contradiction) (fun c_1045 => ?_)
  refine g_aload_n (p0 := 1049) (i := 0) dL_isSo_1048 rfl rfl rfl ?_
  refine g_bipush (p0 := 1051) (v := nI 8) dL_isSo_1049 (by decide) rfl ?_
  refine g_cV1R (p0 := 1054) (r1 := mX9_count) dL_isSo_1051 lL_106 vX9_count (by first | rfl | assumption | exact RW.s (by assumption) | exact TW.s (by assumption)) ⟨_, _, rfl⟩ (FITi rfl rfl) (Nat.le_of_ble_eq_true rfl) (co_cs8 h8) rfl ?_
  refine g_aload_n (p0 := 1055) (i := 1) dL_isSo_1054 rfl rfl rfl ?_
  refine g_iconst (p0 := 1056) (v := nI 2) dL_isSo_1055 rfl rfl ?_
  first | ((with_reducible refine isN1 ?_); refine g_aldN (p0 := 1057) dL_isSo_1056 (by first | rfl | assumption | exact RW.s (by assumption) | exact TW.s (by assumption)) (by first | decide | assumption) (by omega) (by first | assumption | ((repeat (first | exact up_hit | (apply up_nv; omega) | (apply up_mv; omega))) <;> first | assumption | rfl)) rfl ?_) | refine g_ald (p0 := 1057) dL_isSo_1056 (by first | rfl | assumption | exact RW.s (by assumption) | exact TW.s (by assumption)) (by assumption) (by first | assumption | ((repeat (first | exact up_hit | (apply up_nv; omega) | (apply up_mv; omega))) <;> first | assumption | rfl)) rfl ?_
  first | ((with_reducible refine isN2 ?_); refine g_icmpN_ne (tgt := 1136) (p1 := 1060) dL_isSo_1057 rfl (by omega) (by omega) rfl (fun c_1057 => by exfalso; first | exact c_1057 rfl | omega | contradiction) (fun c_1057 => ?_)) | refine g_icmp_ne (tgt := 1136) (p1 := 1060) dL_isSo_1057 rfl rfl (fun c_1057 => by exfalso; first | exact c_1057 rfl | omega | contradiction) (fun c_1057 => ?_)
  refine g_aload_n (p0 := 1061) (i := 0) dL_isSo_1060 rfl rfl rfl ?_
  refine g_bipush (p0 := 1063) (v := nI 9) dL_isSo_1061 (by decide) rfl ?_
  refine g_cV1R (p0 := 1066) (r1 := mX9_count) dL_isSo_1063 lL_106 vX9_count (by first | rfl | assumption | exact RW.s (by assumption) | exact TW.s (by assumption)) ⟨_, _, rfl⟩ (FITi rfl rfl) (Nat.le_of_ble_eq_true rfl) (co_cs9 h9) rfl ?_
  refine g_aload_n (p0 := 1067) (i := 1) dL_isSo_1066 rfl rfl rfl ?_
  refine g_iconst (p0 := 1068) (v := nI 3) dL_isSo_1067 rfl rfl ?_
  first | ((with_reducible refine isN1 ?_); refine g_aldN (p0 := 1069) dL_isSo_1068 (by first | rfl | assumption | exact RW.s (by assumption) | exact TW.s (by assumption)) (by first | decide | assumption) (by omega) (by first | assumption | ((repeat (first | exact up_hit | (apply up_nv; omega) | (apply up_mv; omega))) <;> first | assumption | rfl)) rfl ?_) | refine g_ald (p0 := 1069) dL_isSo_1068 (by first | rfl | assumption | exact RW.s (by assumption) | exact TW.s (by assumption)) (by assumption) (by first | assumption | ((repeat (first | exact up_hit | (apply up_nv; omega) | (apply up_mv; omega))) <;> first | assumption | rfl)) rfl ?_
  first | ((with_reducible refine isN1 ?_); refine g_ifN_ne (tgt := 1077) (p1 := 1072) dL_isSo_1069 rfl (by omega) rfl (fun c_1069 => ?_) (fun c_1069 => by exfalso; first | exact c_1069 rfl | omega | contradiction)) | refine g_if_ne (tgt := 1077) (p1 := 1072) dL_isSo_1069 rfl rfl (fun c_1069 => ?_) (fun c_1069 => by exfalso; first | exact c_1069 rfl | omega | contradiction)
  refine g_aload_n (p0 := 1078) (i := 2) dL_isSo_1077 rfl rfl rfl ?_
  refine g_aload_n (p0 := 1079) (i := 1) dL_isSo_1078 rfl rfl rfl ?_
  refine g_iconst (p0 := 1080) (v := nI 3) dL_isSo_1079 rfl rfl ?_
  first | ((with_reducible refine isN1 ?_); refine g_aldN (p0 := 1081) dL_isSo_1080 (by first | rfl | assumption | exact RW.s (by assumption) | exact TW.s (by assumption)) (by first | decide | assumption) (by omega) (by first | assumption | ((repeat (first | exact up_hit | (apply up_nv; omega) | (apply up_mv; omega))) <;> first | assumption | rfl)) rfl ?_) | refine g_ald (p0 := 1081) dL_isSo_1080 (by first | rfl | assumption | exact RW.s (by assumption) | exact TW.s (by assumption)) (by assumption) (by first | assumption | ((repeat (first | exact up_hit | (apply up_nv; omega) | (apply up_mv; omega))) <;> first | assumption | rfl)) rfl ?_
  refine g_iconst (p0 := 1082) (v := nI 1) dL_isSo_1081 rfl rfl ?_
  first | ((with_reducible refine isN2 ?_); refine g_isubN (p0 := 1083) dL_isSo_1082 (by omega) rfl ?_) | refine g_isub (p0 := 1083) dL_isSo_1082 rfl ?_
  first | ((with_reducible refine isN1 ?_); refine g_aldN (p0 := 1084) dL_isSo_1083 (by first | rfl | assumption | exact RW.s (by assumption) | exact TW.s (by assumption)) (by first | decide | assumption) (by omega) (by first | assumption | ((repeat (first | exact up_hit | (apply up_nv; omega) | (apply up_mv; omega))) <;> first | assumption | rfl)) rfl ?_) | refine g_ald (p0 := 1084) dL_isSo_1083 (by first | rfl | assumption | exact RW.s (by assumption) | exact TW.s (by assumption)) (by assumption) (by first | assumption | ((repeat (first | exact up_hit | (apply up_nv; omega) | (apply up_mv; omega))) <;> first | assumption | rfl)) rfl ?_
  first | ((with_reducible refine isN2 ?_); refine g_icmpN_ne (tgt := 1136) (p1 := 1087) dL_isSo_1084 rfl (by omega) (by omega) rfl (fun c_1084 => by exfalso; first | exact c_1084 rfl | omega | contradiction) (fun c_1084 => ?_)) | refine g_icmp_ne (tgt := 1136) (p1 := 1087) dL_isSo_1084 rfl rfl (fun c_1084 => by exfalso; first | exact c_1084 rfl | omega | contradiction) (fun c_1084 => ?_)
  refine g_aload_n (p0 := 1088) (i := 0) dL_isSo_1087 rfl rfl rfl ?_
  refine g_bipush (p0 := 1090) (v := nI 11) dL_isSo_1088 (by decide) rfl ?_
  refine g_cV1R (p0 := 1093) (r1 := mX9_count) dL_isSo_1090 lL_106 vX9_count (by first | rfl | assumption | exact RW.s (by assumption) | exact TW.s (by assumption)) ⟨_, _, rfl⟩ (FITi rfl rfl) (Nat.le_of_ble_eq_true rfl) (co_cs11 (cs_11 h11)) rfl ?_
  first | ((with_reducible refine isN1 ?_); refine g_ifN_ne (tgt := 1136) (p1 := 1096) dL_isSo_1093 rfl (by omega) rfl (fun c_1093 => by exfalso; first | exact c_1093 rfl | omega | contradiction) (fun c_1093 => ?_)) | refine g_if_ne (tgt := 1136) (p1 := 1096) dL_isSo_1093 rfl rfl (fun c_1093 => by exfalso; first | exact c_1093 rfl | omega | contradiction) (fun c_1093 => ?_)
  refine g_aload_n (p0 := 1097) (i := 0) dL_isSo_1096 rfl rfl rfl ?_
  refine g_bipush (p0 := 1099) (v := nI 20) dL_isSo_1097 (by decide) rfl ?_
  refine g_cV1R (p0 := 1102) (r1 := mX9_count) dL_isSo_1099 lL_106 vX9_count (by first | rfl | assumption | exact RW.s (by assumption) | exact TW.s (by assumption)) ⟨_, _, rfl⟩ (FITi rfl rfl) (Nat.le_of_ble_eq_true rfl) (co_cs20 (cs_20 h20)) rfl ?_
  refine g_aload_n (p0 := 1103) (i := 1) dL_isSo_1102 rfl rfl rfl ?_
  refine g_iconst (p0 := 1104) (v := nI 0) dL_isSo_1103 rfl rfl ?_
  first | ((with_reducible refine isN1 ?_); refine g_aldN (p0 := 1105) dL_isSo_1104 (by first | rfl | assumption | exact RW.s (by assumption) | exact TW.s (by assumption)) (by first | decide | assumption) (by omega) (by first | assumption | ((repeat (first | exact up_hit | (apply up_nv; omega) | (apply up_mv; omega))) <;> first | assumption | rfl)) rfl ?_) | refine g_ald (p0 := 1105) dL_isSo_1104 (by first | rfl | assumption | exact RW.s (by assumption) | exact TW.s (by assumption)) (by assumption) (by first | assumption | ((repeat (first | exact up_hit | (apply up_nv; omega) | (apply up_mv; omega))) <;> first | assumption | rfl)) rfl ?_
  first | ((with_reducible refine isN2 ?_); refine g_icmpN_ne (tgt := 1136) (p1 := 1108) dL_isSo_1105 rfl (by omega) (by omega) rfl (fun c_1105 => by exfalso; first | exact c_1105 rfl | omega | contradiction) (fun c_1105 => ?_)) | refine g_icmp_ne (tgt := 1136) (p1 := 1108) dL_isSo_1105 rfl rfl (fun c_1105 => by exfalso; first | exact c_1105 rfl | omega | contradiction) (fun c_1105 => ?_)
  refine g_aload_n (p0 := 1109) (i := 0) dL_isSo_1108 rfl rfl rfl ?_
  refine g_bipush (p0 := 1111) (v := nI 21) dL_isSo_1109 (by decide) rfl ?_
  refine g_cV1R (p0 := 1114) (r1 := mX9_count) dL_isSo_1111 lL_106 vX9_count (by first | rfl | assumption | exact RW.s (by assumption) | exact TW.s (by assumption)) ⟨_, _, rfl⟩ (FITi rfl rfl) (Nat.le_of_ble_eq_true rfl) (co_cs21 (cs_21 h21)) rfl ?_
  refine g_aload_n (p0 := 1115) (i := 1) dL_isSo_1114 rfl rfl rfl ?_
  refine g_iconst (p0 := 1116) (v := nI 1) dL_isSo_1115 rfl rfl ?_
  first | ((with_reducible refine isN1 ?_); refine g_aldN (p0 := 1117) dL_isSo_1116 (by first | rfl | assumption | exact RW.s (by assumption) | exact TW.s (by assumption)) (by first | decide | assumption) (by omega) (by first | assumption | ((repeat (first | exact up_hit | (apply up_nv; omega) | (apply up_mv; omega))) <;> first | assumption | rfl)) rfl ?_) | refine g_ald (p0 := 1117) dL_isSo_1116 (by first | rfl | assumption | exact RW.s (by assumption) | exact TW.s (by assumption)) (by assumption) (by first | assumption | ((repeat (first | exact up_hit | (apply up_nv; omega) | (apply up_mv; omega))) <;> first | assumption | rfl)) rfl ?_
  first | ((with_reducible refine isN2 ?_); refine g_icmpN_ne (tgt := 1136) (p1 := 1120) dL_isSo_1117 rfl (by omega) (by omega) rfl (fun c_1117 => by exfalso; first | exact c_1117 rfl | omega | contradiction) (fun c_1117 => ?_)) | refine g_icmp_ne (tgt := 1136) (p1 := 1120) dL_isSo_1117 rfl rfl (fun c_1117 => by exfalso; first | exact c_1117 rfl | omega | contradiction) (fun c_1117 => ?_)
  refine g_aload_n (p0 := 1121) (i := 0) dL_isSo_1120 rfl rfl rfl ?_
  refine g_iload (p0 := 1123) dL_isSo_1121 rfl rfl ?_
  refine g_iconst (p0 := 1124) (v := nI 0) dL_isSo_1123 rfl rfl ?_
  refine g_cV2R (p0 := 1127) (r1 := mX9_messageOf) dL_isSo_1124 lL_100 vX9_messageOf (by first | rfl | assumption | exact RW.s (by assumption) | exact TW.s (by assumption)) ⟨_, _, rfl⟩ (FITi rfl rfl) (Nat.le_of_ble_eq_true rfl) (mo_cF (hasMessage_F2 b1 hM1 (Nat.le_refl _) (by omega))) rfl ?_
  refine g_ldc (p0 := 1129) dL_isSo_1127 qL_51 rfl ?_
  first | ((with_reducible refine isN2 ?_); refine g_icmpN_ne (tgt := 1136) (p1 := 1132) dL_isSo_1129 rfl (by omega) (by omega) rfl (fun c_1129 => by exfalso; first | exact c_1129 rfl | omega | contradiction) (fun c_1129 => ?_)) | refine g_icmp_ne (tgt := 1136) (p1 := 1132) dL_isSo_1129 rfl rfl (fun c_1129 => by exfalso; first | exact c_1129 rfl | omega | contradiction) (fun c_1129 => ?_)
  refine g_iconst (p0 := 1133) (v := nI 1) dL_isSo_1132 rfl rfl ?_
  refine g_goto (tgt := 1137) dL_isSo_1133 rfl ?_
  refine g_ireturn dL_isSo_1137 rfl (by first | rfl | exact bool_narrow (by first | exact Or.inl rfl | exact Or.inr rfl | assumption | (split <;> first | exact Or.inl rfl | exact Or.inr rfl))) (?_)
  exact next
theorem FA_of {e s : Nat} {ρ : Nat → Int32} {σ σ' : Sg} (hI : LI σ ρ s) (hB : XB σ e) (he : e + 7 ≤ 90000) (hRI : RI e (kaF (tm ρ) (ρ 0)) (gpF (tm ρ) (ρ 0)) σ' s) (hfe : FE e σ σ') : FA σ' e s (kaF (tm ρ) (ρ 0)) (dbF (tm ρ) (ρ 0) (ρ 1)) (gpF (tm ρ) (ρ 0)) (tm ρ) := by
  obtain ⟨hR, hs, hRep, hHC, hRD, ⟨g0, g1, g2, g3⟩, h81, h80, h76⟩ := hI
  have he2 := hB.1
  have f : ∀ z, z < 82 → σ' z = σ z := fun z hz => hfe z (by omega)
  have hRD' : RDC σ' ρ s := hRD.of (fun z h1 h2 => f z (by omega))
  obtain ⟨r1, ⟨r2, r3⟩, r4, r5, r6, r7, r8⟩ := hRD'
  obtain ⟨p1, p2, p3, p4, p5, p6⟩ := hRep
  refine ⟨⟨hB.of (hfe 99999 (by omega)), he, hs, by rw [f 1 (by decide)]; exact p1, by rw [f 79 (by decide)]; exact g3, rfl, kaF_le _ _, rfl, dbF_le _ _ _⟩, fun k hk => ?_, fun k hk => ?_, fun l hl => ?_, ⟨r2, r1.1, r4⟩, fun m hm => ?_⟩
  · obtain ⟨q1, q2, q3, q4, q5, q6⟩ := r5 k hk
    obtain ⟨w1, w2, w3, w4⟩ := hRI.1 k hk
    exact ⟨⟨by rw [f 3 (by decide)]; exact p6 k hk, by rw [f 80 (by decide)]; exact h80 k hk, w1, w2, w3, w4⟩, q1, q2, q3, q4, q5, q6⟩
  · have h := doubt_sp (g := gpF (tm ρ) (ρ 0) k) (bt := ρ 0) (tl := ρ 1) (σ := σ') (by rw [f 79 (by decide)]; exact g0) (by rw [f 79 (by decide)]; exact g1)
    rw [dbF, if_neg (by omega)]
    exact h
  · obtain ⟨w1, w2⟩ := hRI.2 l hl
    obtain ⟨q1, q2, q3⟩ := r1.2 l hl
    have bL := (Mc_le (kaF (tm ρ) (ρ 0)) s).2
    have n1 := gr_le (kaF (tm ρ) (ρ 0)) s l
    have n2 := o1_le (kaF (tm ρ) (ρ 0)) (kaF_le _ _) s l
    have n3 := o2_le (kaF (tm ρ) (ρ 0)) (kaF_le _ _) s l
    exact ⟨w1, w2, q1, q2, q3, LV_of hR (fun k hk => by rw [f 81 (by decide)]; exact h81 k hk) w2 (by omega) (by omega) (by omega) (r7 (by omega)) (r6 l hl)⟩
  · exact r3 m hm
set_option maxRecDepth 20000 in
set_option maxHeartbeats 2000000 in
theorem isSo_rest {e s : Nat} {ρ : Nat → Int32} {σ : Sg} {Q : SP} (hI : LI σ ρ s) (hB : XB σ e) (he : e + 7 ≤ 90000) (next : ∀ σ', FE e σ σ' → Q (some (ai (nI 1))) σ') : WM mL_isSo Q 42 [some (ar 0), some (ar 79), some (ar 80), some (ar 81), some (ar (e + 0)), some (ar (e + 1)), some (ar (e + 2)), some (ar (e + 3)), some (ar (e + 4)), some (ar (e + 5)), some (ar (e + 6)), none, none, none, none, none, none, none, none, none, none, none, none, none, none, none, none, none] [] σ := by
  have hI0 := hI
  obtain ⟨hR, hs, hRep, hHC, hRD, ⟨g0, g1, g2, g3⟩, h81, h80, h76⟩ := hI
  have he2 := hB.1
  have hrd := read_sp hB he g3 g0 hs h80
  refine g_aload_n (p0 := 43) (i := 1) dL_isSo_42 rfl rfl rfl ?_
  refine g_aload_n (p0 := 44) (i := 2) dL_isSo_43 rfl rfl rfl ?_
  refine g_aload (p0 := 46) dL_isSo_44 rfl rfl ?_
  refine g_aload (p0 := 48) dL_isSo_46 rfl rfl ?_
  refine g_aload (p0 := 50) dL_isSo_48 rfl rfl ?_
  refine g_aload (p0 := 52) dL_isSo_50 rfl rfl ?_
  refine g_aload (p0 := 54) dL_isSo_52 rfl rfl ?_
  refine g_aload (p0 := 56) dL_isSo_54 rfl rfl ?_
  refine g_aload (p0 := 58) dL_isSo_56 rfl rfl ?_
  refine g_cS9I (p0 := 61) (r1 := mL_read) dL_isSo_58 (Or.inl lL_78) vL_read (FITi rfl rfl) (Nat.le_of_ble_eq_true rfl) (hrd) rfl ?_
  rintro v σ' ⟨rfl, hRI, hfe⟩
  have hF := FA_of hI0 hB he hRI hfe
  have hnext := next σ' hfe
  clear next hrd
  obtain ⟨c, hc⟩ : ∃ c, c = kaF (tm ρ) (ρ 0) := ⟨_, rfl⟩
  obtain ⟨d, hd⟩ : ∃ d, d = dbF (tm ρ) (ρ 0) (ρ 1) := ⟨_, rfl⟩
  rw [← hc] at hF hRI
  rw [← hd] at hF
  rw [← hc]
  obtain ⟨⟨a1, a2, a3, a4, a5, a6, a7, a8, a9⟩, hK, hD, hL, ⟨b1, b2, b3⟩, hMs⟩ := id hF
  have f : ∀ z, z < 82 → σ' z = σ z := fun z hz => hfe z (by omega)
  have bLs := (Mc_le c s).2
  have bMs := (Mc_le c s).1
  have hend : ∀ x21 x22 x23 x24 x25 x26 x27, WM mL_isSo Q 892 [some (ar 0), some (ar 79), some (ar 80), some (ar 81), some (ar (e + 0)), some (ar (e + 1)), some (ar (e + 2)), some (ar (e + 3)), some (ar (e + 4)), some (ar (e + 5)), some (ar (e + 6)), some (ai (nI (Lc c s))), some (ai (nI (Mc c s))), some (ai (-1000004)), some (ai (nI (tt (fun m => uF (σ' 42) (fl c s m) (ln c s m)) (Mc c s)))), some (ai (nI (lo c s))), some (ai (nI (p2 c s))), some (ai (nI (dsm d s))), some (ai (nI (tt (fun m => ind (RGT (σ' 42) (fl c s m) (ln c s m))) (Mc c s)))), some (ai (nI 1)), some (ai (nI (Mc c s))), x21, x22, x23, x24, x25, x26, x27] [] σ' := by
    intro x21 x22 x23 x24 x25 x26 x27
    obtain ⟨cf, hcf, hinj⟩ := hR.2.2.2.1
    have e3 : CM mX4_totalOf [ar 45, ar 56] σ' (Ret (nI (tt (fun m => uF (σ' 42) (fl c s m) (ln c s m)) (Mc c s))) σ') := totalOf_sp (a := 57) (n := 160) ⟨rfl, rfl, by decide⟩ b1 (by omega) (by omega) (fun i hi => (hMs i hi).2.2.2.2.2.1)
    have e5 : CM mX4_totalOf [ar 45, ar 52] σ' (Ret (nI (p2 c s)) σ') := by
      rw [← pl_tt a6 s]
      exact totalOf_sp (a := 53) (n := 160) ⟨rfl, rfl, by decide⟩ b1 (by omega) (by omega) (fun i hi => (hMs i hi).2.2.2.1)
    have e6 : CM mX4_totalOf [ar 45, ar 54] σ' (Ret (nI (dsm d s)) σ') := by
      rw [← db_tt (c := c) a6 s]
      exact totalOf_sp (a := 55) (n := 160) ⟨rfl, rfl, by decide⟩ b1 (by omega) (by omega) (fun i hi => (hMs i hi).2.2.2.2.1)
    have e7 : CM mX6_rightOnes [ar 33] σ' (Ret (nI (tt (fun m => ind (RGT (σ' 42) (fl c s m) (ln c s m))) (Mc c s))) σ') := by
      refine rightOnes_sp b1 (by omega) (fun i hi => ⟨ind_le _, ?_⟩)
      obtain ⟨c1, c2, c3, c4, c5, c6, c7⟩ := hMs i hi
      have hfl := flL c a7 s i hi
      have hln := ln_pos c s i hi
      rcases cRight_sp (m := i) (f := fl c s i) (n := ln c s i) (σ := σ') (by omega) (by omega) c2 (by omega) c3 c6 c7 with ⟨hr1, hr2⟩ | ⟨hr1, hr2⟩
      · rw [ind_T hr1]; exact hr2
      · rw [ind_F hr1]; exact hr2
    have e8 : ∀ v, ρ 2 = v → CM mX9_countOfState [ar 0, ai (nI 8)] σ' (Ret v σ') := by
      rintro v rfl
      have h15 : σ' 1 5 = ρ 2 := by rw [f 1 (by decide)]; exact hRep.2.2.2.1
      rcases hR.2.2.1 with hz | hz
      · rw [hz] at h15 ⊢; exact cs_8z h15
      · rw [hz] at h15 ⊢; exact cs_8o h15
    have k1 : σ' 79 0 = ρ 0 := by rw [f 79 (by decide)]; exact g0
    have k2 : σ' 79 1 = ρ 1 := by rw [f 79 (by decide)]; exact g1
    have k3 : σ' 79 2 = ρ 2 := by rw [f 79 (by decide)]; exact g2
    have k4 : σ' 76 1 = nI 0 := by rw [f 76 (by decide)]; exact h76
    have k5 : σ' 1 3 = ρ 0 := by rw [f 1 (by decide)]; exact hRep.2.1
    have k6 : σ' 1 4 = ρ 1 := by rw [f 1 (by decide)]; exact hRep.2.2.1
    have hC : WM mL_isSo Q 948 [some (ar 0), some (ar 79), some (ar 80), some (ar 81), some (ar (e + 0)), some (ar (e + 1)), some (ar (e + 2)), some (ar (e + 3)), some (ar (e + 4)), some (ar (e + 5)), some (ar (e + 6)), some (ai (nI (Lc c s))), some (ai (nI (Mc c s))), some (ai (-1000004)), some (ai (nI (tt (fun m => uF (σ' 42) (fl c s m) (ln c s m)) (Mc c s)))), some (ai (nI (lo c s))), some (ai (nI (p2 c s))), some (ai (nI (dsm d s))), some (ai (nI (tt (fun m => ind (RGT (σ' 42) (fl c s m) (ln c s m))) (Mc c s)))), some (ai (nI 1)), some (ai (nI 25)), x21, x22, x23, x24, x25, x26, x27] [] σ' := by
      by_cases h0 : s = 0
      · exact iC_z a3 a4 a5 b1 (by omega) b2 b3 e3 e5 e6 e7 (e8 _ rfl) (cs_9z (by rw [a4, h0])) k3 k4 k5 k1 k6 k2 h0 rfl hnext
      · exact iC_p a3 a4 a5 b1 (by omega) b2 b3 e3 e5 e6 e7 (e8 _ rfl) (cs_9 a4 (by omega) (by omega) (hK (s - 1) (by omega)).1.1) k3 k4 k5 k1 k6 k2 (by omega) (hK (s - 1) (by omega)).1.2.1 hnext
    have h3 := i3_loop (cf := cf) (fun l hl => ⟨by rw [f 5 (by decide)]; exact (hRep.2.2.2.2.1 l hl).trans (hcf l hl).1, by rw [f 81 (by decide)]; exact (h81 l hl).trans (hcf l hl).1, (hcf l hl).2⟩) hC 25 0 (by omega)
    refine g_iconst (p0 := 893) (v := nI 0) dL_isSo_892 rfl rfl ?_
    refine g_istore (p0 := 895) (i := 20) (ls2 := [_, _, _, _, _, _, _, _, _, _, _, _, _, _, _, _, _, _, _, _, _, _, _, _, _, _, _, _]) dL_isSo_893 (Nat.le_of_ble_eq_true rfl) rfl rfl ?_
    exact h3
  have h2 := i2_loop hF hend (Mc c s) 0 (by omega)
  have h1 : ∀ x21 x22, WM mL_isSo Q 411 [some (ar 0), some (ar 79), some (ar 80), some (ar 81), some (ar (e + 0)), some (ar (e + 1)), some (ar (e + 2)), some (ar (e + 3)), some (ar (e + 4)), some (ar (e + 5)), some (ar (e + 6)), some (ai (nI (Lc c s))), some (ai (nI (Mc c s))), some (ai (-1000004)), some (ai (nI 0)), some (ai (nI (lo c s))), some (ai (nI (p2 c s))), some (ai (nI (dsm d s))), some (ai (nI 0)), some (ai (nI 1)), some (ai (nI s)), x21, x22, none, none, none, none, none] [] σ' := by
    intro x21 x22
    refine g_iconst (p0 := 412) (v := nI 0) dL_isSo_411 rfl rfl ?_
    refine g_istore (p0 := 414) (i := 20) (ls2 := [_, _, _, _, _, _, _, _, _, _, _, _, _, _, _, _, _, _, _, _, _, _, _, _, _, _, _, _]) dL_isSo_412 (Nat.le_of_ble_eq_true rfl) rfl rfl ?_
    exact h2 _ _ _ _ _ _ _
  have h0 := i1_loop (M := Mc c s) hF h1 s 0 (by omega) none none
  have hmid : ∀ x, x = nI (Mc c s) → WM mL_isSo Q 81 [some (ar 0), some (ar 79), some (ar 80), some (ar 81), some (ar (e + 0)), some (ar (e + 1)), some (ar (e + 2)), some (ar (e + 3)), some (ar (e + 4)), some (ar (e + 5)), some (ar (e + 6)), some (ai (nI (Lc c s))), none, none, none, none, none, none, none, none, none, none, none, none, none, none, none, none] [ai x] σ' := by
    rintro x rfl
    refine g_istore (p0 := 83) (i := 12) (ls2 := [_, _, _, _, _, _, _, _, _, _, _, _, _, _, _, _, _, _, _, _, _, _, _, _, _, _, _, _]) dL_isSo_81 (Nat.le_of_ble_eq_true rfl) rfl rfl ?_
    refine g_ldc (p0 := 85) dL_isSo_83 qL_30 rfl ?_
    refine g_istore (p0 := 87) (i := 13) (ls2 := [_, _, _, _, _, _, _, _, _, _, _, _, _, _, _, _, _, _, _, _, _, _, _, _, _, _, _, _]) dL_isSo_85 (Nat.le_of_ble_eq_true rfl) rfl rfl ?_
    refine g_iconst (p0 := 88) (v := nI 0) dL_isSo_87 rfl rfl ?_
    refine g_istore (p0 := 90) (i := 14) (ls2 := [_, _, _, _, _, _, _, _, _, _, _, _, _, _, _, _, _, _, _, _, _, _, _, _, _, _, _, _]) dL_isSo_88 (Nat.le_of_ble_eq_true rfl) rfl rfl ?_
    refine g_iconst (p0 := 91) (v := nI 0) dL_isSo_90 rfl rfl ?_
    refine g_istore (p0 := 93) (i := 15) (ls2 := [_, _, _, _, _, _, _, _, _, _, _, _, _, _, _, _, _, _, _, _, _, _, _, _, _, _, _, _]) dL_isSo_91 (Nat.le_of_ble_eq_true rfl) rfl rfl ?_
    refine g_iconst (p0 := 94) (v := nI 0) dL_isSo_93 rfl rfl ?_
    refine g_istore (p0 := 96) (i := 16) (ls2 := [_, _, _, _, _, _, _, _, _, _, _, _, _, _, _, _, _, _, _, _, _, _, _, _, _, _, _, _]) dL_isSo_94 (Nat.le_of_ble_eq_true rfl) rfl rfl ?_
    refine g_iconst (p0 := 97) (v := nI 0) dL_isSo_96 rfl rfl ?_
    refine g_istore (p0 := 99) (i := 17) (ls2 := [_, _, _, _, _, _, _, _, _, _, _, _, _, _, _, _, _, _, _, _, _, _, _, _, _, _, _, _]) dL_isSo_97 (Nat.le_of_ble_eq_true rfl) rfl rfl ?_
    refine g_iconst (p0 := 100) (v := nI 0) dL_isSo_99 rfl rfl ?_
    refine g_istore (p0 := 102) (i := 18) (ls2 := [_, _, _, _, _, _, _, _, _, _, _, _, _, _, _, _, _, _, _, _, _, _, _, _, _, _, _, _]) dL_isSo_100 (Nat.le_of_ble_eq_true rfl) rfl rfl ?_
    refine g_iconst (p0 := 103) (v := nI 1) dL_isSo_102 rfl rfl ?_
    refine g_istore (p0 := 105) (i := 19) (ls2 := [_, _, _, _, _, _, _, _, _, _, _, _, _, _, _, _, _, _, _, _, _, _, _, _, _, _, _, _]) dL_isSo_103 (Nat.le_of_ble_eq_true rfl) rfl rfl ?_
    refine g_iconst (p0 := 106) (v := nI 0) dL_isSo_105 rfl rfl ?_
    refine g_istore (p0 := 108) (i := 20) (ls2 := [_, _, _, _, _, _, _, _, _, _, _, _, _, _, _, _, _, _, _, _, _, _, _, _, _, _, _, _]) dL_isSo_106 (Nat.le_of_ble_eq_true rfl) rfl rfl ?_
    exact h0
  by_cases hL0 : Lc c s = 0
  · have hM0 : Mc c s = 0 := by omega
    have hm2 := hmid (nI 0) (by rw [hM0])
    refine g_istore (p0 := 63) (i := 11) (ls2 := [_, _, _, _, _, _, _, _, _, _, _, _, _, _, _, _, _, _, _, _, _, _, _, _, _, _, _, _]) dL_isSo_61 (Nat.le_of_ble_eq_true rfl) rfl rfl ?_
    refine g_iload (p0 := 65) dL_isSo_63 rfl rfl ?_
    first | ((with_reducible refine isN1 ?_); refine g_ifN_ne (tgt := 72) (p1 := 68) dL_isSo_65 rfl (by omega) rfl (fun c_65 => by exfalso; first | exact c_65 rfl | omega | contradiction) (fun c_65 => ?_)) | refine g_if_ne (tgt := 72) (p1 := 68) dL_isSo_65 rfl rfl (fun c_65 => by exfalso; first | exact c_65 rfl | omega | contradiction) (fun c_65 => ?_)
    refine g_iconst (p0 := 69) (v := nI 0) dL_isSo_68 rfl rfl ?_
    refine g_goto (tgt := 81) dL_isSo_69 rfl ?_
    exact hm2
  · have hml := (mo_last s (by omega)).resolve_right (fun q => q a6)
    have hm2 := hmid (nI (mo c s (Lc c s - 1) + 1)) (by rw [hml])
    have h5 := (hL (Lc c s - 1) (by omega)).1
    refine g_istore (p0 := 63) (i := 11) (ls2 := [_, _, _, _, _, _, _, _, _, _, _, _, _, _, _, _, _, _, _, _, _, _, _, _, _, _, _, _]) dL_isSo_61 (Nat.le_of_ble_eq_true rfl) rfl rfl ?_
    refine g_iload (p0 := 65) dL_isSo_63 rfl rfl ?_
    first | ((with_reducible refine isN1 ?_); refine g_ifN_ne (tgt := 72) (p1 := 68) dL_isSo_65 rfl (by omega) rfl (fun c_65 => ?_) (fun c_65 => by exfalso; first | exact c_65 rfl | omega | contradiction)) | refine g_if_ne (tgt := 72) (p1 := 68) dL_isSo_65 rfl rfl (fun c_65 => ?_) (fun c_65 => by exfalso; first | exact c_65 rfl | omega | contradiction)
    refine g_aload (p0 := 74) dL_isSo_72 rfl rfl ?_
    refine g_iload (p0 := 76) dL_isSo_74 rfl rfl ?_
    refine g_iconst (p0 := 77) (v := nI 1) dL_isSo_76 rfl rfl ?_
    first | ((with_reducible refine isN2 ?_); refine g_isubN (p0 := 78) dL_isSo_77 (by omega) rfl ?_) | refine g_isub (p0 := 78) dL_isSo_77 rfl ?_
    refine g_aldX (p0 := 79) dL_isSo_78 (by repeat (first | assumption | refine XB.up (by omega) ?_)) ⟨rfl, by decide⟩ (by omega) (by first | assumption | ((repeat (first | exact up_hit | (apply up_nv; omega) | (apply up_mv; omega))) <;> first | assumption | rfl)) rfl ?_
    refine g_iconst (p0 := 80) (v := nI 1) dL_isSo_79 rfl rfl ?_
    first | ((with_reducible refine isN2 ?_); refine g_iaddN (p0 := 81) dL_isSo_80 rfl ?_) | refine g_iadd (p0 := 81) dL_isSo_80 rfl ?_
    exact hm2
theorem al_new {r : MR} {Q : SP} {pc p0 A a b : Nat} {ls : List (Option AV)} {st : List AV} {σ : Sg} (d : decode (rc r) pc = .ok (.newarray .int, 2)) (hg : gN σ < 10000) (hA : 82 + gN σ = A) (e : pc + 2 = p0) (kk : WPr r (lift Q) p0 ls (ar A :: st) (mem (grow σ)) a b) : WPr r (lift Q) pc ls (ai (nI 64) :: st) (mem σ) (a + 1) (b + 64) := by
  subst e; subst hA
  refine i_newi d (nI_pos (by decide)) (nI_clamp (by decide)) (by decide) ?_
  have hlen : (mem σ).length = 82 + gN σ := by
    rw [mem, List.length_mapIdx, SHX, List.length_append, List.length_replicate]; rfl
  rw [hlen, mem_grow hg]
  exact kk
theorem al_store {r : MR} {Q : AP} {pc p0 i x a b : Nat} {ls ls2 : List (Option AV)} {st : List AV} {h : AH} (d : decode (rc r) pc = .ok (.astore i, 2)) (hl : i < ls.length) (el : ls.set i (some (ar x)) = ls2) (e : pc + 2 = p0) (kk : WPr r Q p0 ls2 st h a b) : WPr r Q pc ls (ar x :: st) h a b := by
  subst e; subst el; exact i_astore d hl kk
set_option maxRecDepth 20000 in
set_option maxHeartbeats 2000000 in
theorem isSo_start {n : Nat} {σ : Sg} {Q : SP} (hn0 : gN σ = n) (hn : n < 9000) (k : ∀ σ7, XB σ7 (82 + n) → (∀ z, z < 82 → σ7 z = σ z) → gN σ7 = n + 7 → WM mL_isSo Q 42 [some (ar 0), some (ar 79), some (ar 80), some (ar 81), some (ar (82 + n + 0)), some (ar (82 + n + 1)), some (ar (82 + n + 2)), some (ar (82 + n + 3)), some (ar (82 + n + 4)), some (ar (82 + n + 5)), some (ar (82 + n + 6)), none, none, none, none, none, none, none, none, none, none, none, none, none, none, none, none, none] [] σ7) : C mL_isSo [ar 0, ar 79, ar 80, ar 81] (mem σ) 7 448 (lift Q) := by
  refine C.enter (ls := [some (ar 0), some (ar 79), some (ar 80), some (ar 81), none, none, none, none, none, none, none, none, none, none, none, none, none, none, none, none, none, none, none, none, none, none, none, none]) rfl ?_
  have g0 : gN σ = n := hn0
  refine k_bipush (p0 := 2) (v := nI 64) dL_isSo_0 (by decide) rfl ?_
  refine al_new (p0 := 4) (A := 82 + n + 0) (a := 6) (b := 384) dL_isSo_2 (by omega) (by omega) rfl ?_
  refine al_store (p0 := 6) (i := 4) (ls2 := [some (ar 0), some (ar 79), some (ar 80), some (ar 81), some (ar (82 + n + 0)), none, none, none, none, none, none, none, none, none, none, none, none, none, none, none, none, none, none, none, none, none, none, none]) dL_isSo_4 (Nat.le_of_ble_eq_true rfl) rfl rfl ?_
  have g1 : gN (grow σ) = n + 1 := by rw [gN_grow (by omega), g0]
  have f1 : ∀ z, z < 82 → grow σ z = σ z := fun z hz => by rw [grow_ne (by omega) (by omega)]
  obtain ⟨σ1, hσ1⟩ : ∃ z, z = grow σ := ⟨_, rfl⟩
  rw [← hσ1] at g1 f1 ⊢
  refine k_bipush (p0 := 8) (v := nI 64) dL_isSo_6 (by decide) rfl ?_
  refine al_new (p0 := 10) (A := 82 + n + 1) (a := 5) (b := 320) dL_isSo_8 (by omega) (by omega) rfl ?_
  refine al_store (p0 := 12) (i := 5) (ls2 := [some (ar 0), some (ar 79), some (ar 80), some (ar 81), some (ar (82 + n + 0)), some (ar (82 + n + 1)), none, none, none, none, none, none, none, none, none, none, none, none, none, none, none, none, none, none, none, none, none, none]) dL_isSo_10 (Nat.le_of_ble_eq_true rfl) rfl rfl ?_
  have g2 : gN (grow σ1) = n + 2 := by rw [gN_grow (by omega), g1]
  have f2 : ∀ z, z < 82 → grow σ1 z = σ z := fun z hz => by rw [grow_ne (by omega) (by omega), f1 z hz]
  obtain ⟨σ2, hσ2⟩ : ∃ z, z = grow σ1 := ⟨_, rfl⟩
  rw [← hσ2] at g2 f2 ⊢
  refine k_bipush (p0 := 14) (v := nI 64) dL_isSo_12 (by decide) rfl ?_
  refine al_new (p0 := 16) (A := 82 + n + 2) (a := 4) (b := 256) dL_isSo_14 (by omega) (by omega) rfl ?_
  refine al_store (p0 := 18) (i := 6) (ls2 := [some (ar 0), some (ar 79), some (ar 80), some (ar 81), some (ar (82 + n + 0)), some (ar (82 + n + 1)), some (ar (82 + n + 2)), none, none, none, none, none, none, none, none, none, none, none, none, none, none, none, none, none, none, none, none, none]) dL_isSo_16 (Nat.le_of_ble_eq_true rfl) rfl rfl ?_
  have g3 : gN (grow σ2) = n + 3 := by rw [gN_grow (by omega), g2]
  have f3 : ∀ z, z < 82 → grow σ2 z = σ z := fun z hz => by rw [grow_ne (by omega) (by omega), f2 z hz]
  obtain ⟨σ3, hσ3⟩ : ∃ z, z = grow σ2 := ⟨_, rfl⟩
  rw [← hσ3] at g3 f3 ⊢
  refine k_bipush (p0 := 20) (v := nI 64) dL_isSo_18 (by decide) rfl ?_
  refine al_new (p0 := 22) (A := 82 + n + 3) (a := 3) (b := 192) dL_isSo_20 (by omega) (by omega) rfl ?_
  refine al_store (p0 := 24) (i := 7) (ls2 := [some (ar 0), some (ar 79), some (ar 80), some (ar 81), some (ar (82 + n + 0)), some (ar (82 + n + 1)), some (ar (82 + n + 2)), some (ar (82 + n + 3)), none, none, none, none, none, none, none, none, none, none, none, none, none, none, none, none, none, none, none, none]) dL_isSo_22 (Nat.le_of_ble_eq_true rfl) rfl rfl ?_
  have g4 : gN (grow σ3) = n + 4 := by rw [gN_grow (by omega), g3]
  have f4 : ∀ z, z < 82 → grow σ3 z = σ z := fun z hz => by rw [grow_ne (by omega) (by omega), f3 z hz]
  obtain ⟨σ4, hσ4⟩ : ∃ z, z = grow σ3 := ⟨_, rfl⟩
  rw [← hσ4] at g4 f4 ⊢
  refine k_bipush (p0 := 26) (v := nI 64) dL_isSo_24 (by decide) rfl ?_
  refine al_new (p0 := 28) (A := 82 + n + 4) (a := 2) (b := 128) dL_isSo_26 (by omega) (by omega) rfl ?_
  refine al_store (p0 := 30) (i := 8) (ls2 := [some (ar 0), some (ar 79), some (ar 80), some (ar 81), some (ar (82 + n + 0)), some (ar (82 + n + 1)), some (ar (82 + n + 2)), some (ar (82 + n + 3)), some (ar (82 + n + 4)), none, none, none, none, none, none, none, none, none, none, none, none, none, none, none, none, none, none, none]) dL_isSo_28 (Nat.le_of_ble_eq_true rfl) rfl rfl ?_
  have g5 : gN (grow σ4) = n + 5 := by rw [gN_grow (by omega), g4]
  have f5 : ∀ z, z < 82 → grow σ4 z = σ z := fun z hz => by rw [grow_ne (by omega) (by omega), f4 z hz]
  obtain ⟨σ5, hσ5⟩ : ∃ z, z = grow σ4 := ⟨_, rfl⟩
  rw [← hσ5] at g5 f5 ⊢
  refine k_bipush (p0 := 32) (v := nI 64) dL_isSo_30 (by decide) rfl ?_
  refine al_new (p0 := 34) (A := 82 + n + 5) (a := 1) (b := 64) dL_isSo_32 (by omega) (by omega) rfl ?_
  refine al_store (p0 := 36) (i := 9) (ls2 := [some (ar 0), some (ar 79), some (ar 80), some (ar 81), some (ar (82 + n + 0)), some (ar (82 + n + 1)), some (ar (82 + n + 2)), some (ar (82 + n + 3)), some (ar (82 + n + 4)), some (ar (82 + n + 5)), none, none, none, none, none, none, none, none, none, none, none, none, none, none, none, none, none, none]) dL_isSo_34 (Nat.le_of_ble_eq_true rfl) rfl rfl ?_
  have g6 : gN (grow σ5) = n + 6 := by rw [gN_grow (by omega), g5]
  have f6 : ∀ z, z < 82 → grow σ5 z = σ z := fun z hz => by rw [grow_ne (by omega) (by omega), f5 z hz]
  obtain ⟨σ6, hσ6⟩ : ∃ z, z = grow σ5 := ⟨_, rfl⟩
  rw [← hσ6] at g6 f6 ⊢
  refine k_bipush (p0 := 38) (v := nI 64) dL_isSo_36 (by decide) rfl ?_
  refine al_new (p0 := 40) (A := 82 + n + 6) (a := 0) (b := 0) dL_isSo_38 (by omega) (by omega) rfl ?_
  refine al_store (p0 := 42) (i := 10) (ls2 := [some (ar 0), some (ar 79), some (ar 80), some (ar 81), some (ar (82 + n + 0)), some (ar (82 + n + 1)), some (ar (82 + n + 2)), some (ar (82 + n + 3)), some (ar (82 + n + 4)), some (ar (82 + n + 5)), some (ar (82 + n + 6)), none, none, none, none, none, none, none, none, none, none, none, none, none, none, none, none, none]) dL_isSo_40 (Nat.le_of_ble_eq_true rfl) rfl rfl ?_
  have g7 : gN (grow σ6) = n + 7 := by rw [gN_grow (by omega), g6]
  have f7 : ∀ z, z < 82 → grow σ6 z = σ z := fun z hz => by rw [grow_ne (by omega) (by omega), f6 z hz]
  obtain ⟨σ7, hσ7⟩ : ∃ z, z = grow σ6 := ⟨_, rfl⟩
  rw [← hσ7] at g7 f7 ⊢
  exact k σ7 (by refine ⟨?_, ?_, ?_⟩ <;> omega) f7 g7
theorem LI.of {σ σ' : Sg} {ρ : Nat → Int32} {s : Nat} (h : LI σ ρ s) (f : ∀ z, z < 82 → σ' z = σ z) : LI σ' ρ s := by
  obtain ⟨hR, hs, hRep, ⟨n, H, hHC⟩, hRD, ⟨g0, g1, g2, g3⟩, h81, h80, h76⟩ := h
  refine ⟨hR, hs, hRep.of_eq (f _ (by decide)) (f _ (by decide)) (f _ (by decide)), ⟨n, H, hHC.of (fun z h1 h2 => f z (by omega))⟩, hRD.of (fun z h1 h2 => f z (by omega)), ?_, ?_, ?_, ?_⟩
  · rw [f 79 (by decide)]; exact ⟨g0, g1, g2, g3⟩
  · rw [f 81 (by decide)]; exact h81
  · rw [f 80 (by decide)]; exact h80
  · rw [f 76 (by decide)]; exact h76
theorem isSo_sp {n s : Nat} {ρ : Nat → Int32} {σ : Sg} (hI : LI σ ρ s) (hn0 : gN σ = n) (hn : n < 9000) : C mL_isSo [ar 0, ar 79, ar 80, ar 81] (mem σ) 7 448 (lift (fun w σ' => w = some (ai (nI 1)) ∧ (∀ z, z < 82 → σ' z = σ z) ∧ gN σ' = n + 7)) := by
  refine isSo_start hn0 hn (fun σ7 hB f g => ?_)
  refine isSo_rest (hI.of f) hB (by omega) (fun σ' hfe => ⟨rfl, fun z hz => ?_, ?_⟩)
  · rw [hfe z (by omega), f z hz]
  · rw [gN_of (hfe 99999 (by omega)), g]
