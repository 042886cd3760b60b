/-! THE LAW: letters by their values, right messages; counts of the reading -/
/-- a letter of the law's array, and the value that the class gives it -/
def LV (σ : Sg) (e : Nat) (v : Nat → Int32) (l : Nat) : Prop := ∃ x, σ (e + 6) l = nI x ∧ ((v l = -1 ∧ CM mL_good [ai (nI x)] σ (Ret (nI 0) σ) ∧ CM mL_letter [ar 81, ai (nI x)] σ (Ret (-1000004) σ)) ∨ ∃ z, z < 25 ∧ v l = nI z ∧ CM mL_good [ai (nI x)] σ (Ret (nI 1) σ) ∧ CM mL_letter [ar 81, ai (nI x)] σ (Ret (nI z) σ))
theorem nI_m1 {z : Nat} (h : z < 25) : ¬ nI z = (-1 : Int32) := by
  intro q
  have h1 := congrArg Int32.toInt q
  rw [nI_toInt (by omega)] at h1
  have h2 : ((-1 : Int32)).toInt = -1 := by decide
  rw [h2] at h1
  omega
theorem uF_all {v : Nat → Int32} {f : Nat} : ∀ n, (∀ i, i < n → v (f + i) ≠ -1) → uF v f n = 0
  | 0, _ => rfl
  | n + 1, h => by
    rw [uF, if_neg (h n (by omega))]
    exact uF_all n (fun i hi => h i (by omega))
set_option maxRecDepth 20000 in
set_option maxHeartbeats 2000000 in
theorem right_loop {e f n : Nat} {v : Nat → Int32} {σ : Sg} {Q : SP} (hB : XB σ e) (he : e + 7 ≤ 90000) (hfn : f + n ≤ 64) (hV : ∀ l, f ≤ l → l < f + n → LV σ e v l) (hn2 : 2 ≤ n) (kT : RGT v f n → Q (some (ai (nI 1))) σ) (kF : ¬ RGT v f n → Q (some (ai (nI 0))) σ) : ∀ m p S, p + m + 1 = n → (∀ i, i < p → v (f + i) ≠ -1) → sF v f p = nI S → S ≤ 24 * p → WM mL_right Q 20 [some (ar 81), some (ar (e + 6)), some (ai (nI f)), some (ai (nI (f + n))), some (ai (nI S)), some (ai (nI 1)), some (ai (nI (f + p)))] [] σ := by
  intro m
  induction m with
  | zero =>
    intro p S hp hall hS hS2
    obtain ⟨x, hx, h⟩ := hV (f + p) (by omega) (by omega)
    rcases h with ⟨hv, hgd, hlt⟩ | ⟨z, hz, hv, hgd, hlt⟩
    · have hno : ¬ RGT v f n := fun q => uF_zero n q.2.1 p (by omega) hv
      refine g_iload (p0 := 22) dL_right_20 rfl rfl ?_
      refine g_iload_n (p0 := 23) (i := 3) dL_right_22 rfl rfl rfl ?_
      first | ((with_reducible refine isN2 ?_); refine g_icmpN_ge (tgt := 90) (p1 := 26) dL_right_23 rfl (by omega) (by omega) rfl (fun c_23 => by exfalso; first | omega | contradiction | exact absurd (by assumption) c_23 | (simp_all; done)) (fun c_23 => ?_)) | refine g_icmp_ge (tgt := 90) (p1 := 26) dL_right_23 rfl rfl (fun c_23 => by exfalso; first | omega | contradiction | exact absurd (by assumption) c_23 | (simp_all; done)) (fun c_23 => ?_)
      refine g_iload (p0 := 28) dL_right_26 rfl rfl ?_
      first | ((with_reducible refine isN1 ?_); refine g_ifN_eq (tgt := 90) (p1 := 31) dL_right_28 rfl (by omega) rfl (fun c_28 => by exfalso; first | omega | contradiction | exact absurd (by assumption) c_28 | (simp_all; done)) (fun c_28 => ?_)) | refine g_if_eq (tgt := 90) (p1 := 31) dL_right_28 rfl rfl (fun c_28 => by exfalso; first | omega | contradiction | exact absurd (by assumption) c_28 | (simp_all; done)) (fun c_28 => ?_)
      refine g_aload_n (p0 := 32) (i := 1) dL_right_31 rfl rfl rfl ?_
      refine g_iload (p0 := 34) dL_right_32 rfl rfl ?_
      refine g_aldX (p0 := 35) dL_right_34 (by repeat (first | assumption | refine XB.up (by omega) ?_)) ⟨rfl, by decide⟩ (by omega) (by first | assumption | ((repeat (first | exact up_hit | (apply up_nv; omega) | (apply up_mv; omega))) <;> first | assumption | rfl)) rfl ?_
      refine g_cS1R (p0 := 38) (r1 := mL_good) dL_right_35 (Or.inl lL_22) vL_good (FITi rfl rfl) (Nat.le_of_ble_eq_true rfl) (hgd) rfl ?_
      refine g_istore (p0 := 40) (i := 5) (ls2 := [_, _, _, _, _, _, _]) dL_right_38 (Nat.le_of_ble_eq_true rfl) rfl rfl ?_
      refine g_iload (p0 := 42) dL_right_40 rfl rfl ?_
      refine g_iload (p0 := 44) dL_right_42 rfl rfl ?_
      first | ((with_reducible refine isN1 ?_); refine g_ifN_eq (tgt := 80) (p1 := 47) dL_right_44 rfl (by omega) rfl (fun c_44 => ?_) (fun c_44 => by exfalso; first | omega | contradiction | exact absurd (by assumption) c_44 | (simp_all; done))) | refine g_if_eq (tgt := 80) (p1 := 47) dL_right_44 rfl rfl (fun c_44 => ?_) (fun c_44 => by exfalso; first | omega | contradiction | exact absurd (by assumption) c_44 | (simp_all; done))
      refine g_iconst (p0 := 81) (v := nI 0) dL_right_80 rfl rfl ?_
      first | ((with_reducible refine isN2 ?_); refine g_iaddN (p0 := 82) dL_right_81 rfl ?_) | refine g_iadd (p0 := 82) dL_right_81 rfl ?_
      refine g_istore (p0 := 84) (i := 4) (ls2 := [_, _, _, _, _, _, _]) dL_right_82 (Nat.le_of_ble_eq_true rfl) rfl rfl ?_
      first | refine g_iinc1 (p0 := 87) (ls2 := [_, _, _, _, _, _, _]) dL_right_84 rfl rfl rfl ?_ | refine g_iinc (p0 := 87) (ls2 := [_, _, _, _, _, _, _]) dL_right_84 rfl rfl rfl rfl ?_
      refine g_goto (tgt := 20) dL_right_87 rfl ?_
      refine g_iload (p0 := 22) dL_right_20 rfl rfl ?_
      refine g_iload_n (p0 := 23) (i := 3) dL_right_22 rfl rfl rfl ?_
      first | ((with_reducible refine isN2 ?_); refine g_icmpN_ge (tgt := 90) (p1 := 26) dL_right_23 rfl (by omega) (by omega) rfl (fun c_23 => ?_) (fun c_23 => by exfalso; first | omega | contradiction | exact absurd (by assumption) c_23 | (simp_all; done))) | refine g_icmp_ge (tgt := 90) (p1 := 26) dL_right_23 rfl rfl (fun c_23 => ?_) (fun c_23 => by exfalso; first | omega | contradiction | exact absurd (by assumption) c_23 | (simp_all; done))
      refine g_iload (p0 := 92) dL_right_90 rfl rfl ?_
      first | ((with_reducible refine isN1 ?_); refine g_ifN_eq (tgt := 107) (p1 := 95) dL_right_92 rfl (by omega) rfl (fun c_92 => ?_) (fun c_92 => by exfalso; first | omega | contradiction | exact absurd (by assumption) c_92 | (simp_all; done))) | refine g_if_eq (tgt := 107) (p1 := 95) dL_right_92 rfl rfl (fun c_92 => ?_) (fun c_92 => by exfalso; first | omega | contradiction | exact absurd (by assumption) c_92 | (simp_all; done))
      refine g_iconst (p0 := 108) (v := nI 0) dL_right_107 rfl rfl ?_
      refine g_ireturn dL_right_108 rfl (by first | rfl | exact bool_narrow (by first | exact Or.inl rfl | exact Or.inr rfl | assumption | (split <;> first | exact Or.inl rfl | exact Or.inr rfl))) (?_)
      exact kF hno
    · have hv2 : v (f + p) ≠ -1 := by rw [hv]; exact nI_m1 hz
      have hall2 : ∀ i, i < n → v (f + i) ≠ -1 := fun i hi => by
        by_cases e1 : i = p
        · subst e1; exact hv2
        · exact hall i (by omega)
      have hR : RGT v f n ↔ (S + (25 - z)) % 25 = 0 := by
        have e1 : sF v f n - v (f + (n - 1)) = nI S := by
          rw [show n = p + 1 by omega, sF, if_neg hv2, hS, hv, nI_add, Nat.add_sub_cancel, hv, pk_sub (by omega), Nat.add_sub_cancel]
        have e2 : v (f + (n - 1)) = nI z := by rw [show n - 1 = p by omega]; exact hv
        rw [RGT, e1, e2, pk_rem (by omega) (by decide) (by decide), nI_inj (by omega) (by omega)]
        constructor
        · rintro ⟨_, _, h3⟩; omega
        · intro h3; exact ⟨hn2, uF_all n hall2, by omega⟩
      by_cases h25 : (S + (25 - z)) % 25 = 0
      · have kT2 := kT (hR.mpr h25)
        refine g_iload (p0 := 22) dL_right_20 rfl rfl ?_
        refine g_iload_n (p0 := 23) (i := 3) dL_right_22 rfl rfl rfl ?_
        first | ((with_reducible refine isN2 ?_); refine g_icmpN_ge (tgt := 90) (p1 := 26) dL_right_23 rfl (by omega) (by omega) rfl (fun c_23 => by exfalso; first | omega | contradiction | exact absurd (by assumption) c_23 | (simp_all; done)) (fun c_23 => ?_)) | refine g_icmp_ge (tgt := 90) (p1 := 26) dL_right_23 rfl rfl (fun c_23 => by exfalso; first | omega | contradiction | exact absurd (by assumption) c_23 | (simp_all; done)) (fun c_23 => ?_)
        refine g_iload (p0 := 28) dL_right_26 rfl rfl ?_
        first | ((with_reducible refine isN1 ?_); refine g_ifN_eq (tgt := 90) (p1 := 31) dL_right_28 rfl (by omega) rfl (fun c_28 => by exfalso; first | omega | contradiction | exact absurd (by assumption) c_28 | (simp_all; done)) (fun c_28 => ?_)) | refine g_if_eq (tgt := 90) (p1 := 31) dL_right_28 rfl rfl (fun c_28 => by exfalso; first | omega | contradiction | exact absurd (by assumption) c_28 | (simp_all; done)) (fun c_28 => ?_)
        refine g_aload_n (p0 := 32) (i := 1) dL_right_31 rfl rfl rfl ?_
        refine g_iload (p0 := 34) dL_right_32 rfl rfl ?_
        refine g_aldX (p0 := 35) dL_right_34 (by repeat (first | assumption | refine XB.up (by omega) ?_)) ⟨rfl, by decide⟩ (by omega) (by first | assumption | ((repeat (first | exact up_hit | (apply up_nv; omega) | (apply up_mv; omega))) <;> first | assumption | rfl)) rfl ?_
        refine g_cS1R (p0 := 38) (r1 := mL_good) dL_right_35 (Or.inl lL_22) vL_good (FITi rfl rfl) (Nat.le_of_ble_eq_true rfl) (hgd) rfl ?_
        refine g_istore (p0 := 40) (i := 5) (ls2 := [_, _, _, _, _, _, _]) dL_right_38 (Nat.le_of_ble_eq_true rfl) rfl rfl ?_
        refine g_iload (p0 := 42) dL_right_40 rfl rfl ?_
        refine g_iload (p0 := 44) dL_right_42 rfl rfl ?_
        first | ((with_reducible refine isN1 ?_); refine g_ifN_eq (tgt := 80) (p1 := 47) dL_right_44 rfl (by omega) rfl (fun c_44 => by exfalso; first | omega | contradiction | exact absurd (by assumption) c_44 | (simp_all; done)) (fun c_44 => ?_)) | refine g_if_eq (tgt := 80) (p1 := 47) dL_right_44 rfl rfl (fun c_44 => by exfalso; first | omega | contradiction | exact absurd (by assumption) c_44 | (simp_all; done)) (fun c_44 => ?_)
        refine g_iload (p0 := 49) dL_right_47 rfl rfl ?_
        refine g_iload_n (p0 := 50) (i := 3) dL_right_49 rfl rfl rfl ?_
        refine g_iconst (p0 := 51) (v := nI 1) dL_right_50 rfl rfl ?_
        first | ((with_reducible refine isN2 ?_); refine g_isubN (p0 := 52) dL_right_51 (by omega) rfl ?_) | refine g_isub (p0 := 52) dL_right_51 rfl ?_
        first | ((with_reducible refine isN2 ?_); refine g_icmpN_ne (tgt := 69) (p1 := 55) dL_right_52 rfl (by omega) (by omega) rfl (fun c_52 => by exfalso; first | omega | contradiction | exact absurd (by assumption) c_52 | (simp_all; done)) (fun c_52 => ?_)) | refine g_icmp_ne (tgt := 69) (p1 := 55) dL_right_52 rfl rfl (fun c_52 => by exfalso; first | omega | contradiction | exact absurd (by assumption) c_52 | (simp_all; done)) (fun c_52 => ?_)
        refine g_bipush (p0 := 57) (v := nI 25) dL_right_55 (by decide) rfl ?_
        refine g_aload_n (p0 := 58) (i := 0) dL_right_57 rfl rfl rfl ?_
        refine g_aload_n (p0 := 59) (i := 1) dL_right_58 rfl rfl rfl ?_
        refine g_iload (p0 := 61) dL_right_59 rfl rfl ?_
        refine g_aldX (p0 := 62) dL_right_61 (by repeat (first | assumption | refine XB.up (by omega) ?_)) ⟨rfl, by decide⟩ (by omega) (by first | assumption | ((repeat (first | exact up_hit | (apply up_nv; omega) | (apply up_mv; omega))) <;> first | assumption | rfl)) rfl ?_
        refine g_cS2R (p0 := 65) (r1 := mL_letter) dL_right_62 (Or.inl lL_31) vL_letter (FITi rfl rfl) (Nat.le_of_ble_eq_true rfl) (hlt) rfl ?_
        first | ((with_reducible refine isN2 ?_); refine g_isubN (p0 := 66) dL_right_65 (by omega) rfl ?_) | refine g_isub (p0 := 66) dL_right_65 rfl ?_
        refine g_goto (tgt := 81) dL_right_66 rfl ?_
        first | ((with_reducible refine isN2 ?_); refine g_iaddN (p0 := 82) dL_right_81 rfl ?_) | refine g_iadd (p0 := 82) dL_right_81 rfl ?_
        refine g_istore (p0 := 84) (i := 4) (ls2 := [_, _, _, _, _, _, _]) dL_right_82 (Nat.le_of_ble_eq_true rfl) rfl rfl ?_
        first | refine g_iinc1 (p0 := 87) (ls2 := [_, _, _, _, _, _, _]) dL_right_84 rfl rfl rfl ?_ | refine g_iinc (p0 := 87) (ls2 := [_, _, _, _, _, _, _]) dL_right_84 rfl rfl rfl rfl ?_
        refine g_goto (tgt := 20) dL_right_87 rfl ?_
        refine g_iload (p0 := 22) dL_right_20 rfl rfl ?_
        refine g_iload_n (p0 := 23) (i := 3) dL_right_22 rfl rfl rfl ?_
        first | ((with_reducible refine isN2 ?_); refine g_icmpN_ge (tgt := 90) (p1 := 26) dL_right_23 rfl (by omega) (by omega) rfl (fun c_23 => ?_) (fun c_23 => by exfalso; first | omega | contradiction | exact absurd (by assumption) c_23 | (simp_all; done))) | refine g_icmp_ge (tgt := 90) (p1 := 26) dL_right_23 rfl rfl (fun c_23 => ?_) (fun c_23 => by exfalso; first | omega | contradiction | exact absurd (by assumption) c_23 | (simp_all; done))
        refine g_iload (p0 := 92) dL_right_90 rfl rfl ?_
        first | ((with_reducible refine isN1 ?_); refine g_ifN_eq (tgt := 107) (p1 := 95) dL_right_92 rfl (by omega) rfl (fun c_92 => by exfalso; first | omega | contradiction | exact absurd (by assumption) c_92 | (simp_all; done)) (fun c_92 => ?_)) | refine g_if_eq (tgt := 107) (p1 := 95) dL_right_92 rfl rfl (fun c_92 => by exfalso; first | omega | contradiction | exact absurd (by assumption) c_92 | (simp_all; done)) (fun c_92 => ?_)
        refine g_iload (p0 := 97) dL_right_95 rfl rfl ?_
        refine g_bipush (p0 := 99) (v := nI 25) dL_right_97 (by decide) rfl ?_
        first | ((with_reducible refine isN2 ?_); refine g_iremN (p0 := 100) dL_right_99 (by omega) (by omega) (by omega) rfl ?_) | refine g_irem (p0 := 100) dL_right_99 (by decide) rfl ?_
        first | ((with_reducible refine isN1 ?_); refine g_ifN_ne (tgt := 107) (p1 := 103) dL_right_100 rfl (by omega) rfl (fun c_100 => by exfalso; first | omega | contradiction | exact absurd (by assumption) c_100 | (simp_all; done)) (fun c_100 => ?_)) | refine g_if_ne (tgt := 107) (p1 := 103) dL_right_100 rfl rfl (fun c_100 => by exfalso; first | omega | contradiction | exact absurd (by assumption) c_100 | (simp_all; done)) (fun c_100 => ?_)
        refine g_iconst (p0 := 104) (v := nI 1) dL_right_103 rfl rfl ?_
        refine g_goto (tgt := 108) dL_right_104 rfl ?_
        refine g_ireturn dL_right_108 rfl (by first | rfl | exact bool_narrow (by first | exact Or.inl rfl | exact Or.inr rfl | assumption | (split <;> first | exact Or.inl rfl | exact Or.inr rfl))) (?_)
        exact kT2
      · have kF2 := kF (fun q => h25 (hR.mp q))
        refine g_iload (p0 := 22) dL_right_20 rfl rfl ?_
        refine g_iload_n (p0 := 23) (i := 3) dL_right_22 rfl rfl rfl ?_
        first | ((with_reducible refine isN2 ?_); refine g_icmpN_ge (tgt := 90) (p1 := 26) dL_right_23 rfl (by omega) (by omega) rfl (fun c_23 => by exfalso; first | omega | contradiction | exact absurd (by assumption) c_23 | (simp_all; done)) (fun c_23 => ?_)) | refine g_icmp_ge (tgt := 90) (p1 := 26) dL_right_23 rfl rfl (fun c_23 => by exfalso; first | omega | contradiction | exact absurd (by assumption) c_23 | (simp_all; done)) (fun c_23 => ?_)
        refine g_iload (p0 := 28) dL_right_26 rfl rfl ?_
        first | ((with_reducible refine isN1 ?_); refine g_ifN_eq (tgt := 90) (p1 := 31) dL_right_28 rfl (by omega) rfl (fun c_28 => by exfalso; first | omega | contradiction | exact absurd (by assumption) c_28 | (simp_all; done)) (fun c_28 => ?_)) | refine g_if_eq (tgt := 90) (p1 := 31) dL_right_28 rfl rfl (fun c_28 => by exfalso; first | omega | contradiction | exact absurd (by assumption) c_28 | (simp_all; done)) (fun c_28 => ?_)
        refine g_aload_n (p0 := 32) (i := 1) dL_right_31 rfl rfl rfl ?_
        refine g_iload (p0 := 34) dL_right_32 rfl rfl ?_
        refine g_aldX (p0 := 35) dL_right_34 (by repeat (first | assumption | refine XB.up (by omega) ?_)) ⟨rfl, by decide⟩ (by omega) (by first | assumption | ((repeat (first | exact up_hit | (apply up_nv; omega) | (apply up_mv; omega))) <;> first | assumption | rfl)) rfl ?_
        refine g_cS1R (p0 := 38) (r1 := mL_good) dL_right_35 (Or.inl lL_22) vL_good (FITi rfl rfl) (Nat.le_of_ble_eq_true rfl) (hgd) rfl ?_
        refine g_istore (p0 := 40) (i := 5) (ls2 := [_, _, _, _, _, _, _]) dL_right_38 (Nat.le_of_ble_eq_true rfl) rfl rfl ?_
        refine g_iload (p0 := 42) dL_right_40 rfl rfl ?_
        refine g_iload (p0 := 44) dL_right_42 rfl rfl ?_
        first | ((with_reducible refine isN1 ?_); refine g_ifN_eq (tgt := 80) (p1 := 47) dL_right_44 rfl (by omega) rfl (fun c_44 => by exfalso; first | omega | contradiction | exact absurd (by assumption) c_44 | (simp_all; done)) (fun c_44 => ?_)) | refine g_if_eq (tgt := 80) (p1 := 47) dL_right_44 rfl rfl (fun c_44 => by exfalso; first | omega | contradiction | exact absurd (by assumption) c_44 | (simp_all; done)) (fun c_44 => ?_)
        refine g_iload (p0 := 49) dL_right_47 rfl rfl ?_
        refine g_iload_n (p0 := 50) (i := 3) dL_right_49 rfl rfl rfl ?_
        refine g_iconst (p0 := 51) (v := nI 1) dL_right_50 rfl rfl ?_
        first | ((with_reducible refine isN2 ?_); refine g_isubN (p0 := 52) dL_right_51 (by omega) rfl ?_) | refine g_isub (p0 := 52) dL_right_51 rfl ?_
        first | ((with_reducible refine isN2 ?_); refine g_icmpN_ne (tgt := 69) (p1 := 55) dL_right_52 rfl (by omega) (by omega) rfl (fun c_52 => by exfalso; first | omega | contradiction | exact absurd (by assumption) c_52 | (simp_all; done)) (fun c_52 => ?_)) | refine g_icmp_ne (tgt := 69) (p1 := 55) dL_right_52 rfl rfl (fun c_52 => by exfalso; first | omega | contradiction | exact absurd (by assumption) c_52 | (simp_all; done)) (fun c_52 => ?_)
        refine g_bipush (p0 := 57) (v := nI 25) dL_right_55 (by decide) rfl ?_
        refine g_aload_n (p0 := 58) (i := 0) dL_right_57 rfl rfl rfl ?_
        refine g_aload_n (p0 := 59) (i := 1) dL_right_58 rfl rfl rfl ?_
        refine g_iload (p0 := 61) dL_right_59 rfl rfl ?_
        refine g_aldX (p0 := 62) dL_right_61 (by repeat (first | assumption | refine XB.up (by omega) ?_)) ⟨rfl, by decide⟩ (by omega) (by first | assumption | ((repeat (first | exact up_hit | (apply up_nv; omega) | (apply up_mv; omega))) <;> first | assumption | rfl)) rfl ?_
        refine g_cS2R (p0 := 65) (r1 := mL_letter) dL_right_62 (Or.inl lL_31) vL_letter (FITi rfl rfl) (Nat.le_of_ble_eq_true rfl) (hlt) rfl ?_
        first | ((with_reducible refine isN2 ?_); refine g_isubN (p0 := 66) dL_right_65 (by omega) rfl ?_) | refine g_isub (p0 := 66) dL_right_65 rfl ?_
        refine g_goto (tgt := 81) dL_right_66 rfl ?_
        first | ((with_reducible refine isN2 ?_); refine g_iaddN (p0 := 82) dL_right_81 rfl ?_) | refine g_iadd (p0 := 82) dL_right_81 rfl ?_
        refine g_istore (p0 := 84) (i := 4) (ls2 := [_, _, _, _, _, _, _]) dL_right_82 (Nat.le_of_ble_eq_true rfl) rfl rfl ?_
        first | refine g_iinc1 (p0 := 87) (ls2 := [_, _, _, _, _, _, _]) dL_right_84 rfl rfl rfl ?_ | refine g_iinc (p0 := 87) (ls2 := [_, _, _, _, _, _, _]) dL_right_84 rfl rfl rfl rfl ?_
        refine g_goto (tgt := 20) dL_right_87 rfl ?_
        refine g_iload (p0 := 22) dL_right_20 rfl rfl ?_
        refine g_iload_n (p0 := 23) (i := 3) dL_right_22 rfl rfl rfl ?_
        first | ((with_reducible refine isN2 ?_); refine g_icmpN_ge (tgt := 90) (p1 := 26) dL_right_23 rfl (by omega) (by omega) rfl (fun c_23 => ?_) (fun c_23 => by exfalso; first | omega | contradiction | exact absurd (by assumption) c_23 | (simp_all; done))) | refine g_icmp_ge (tgt := 90) (p1 := 26) dL_right_23 rfl rfl (fun c_23 => ?_) (fun c_23 => by exfalso; first | omega | contradiction | exact absurd (by assumption) c_23 | (simp_all; done))
        refine g_iload (p0 := 92) dL_right_90 rfl rfl ?_
        first | ((with_reducible refine isN1 ?_); refine g_ifN_eq (tgt := 107) (p1 := 95) dL_right_92 rfl (by omega) rfl (fun c_92 => by exfalso; first | omega | contradiction | exact absurd (by assumption) c_92 | (simp_all; done)) (fun c_92 => ?_)) | refine g_if_eq (tgt := 107) (p1 := 95) dL_right_92 rfl rfl (fun c_92 => by exfalso; first | omega | contradiction | exact absurd (by assumption) c_92 | (simp_all; done)) (fun c_92 => ?_)
        refine g_iload (p0 := 97) dL_right_95 rfl rfl ?_
        refine g_bipush (p0 := 99) (v := nI 25) dL_right_97 (by decide) rfl ?_
        first | ((with_reducible refine isN2 ?_); refine g_iremN (p0 := 100) dL_right_99 (by omega) (by omega) (by omega) rfl ?_) | refine g_irem (p0 := 100) dL_right_99 (by decide) rfl ?_
        first | ((with_reducible refine isN1 ?_); refine g_ifN_ne (tgt := 107) (p1 := 103) dL_right_100 rfl (by omega) rfl (fun c_100 => ?_) (fun c_100 => by exfalso; first | omega | contradiction | exact absurd (by assumption) c_100 | (simp_all; done))) | refine g_if_ne (tgt := 107) (p1 := 103) dL_right_100 rfl rfl (fun c_100 => ?_) (fun c_100 => by exfalso; first | omega | contradiction | exact absurd (by assumption) c_100 | (simp_all; done))
        refine g_iconst (p0 := 108) (v := nI 0) dL_right_107 rfl rfl ?_
        refine g_ireturn dL_right_108 rfl (by first | rfl | exact bool_narrow (by first | exact Or.inl rfl | exact Or.inr rfl | assumption | (split <;> first | exact Or.inl rfl | exact Or.inr rfl))) (?_)
        exact kF2
  | succ m ih =>
    intro p S hp hall hS hS2
    obtain ⟨x, hx, h⟩ := hV (f + p) (by omega) (by omega)
    rcases h with ⟨hv, hgd, hlt⟩ | ⟨z, hz, hv, hgd, hlt⟩
    · have hno : ¬ RGT v f n := fun q => uF_zero n q.2.1 p (by omega) hv
      refine g_iload (p0 := 22) dL_right_20 rfl rfl ?_
      refine g_iload_n (p0 := 23) (i := 3) dL_right_22 rfl rfl rfl ?_
      first | ((with_reducible refine isN2 ?_); refine g_icmpN_ge (tgt := 90) (p1 := 26) dL_right_23 rfl (by omega) (by omega) rfl (fun c_23 => by exfalso; first | omega | contradiction | exact absurd (by assumption) c_23 | (simp_all; done)) (fun c_23 => ?_)) | refine g_icmp_ge (tgt := 90) (p1 := 26) dL_right_23 rfl rfl (fun c_23 => by exfalso; first | omega | contradiction | exact absurd (by assumption) c_23 | (simp_all; done)) (fun c_23 => ?_)
      refine g_iload (p0 := 28) dL_right_26 rfl rfl ?_
      first | ((with_reducible refine isN1 ?_); refine g_ifN_eq (tgt := 90) (p1 := 31) dL_right_28 rfl (by omega) rfl (fun c_28 => by exfalso; first | omega | contradiction | exact absurd (by assumption) c_28 | (simp_all; done)) (fun c_28 => ?_)) | refine g_if_eq (tgt := 90) (p1 := 31) dL_right_28 rfl rfl (fun c_28 => by exfalso; first | omega | contradiction | exact absurd (by assumption) c_28 | (simp_all; done)) (fun c_28 => ?_)
      refine g_aload_n (p0 := 32) (i := 1) dL_right_31 rfl rfl rfl ?_
      refine g_iload (p0 := 34) dL_right_32 rfl rfl ?_
      refine g_aldX (p0 := 35) dL_right_34 (by repeat (first | assumption | refine XB.up (by omega) ?_)) ⟨rfl, by decide⟩ (by omega) (by first | assumption | ((repeat (first | exact up_hit | (apply up_nv; omega) | (apply up_mv; omega))) <;> first | assumption | rfl)) rfl ?_
      refine g_cS1R (p0 := 38) (r1 := mL_good) dL_right_35 (Or.inl lL_22) vL_good (FITi rfl rfl) (Nat.le_of_ble_eq_true rfl) (hgd) rfl ?_
      refine g_istore (p0 := 40) (i := 5) (ls2 := [_, _, _, _, _, _, _]) dL_right_38 (Nat.le_of_ble_eq_true rfl) rfl rfl ?_
      refine g_iload (p0 := 42) dL_right_40 rfl rfl ?_
      refine g_iload (p0 := 44) dL_right_42 rfl rfl ?_
      first | ((with_reducible refine isN1 ?_); refine g_ifN_eq (tgt := 80) (p1 := 47) dL_right_44 rfl (by omega) rfl (fun c_44 => ?_) (fun c_44 => by exfalso; first | omega | contradiction | exact absurd (by assumption) c_44 | (simp_all; done))) | refine g_if_eq (tgt := 80) (p1 := 47) dL_right_44 rfl rfl (fun c_44 => ?_) (fun c_44 => by exfalso; first | omega | contradiction | exact absurd (by assumption) c_44 | (simp_all; done))
      refine g_iconst (p0 := 81) (v := nI 0) dL_right_80 rfl rfl ?_
      first | ((with_reducible refine isN2 ?_); refine g_iaddN (p0 := 82) dL_right_81 rfl ?_) | refine g_iadd (p0 := 82) dL_right_81 rfl ?_
      refine g_istore (p0 := 84) (i := 4) (ls2 := [_, _, _, _, _, _, _]) dL_right_82 (Nat.le_of_ble_eq_true rfl) rfl rfl ?_
      first | refine g_iinc1 (p0 := 87) (ls2 := [_, _, _, _, _, _, _]) dL_right_84 rfl rfl rfl ?_ | refine g_iinc (p0 := 87) (ls2 := [_, _, _, _, _, _, _]) dL_right_84 rfl rfl rfl rfl ?_
      refine g_goto (tgt := 20) dL_right_87 rfl ?_
      refine g_iload (p0 := 22) dL_right_20 rfl rfl ?_
      refine g_iload_n (p0 := 23) (i := 3) dL_right_22 rfl rfl rfl ?_
      first | ((with_reducible refine isN2 ?_); refine g_icmpN_ge (tgt := 90) (p1 := 26) dL_right_23 rfl (by omega) (by omega) rfl (fun c_23 => by exfalso; first | omega | contradiction | exact absurd (by assumption) c_23 | (simp_all; done)) (fun c_23 => ?_)) | refine g_icmp_ge (tgt := 90) (p1 := 26) dL_right_23 rfl rfl (fun c_23 => by exfalso; first | omega | contradiction | exact absurd (by assumption) c_23 | (simp_all; done)) (fun c_23 => ?_)
      refine g_iload (p0 := 28) dL_right_26 rfl rfl ?_
      first | ((with_reducible refine isN1 ?_); refine g_ifN_eq (tgt := 90) (p1 := 31) dL_right_28 rfl (by omega) rfl (fun c_28 => ?_) (fun c_28 => by exfalso; first | omega | contradiction | exact absurd (by assumption) c_28 | (simp_all; done))) | refine g_if_eq (tgt := 90) (p1 := 31) dL_right_28 rfl rfl (fun c_28 => ?_) (fun c_28 => by exfalso; first | omega | contradiction | exact absurd (by assumption) c_28 | (simp_all; done))
      refine g_iload (p0 := 92) dL_right_90 rfl rfl ?_
      first | ((with_reducible refine isN1 ?_); refine g_ifN_eq (tgt := 107) (p1 := 95) dL_right_92 rfl (by omega) rfl (fun c_92 => ?_) (fun c_92 => by exfalso; first | omega | contradiction | exact absurd (by assumption) c_92 | (simp_all; done))) | refine g_if_eq (tgt := 107) (p1 := 95) dL_right_92 rfl rfl (fun c_92 => ?_) (fun c_92 => by exfalso; first | omega | contradiction | exact absurd (by assumption) c_92 | (simp_all; done))
      refine g_iconst (p0 := 108) (v := nI 0) dL_right_107 rfl rfl ?_
      refine g_ireturn dL_right_108 rfl (by first | rfl | exact bool_narrow (by first | exact Or.inl rfl | exact Or.inr rfl | assumption | (split <;> first | exact Or.inl rfl | exact Or.inr rfl))) (?_)
      exact kF hno
    · have hv2 : v (f + p) ≠ -1 := by rw [hv]; exact nI_m1 hz
      refine g_iload (p0 := 22) dL_right_20 rfl rfl ?_
      refine g_iload_n (p0 := 23) (i := 3) dL_right_22 rfl rfl rfl ?_
      first | ((with_reducible refine isN2 ?_); refine g_icmpN_ge (tgt := 90) (p1 := 26) dL_right_23 rfl (by omega) (by omega) rfl (fun c_23 => by exfalso; first | omega | contradiction | exact absurd (by assumption) c_23 | (simp_all; done)) (fun c_23 => ?_)) | refine g_icmp_ge (tgt := 90) (p1 := 26) dL_right_23 rfl rfl (fun c_23 => by exfalso; first | omega | contradiction | exact absurd (by assumption) c_23 | (simp_all; done)) (fun c_23 => ?_)
      refine g_iload (p0 := 28) dL_right_26 rfl rfl ?_
      first | ((with_reducible refine isN1 ?_); refine g_ifN_eq (tgt := 90) (p1 := 31) dL_right_28 rfl (by omega) rfl (fun c_28 => by exfalso; first | omega | contradiction | exact absurd (by assumption) c_28 | (simp_all; done)) (fun c_28 => ?_)) | refine g_if_eq (tgt := 90) (p1 := 31) dL_right_28 rfl rfl (fun c_28 => by exfalso; first | omega | contradiction | exact absurd (by assumption) c_28 | (simp_all; done)) (fun c_28 => ?_)
      refine g_aload_n (p0 := 32) (i := 1) dL_right_31 rfl rfl rfl ?_
      refine g_iload (p0 := 34) dL_right_32 rfl rfl ?_
      refine g_aldX (p0 := 35) dL_right_34 (by repeat (first | assumption | refine XB.up (by omega) ?_)) ⟨rfl, by decide⟩ (by omega) (by first | assumption | ((repeat (first | exact up_hit | (apply up_nv; omega) | (apply up_mv; omega))) <;> first | assumption | rfl)) rfl ?_
      refine g_cS1R (p0 := 38) (r1 := mL_good) dL_right_35 (Or.inl lL_22) vL_good (FITi rfl rfl) (Nat.le_of_ble_eq_true rfl) (hgd) rfl ?_
      refine g_istore (p0 := 40) (i := 5) (ls2 := [_, _, _, _, _, _, _]) dL_right_38 (Nat.le_of_ble_eq_true rfl) rfl rfl ?_
      refine g_iload (p0 := 42) dL_right_40 rfl rfl ?_
      refine g_iload (p0 := 44) dL_right_42 rfl rfl ?_
      first | ((with_reducible refine isN1 ?_); refine g_ifN_eq (tgt := 80) (p1 := 47) dL_right_44 rfl (by omega) rfl (fun c_44 => by exfalso; first | omega | contradiction | exact absurd (by assumption) c_44 | (simp_all; done)) (fun c_44 => ?_)) | refine g_if_eq (tgt := 80) (p1 := 47) dL_right_44 rfl rfl (fun c_44 => by exfalso; first | omega | contradiction | exact absurd (by assumption) c_44 | (simp_all; done)) (fun c_44 => ?_)
      refine g_iload (p0 := 49) dL_right_47 rfl rfl ?_
      refine g_iload_n (p0 := 50) (i := 3) dL_right_49 rfl rfl rfl ?_
      refine g_iconst (p0 := 51) (v := nI 1) dL_right_50 rfl rfl ?_
      first | ((with_reducible refine isN2 ?_); refine g_isubN (p0 := 52) dL_right_51 (by omega) rfl ?_) | refine g_isub (p0 := 52) dL_right_51 rfl ?_
      first | ((with_reducible refine isN2 ?_); refine g_icmpN_ne (tgt := 69) (p1 := 55) dL_right_52 rfl (by omega) (by omega) rfl (fun c_52 => ?_) (fun c_52 => by exfalso; first | omega | contradiction | exact absurd (by assumption) c_52 | (simp_all; done))) | refine g_icmp_ne (tgt := 69) (p1 := 55) dL_right_52 rfl rfl (fun c_52 => ?_) (fun c_52 => by exfalso; first | omega | contradiction | exact absurd (by assumption) c_52 | (simp_all; done))
      refine g_aload_n (p0 := 70) (i := 0) dL_right_69 rfl rfl rfl ?_
      refine g_aload_n (p0 := 71) (i := 1) dL_right_70 rfl rfl rfl ?_
      refine g_iload (p0 := 73) dL_right_71 rfl rfl ?_
      refine g_aldX (p0 := 74) dL_right_73 (by repeat (first | assumption | refine XB.up (by omega) ?_)) ⟨rfl, by decide⟩ (by omega) (by first | assumption | ((repeat (first | exact up_hit | (apply up_nv; omega) | (apply up_mv; omega))) <;> first | assumption | rfl)) rfl ?_
      refine g_cS2R (p0 := 77) (r1 := mL_letter) dL_right_74 (Or.inl lL_31) vL_letter (FITi rfl rfl) (Nat.le_of_ble_eq_true rfl) (hlt) rfl ?_
      refine g_goto (tgt := 81) dL_right_77 rfl ?_
      first | ((with_reducible refine isN2 ?_); refine g_iaddN (p0 := 82) dL_right_81 rfl ?_) | refine g_iadd (p0 := 82) dL_right_81 rfl ?_
      refine g_istore (p0 := 84) (i := 4) (ls2 := [_, _, _, _, _, _, _]) dL_right_82 (Nat.le_of_ble_eq_true rfl) rfl rfl ?_
      first | refine g_iinc1 (p0 := 87) (ls2 := [_, _, _, _, _, _, _]) dL_right_84 rfl rfl rfl ?_ | refine g_iinc (p0 := 87) (ls2 := [_, _, _, _, _, _, _]) dL_right_84 rfl rfl rfl rfl ?_
      refine g_goto (tgt := 20) dL_right_87 rfl ?_
      refine ih (p + 1) (S + z) (by omega) (fun i hi => ?_) ?_ (by omega)
      · by_cases e1 : i = p
        · subst e1; exact hv2
        · exact hall i (by omega)
      · rw [sF, if_neg hv2, hS, hv, nI_add]
set_option maxRecDepth 20000 in
set_option maxHeartbeats 2000000 in
theorem right_all {e f n : Nat} {v : Nat → Int32} {σ : Sg} {Q : SP} (hB : XB σ e) (he : e + 7 ≤ 90000) (hfn : f + n ≤ 64) (hV : ∀ l, f ≤ l → l < f + n → LV σ e v l) (hn1 : 1 ≤ n) (kT : RGT v f n → Q (some (ai (nI 1))) σ) (kF : ¬ RGT v f n → Q (some (ai (nI 0))) σ) : WM mL_right Q 0 [some (ar 81), some (ar (e + 6)), some (ai (nI f)), some (ai (nI (f + n))), none, none, none] [] σ := by
  by_cases hn2 : 2 ≤ n
  · have h := right_loop hB he hfn hV hn2 kT kF (n - 1) 0 0 (by omega) (fun i hi => absurd hi (Nat.not_lt_zero i)) rfl (Nat.le_refl 0)
    refine g_iconst (p0 := 1) (v := nI 0) dL_right_0 rfl rfl ?_
    refine g_istore (p0 := 3) (i := 4) (ls2 := [_, _, _, _, _, _, _]) dL_right_1 (Nat.le_of_ble_eq_true rfl) rfl rfl ?_
    refine g_iload_n (p0 := 4) (i := 3) dL_right_3 rfl rfl rfl ?_
    refine g_iload_n (p0 := 5) (i := 2) dL_right_4 rfl rfl rfl ?_
    first | ((with_reducible refine isN2 ?_); refine g_isubN (p0 := 6) dL_right_5 (by omega) rfl ?_) | refine g_isub (p0 := 6) dL_right_5 rfl ?_
    refine g_iconst (p0 := 7) (v := nI 1) dL_right_6 rfl rfl ?_
    first | ((with_reducible refine isN2 ?_); refine g_icmpN_le (tgt := 14) (p1 := 10) dL_right_7 rfl (by omega) (by omega) rfl (fun c_7 => by exfalso; first | omega | contradiction | exact absurd (by assumption) c_7 | (simp_all; done)) (fun c_7 => ?_)) | refine g_icmp_le (tgt := 14) (p1 := 10) dL_right_7 rfl rfl (fun c_7 => by exfalso; first | omega | contradiction | exact absurd (by assumption) c_7 | (simp_all; done)) (fun c_7 => ?_)
    refine g_iconst (p0 := 11) (v := nI 1) dL_right_10 rfl rfl ?_
    refine g_goto (tgt := 15) dL_right_11 rfl ?_
    refine g_istore (p0 := 17) (i := 5) (ls2 := [_, _, _, _, _, _, _]) dL_right_15 (Nat.le_of_ble_eq_true rfl) rfl rfl ?_
    refine g_iload_n (p0 := 18) (i := 2) dL_right_17 rfl rfl rfl ?_
    refine g_istore (p0 := 20) (i := 6) (ls2 := [_, _, _, _, _, _, _]) dL_right_18 (Nat.le_of_ble_eq_true rfl) rfl rfl ?_
    exact h
  · have kF2 := kF (fun q => hn2 q.1)
    refine g_iconst (p0 := 1) (v := nI 0) dL_right_0 rfl rfl ?_
    refine g_istore (p0 := 3) (i := 4) (ls2 := [_, _, _, _, _, _, _]) dL_right_1 (Nat.le_of_ble_eq_true rfl) rfl rfl ?_
    refine g_iload_n (p0 := 4) (i := 3) dL_right_3 rfl rfl rfl ?_
    refine g_iload_n (p0 := 5) (i := 2) dL_right_4 rfl rfl rfl ?_
    first | ((with_reducible refine isN2 ?_); refine g_isubN (p0 := 6) dL_right_5 (by omega) rfl ?_) | refine g_isub (p0 := 6) dL_right_5 rfl ?_
    refine g_iconst (p0 := 7) (v := nI 1) dL_right_6 rfl rfl ?_
    first | ((with_reducible refine isN2 ?_); refine g_icmpN_le (tgt := 14) (p1 := 10) dL_right_7 rfl (by omega) (by omega) rfl (fun c_7 => ?_) (fun c_7 => by exfalso; first | omega | contradiction | exact absurd (by assumption) c_7 | (simp_all; done))) | refine g_icmp_le (tgt := 14) (p1 := 10) dL_right_7 rfl rfl (fun c_7 => ?_) (fun c_7 => by exfalso; first | omega | contradiction | exact absurd (by assumption) c_7 | (simp_all; done))
    refine g_iconst (p0 := 15) (v := nI 0) dL_right_14 rfl rfl ?_
    refine g_istore (p0 := 17) (i := 5) (ls2 := [_, _, _, _, _, _, _]) dL_right_15 (Nat.le_of_ble_eq_true rfl) rfl rfl ?_
    refine g_iload_n (p0 := 18) (i := 2) dL_right_17 rfl rfl rfl ?_
    refine g_istore (p0 := 20) (i := 6) (ls2 := [_, _, _, _, _, _, _]) dL_right_18 (Nat.le_of_ble_eq_true rfl) rfl rfl ?_
    refine g_iload (p0 := 22) dL_right_20 rfl rfl ?_
    refine g_iload_n (p0 := 23) (i := 3) dL_right_22 rfl rfl rfl ?_
    first | ((with_reducible refine isN2 ?_); refine g_icmpN_ge (tgt := 90) (p1 := 26) dL_right_23 rfl (by omega) (by omega) rfl (fun c_23 => by exfalso; first | omega | contradiction | exact absurd (by assumption) c_23 | (simp_all; done)) (fun c_23 => ?_)) | refine g_icmp_ge (tgt := 90) (p1 := 26) dL_right_23 rfl rfl (fun c_23 => by exfalso; first | omega | contradiction | exact absurd (by assumption) c_23 | (simp_all; done)) (fun c_23 => ?_)
    refine g_iload (p0 := 28) dL_right_26 rfl rfl ?_
    first | ((with_reducible refine isN1 ?_); refine g_ifN_eq (tgt := 90) (p1 := 31) dL_right_28 rfl (by omega) rfl (fun c_28 => ?_) (fun c_28 => by exfalso; first | omega | contradiction | exact absurd (by assumption) c_28 | (simp_all; done))) | refine g_if_eq (tgt := 90) (p1 := 31) dL_right_28 rfl rfl (fun c_28 => ?_) (fun c_28 => by exfalso; first | omega | contradiction | exact absurd (by assumption) c_28 | (simp_all; done))
    refine g_iload (p0 := 92) dL_right_90 rfl rfl ?_
    first | ((with_reducible refine isN1 ?_); refine g_ifN_eq (tgt := 107) (p1 := 95) dL_right_92 rfl (by omega) rfl (fun c_92 => ?_) (fun c_92 => by exfalso; first | omega | contradiction | exact absurd (by assumption) c_92 | (simp_all; done))) | refine g_if_eq (tgt := 107) (p1 := 95) dL_right_92 rfl rfl (fun c_92 => ?_) (fun c_92 => by exfalso; first | omega | contradiction | exact absurd (by assumption) c_92 | (simp_all; done))
    refine g_iconst (p0 := 108) (v := nI 0) dL_right_107 rfl rfl ?_
    refine g_ireturn dL_right_108 rfl (by first | rfl | exact bool_narrow (by first | exact Or.inl rfl | exact Or.inr rfl | assumption | (split <;> first | exact Or.inl rfl | exact Or.inr rfl))) (?_)
    exact kF2
theorem right_T {e f n : Nat} {v : Nat → Int32} {σ : Sg} (hB : XB σ e) (he : e + 7 ≤ 90000) (hfn : f + n ≤ 64) (hV : ∀ l, f ≤ l → l < f + n → LV σ e v l) (hn1 : 1 ≤ n) (h : RGT v f n) : CM mL_right [ar 81, ar (e + 6), ai (nI f), ai (nI (f + n))] σ (Ret (nI 1) σ) := by
  refine CM_in (ls := [some (ar 81), some (ar (e + 6)), some (ai (nI f)), some (ai (nI (f + n))), none, none, none]) rfl ?_
  exact right_all hB he hfn hV hn1 (fun _ => ⟨rfl, rfl⟩) (fun q => absurd h q)
theorem right_F {e f n : Nat} {v : Nat → Int32} {σ : Sg} (hB : XB σ e) (he : e + 7 ≤ 90000) (hfn : f + n ≤ 64) (hV : ∀ l, f ≤ l → l < f + n → LV σ e v l) (hn1 : 1 ≤ n) (h : ¬ RGT v f n) : CM mL_right [ar 81, ar (e + 6), ai (nI f), ai (nI (f + n))] σ (Ret (nI 0) σ) := by
  refine CM_in (ls := [some (ar 81), some (ar (e + 6)), some (ai (nI f)), some (ai (nI (f + n))), none, none, none]) rfl ?_
  exact right_all hB he hfn hV hn1 (fun q => absurd q h) (fun _ => ⟨rfl, rfl⟩)
theorem LV_of {e l g a b : Nat} {ρ : Nat → Int32} {s : Nat} {v : Nat → Int32} {σ : Sg} (hR : RowOK ρ s) (h81 : ∀ k, k < 25 → σ 81 k = ρ (4 + k)) (h6 : σ (e + 6) l = nI (g + 256 * a + 65536 * b)) (hg : g < 250) (ha : a < 250) (hb : b < 250) (h44 : ∀ k x, k < 25 → x < 25 → ρ (4 + k) = nI x → σ 44 x = nI k) (hv : v l = val (σ 44) g a b) : LV σ e v l := by
  obtain ⟨cf, hcf, hinj⟩ := hR.2.2.2.1
  refine ⟨_, h6, ?_⟩
  by_cases h : g = 2 ∧ 1 ≤ a ∧ a ≤ 5 ∧ 1 ≤ b ∧ b ≤ 5
  · right
    obtain ⟨k, hk, hkx⟩ := perm_hit (fun k hk => (hcf k hk).2) hinj (x := 5 * (a - 1) + b - 1) (by omega)
    have h2 := h44 k (5 * (a - 1) + b - 1) hk (by omega) (by rw [(hcf k hk).1, hkx])
    refine ⟨k, hk, ?_, good_T rfl (by omega) (by omega) (by omega) h, letter_T rfl (by omega) (by omega) (by omega) h (fun k hk => ⟨by rw [h81 k hk]; exact (hcf k hk).1, (hcf k hk).2⟩) hinj hk (by omega)⟩
    rw [hv, val, if_pos h, h2]
  · left
    refine ⟨?_, good_F rfl (by omega) (by omega) (by omega) h, letter_F rfl (by omega) (by omega) (by omega) h⟩
    rw [hv, val, if_neg h]
/-- strokes that are placed, strokes that are doubtful -/
def p2 (c : Nat → Nat) : Nat → Nat
  | 0 => 0
  | k + 1 => if c k = 2 then p2 c k + 1 else p2 c k
def dsm (d : Nat → Nat) : Nat → Nat
  | 0 => 0
  | k + 1 => dsm d k + d k
theorem p2_le (c : Nat → Nat) : ∀ k, p2 c k ≤ k
  | 0 => Nat.le_refl 0
  | k + 1 => by
    have h := p2_le c k
    rw [p2]
    split <;> omega
theorem dsm_le {d : Nat → Nat} (h : ∀ k, d k ≤ 1) : ∀ k, dsm d k ≤ k
  | 0 => Nat.le_refl 0
  | k + 1 => by
    have h1 := dsm_le h k
    have h2 := h k
    rw [dsm]
    omega
theorem lo_le (c : Nat → Nat) : ∀ k, lo c k ≤ k
  | 0 => Nat.le_refl 0
  | k + 1 => by
    have h := lo_le c k
    rw [lo]
    split <;> omega
theorem tt_cong {f g : Nat → Nat} : ∀ n, (∀ i, i < n → f i = g i) → tt f n = tt g n
  | 0, _ => rfl
  | n + 1, h => by rw [tt, tt, h n (by omega), tt_cong n (fun i hi => h i (by omega))]
theorem tt_one {f g : Nat → Nat} {y : Nat} : ∀ n, (∀ i, i + 1 < n → f i = g i) → 1 ≤ n → f (n - 1) = g (n - 1) + y → tt f n = tt g n + y
  | 0, _, h, _ => absurd h (by omega)
  | n + 1, h, _, h2 => by
    rw [Nat.add_sub_cancel] at h2
    rw [tt, tt, h2, tt_cong n (fun i hi => h i (by omega))]
    omega
theorem pl_out (c : Nat → Nat) : ∀ k m, Mc c k ≤ m → pl c k m = 0
  | 0, _, _ => rfl
  | k + 1, m, h => by
    rw [Mc] at h
    rw [pl]
    by_cases h5 : c k = 5
    · rw [if_pos h5] at h
      rw [if_neg (by omega), if_neg (by omega)]
      exact pl_out c k m (by omega)
    · rw [if_neg h5] at h
      rw [if_neg (fun q => h5 q.1), if_neg (by omega)]
      exact pl_out c k m h
theorem db_out (c d : Nat → Nat) : ∀ k m, Mc c k ≤ m → db c d k m = 0
  | 0, _, _ => rfl
  | k + 1, m, h => by
    have h2 : Mc c k ≤ m := by
      rw [Mc] at h
      split at h <;> omega
    rw [db, db_out c d k m h2, if_neg (show ¬ m + 1 = Mc c (k + 1) by omega)]
    split <;> rfl
theorem pl_tt {c : Nat → Nat} (h0 : c 0 = 5) : ∀ k, tt (pl c k) (Mc c k) = p2 c k
  | 0 => rfl
  | k + 1 => by
    have ih := pl_tt h0 k
    rw [p2, Mc]
    by_cases h5 : c k = 5
    · rw [if_pos h5, if_neg (by omega), tt, ← ih]
      have e1 : pl c (k + 1) (Mc c k) = 0 := by rw [pl, if_pos ⟨h5, rfl⟩]
      rw [e1, Nat.add_zero]
      refine tt_cong _ (fun i hi => ?_)
      rw [pl, if_neg (by omega), if_neg (by omega)]
    · rw [if_neg h5]
      by_cases h2 : c k = 2
      · have hM : 1 ≤ Mc c k := by
          cases k with
          | zero => omega
          | succ j => exact Mc_pos h0 j
        rw [if_pos h2, ← ih]
        refine tt_one _ (fun i hi => ?_) hM ?_
        · rw [pl, if_neg (by omega), if_neg (by omega)]
        · rw [pl, if_neg (by omega), if_pos (by omega)]
      · rw [if_neg h2, ← ih]
        refine tt_cong _ (fun i hi => ?_)
        rw [pl, if_neg (by omega), if_neg (by omega)]
theorem db_tt {c d : Nat → Nat} (h0 : c 0 = 5) : ∀ k, tt (db c d k) (Mc c k) = dsm d k
  | 0 => rfl
  | k + 1 => by
    have ih := db_tt (d := d) h0 k
    have hM : 1 ≤ Mc c (k + 1) := Mc_pos h0 k
    rw [dsm, ← ih]
    by_cases h5 : c k = 5
    · have eM : Mc c (k + 1) = Mc c k + 1 := by rw [Mc, if_pos h5]
      have e1 : db c d (k + 1) (Mc c k) = d k := by rw [db, if_pos ⟨h5, rfl⟩, eM, if_pos rfl]; omega
      rw [eM, tt, e1]
      congr 1
      refine tt_cong _ (fun i hi => ?_)
      rw [db, if_neg (by omega), eM, if_neg (by omega)]
      omega
    · have eM : Mc c (k + 1) = Mc c k := by rw [Mc, if_neg h5]
      rw [eM] at hM ⊢
      refine tt_one _ (fun i hi => ?_) hM ?_
      · rw [db, if_neg (by omega), eM, if_neg (by omega)]
        omega
      · rw [db, if_neg (by omega), eM, if_pos (by omega)]
/-- letters before a message, behind it -/
theorem mo_lt {c : Nat → Nat} (h0 : c 0 = 5) : ∀ k l, l < Lc c k → mo c k l < Mc c k
  | 0, l, h => absurd h (Nat.not_lt_zero l)
  | k + 1, l, h => by
    have hM : 1 ≤ Mc c (k + 1) := Mc_pos h0 k
    have hm : Mc c k ≤ Mc c (k + 1) := by
      rw [Mc]
      split <;> omega
    rw [Lc] at h
    rw [mo]
    by_cases h4 : 4 ≤ c k
    · rw [if_pos h4] at h ⊢
      by_cases e : l = Lc c k
      · rw [if_pos e]; omega
      · rw [if_neg e]
        have := mo_lt h0 k l (by omega)
        omega
    · rw [if_neg h4] at h ⊢
      have := mo_lt h0 k l h
      omega
theorem fl_le (c : Nat → Nat) : ∀ k m, m < Mc c k → fl c k m < Lc c k
  | 0, m, h => absurd h (Nat.not_lt_zero m)
  | k + 1, m, h => by
    rw [Mc] at h
    rw [fl, Lc]
    by_cases h5 : c k = 5
    · rw [if_pos h5] at h
      rw [if_pos (show 4 ≤ c k by omega)]
      by_cases e : m = Mc c k
      · rw [if_pos ⟨h5, e⟩]; omega
      · rw [if_neg (fun q => e q.2)]
        have := fl_le c k m (by omega)
        omega
    · rw [if_neg h5] at h
      rw [if_neg (fun q => h5 q.1)]
      have := fl_le c k m h
      split <;> omega
theorem mo_fl {c : Nat → Nat} (h0 : c 0 = 5) : ∀ k l m, l < Lc c k → m < Mc c k → (mo c k l < m ↔ l < fl c k m)
  | 0, l, m, h, _ => absurd h (Nat.not_lt_zero l)
  | k + 1, l, m, h, hm => by
    rw [Lc] at h
    rw [mo, fl]
    by_cases h5 : c k = 5
    · have eM : Mc c (k + 1) = Mc c k + 1 := by rw [Mc, if_pos h5]
      rw [eM] at hm ⊢
      rw [if_pos (show 4 ≤ c k by omega)] at h ⊢
      by_cases e : l = Lc c k
      · rw [if_pos e]
        by_cases e2 : m = Mc c k
        · rw [if_pos ⟨h5, e2⟩]; omega
        · rw [if_neg (fun q => e2 q.2)]
          have := fl_le c k m (by omega)
          omega
      · rw [if_neg e]
        by_cases e2 : m = Mc c k
        · rw [if_pos ⟨h5, e2⟩]
          have := mo_lt h0 k l (by omega)
          omega
        · rw [if_neg (fun q => e2 q.2)]
          exact mo_fl h0 k l m (by omega) (by omega)
    · have eM : Mc c (k + 1) = Mc c k := by rw [Mc, if_neg h5]
      rw [eM] at hm ⊢
      rw [if_neg (show ¬ (c k = 5 ∧ m = Mc c k) from fun q => h5 q.1)]
      by_cases h4 : 4 ≤ c k
      · rw [if_pos h4] at h ⊢
        by_cases e : l = Lc c k
        · rw [if_pos e]
          have := fl_le c k m hm
          omega
        · rw [if_neg e]
          exact mo_fl h0 k l m (by omega) hm
      · rw [if_neg h4] at h ⊢
        exact mo_fl h0 k l m h hm
theorem fl_same {c : Nat → Nat} {k m : Nat} (hm : m < Mc c k) : fl c (k + 1) m = fl c k m := by
  rw [fl, if_neg (by omega)]
theorem fl_stay {c : Nat → Nat} {m : Nat} : ∀ n k, m < Mc c k → fl c (k + n) m = fl c k m
  | 0, _, _ => rfl
  | n + 1, k, h => by
    have hm : m < Mc c (k + n) := by
      have : ∀ n, Mc c k ≤ Mc c (k + n) := by
        intro n
        induction n with
        | zero => exact Nat.le_refl _
        | succ j ih =>
          rw [← Nat.add_assoc, Mc]
          split <;> omega
      exact Nat.lt_of_lt_of_le h (this n)
    rw [← Nat.add_assoc, fl_same hm, fl_stay n k h]
/-- where the law sees the start of a message, as far as it has looked -/
def stL (c : Nat → Nat) (k m : Nat) : Int32 := if m < Mc c k then nI (fs c k m) else -1
