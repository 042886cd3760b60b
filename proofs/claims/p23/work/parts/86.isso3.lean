/-! isSo: letters of a message, and the message -/
set_option maxRecDepth 20000 in
set_option maxHeartbeats 2000000 in
theorem iE_b1 {e k L M fr n p wr g a b P : Nat} {v14 v15 v16 v17 v18 v24 v25 v26 : Int32} {σ : Sg} {Q : SP} (hB : XB σ e) (he : e + 7 ≤ 90000) (he2 : 82 ≤ e) (hp : p < n) (hfn : fr + n ≤ 60) (hP : P = g + 256 * a + 65536 * b) (hg : g < 250) (ha : a < 250) (hb : b < 250) (h6 : σ (e + 6) (fr + p) = nI P) (hM : σ 45 7 = nI M) (hM1 : M ≤ 160) (hm : k < M) (hl : σ 51 k = nI n) (hf : σ 49 k = nI fr) (h36 : σ 36 (fr + p) = nI g) (h38 : σ 38 (fr + p) = nI a) (h40 : σ 40 (fr + p) = nI b) (hv : σ 42 (fr + p) = -1) (hgd : CM mL_good [ai (nI P)] σ (Ret (nI 0) σ)) (hlt : CM mL_letter [ar 81, ai (nI P)] σ (Ret (-1000004) σ)) (h2 : g < 2) (next : WM mL_isSo Q 581 [some (ar 0), some (ar 79), some (ar 80), some (ar 81), some (ar (e + 0)), some (ar (e + 1)), some (ar (e + 2)), some (ar (e + 3)), some (ar (e + 4)), some (ar (e + 5)), some (ar (e + 6)), some (ai (nI L)), some (ai (nI M)), some (ai (-1000004)), some (ai v14), some (ai v15), some (ai v16), some (ai v17), some (ai v18), some (ai (nI 1)), some (ai (nI k)), some (ai (nI fr)), some (ai (nI (fr + n))), some (ai (nI (wr + 1))), some (ai v24), some (ai v25), some (ai v26), some (ai (nI (fr + (p + 1))))] [] σ) : WM mL_isSo Q 581 [some (ar 0), some (ar 79), some (ar 80), some (ar 81), some (ar (e + 0)), some (ar (e + 1)), some (ar (e + 2)), some (ar (e + 3)), some (ar (e + 4)), some (ar (e + 5)), some (ar (e + 6)), some (ai (nI L)), some (ai (nI M)), some (ai (-1000004)), some (ai v14), some (ai v15), some (ai v16), some (ai v17), some (ai v18), some (ai (nI 1)), some (ai (nI k)), some (ai (nI fr)), some (ai (nI (fr + n))), some (ai (nI wr)), some (ai v24), some (ai v25), some (ai v26), some (ai (nI (fr + p)))] [] σ := by
  refine g_iload (p0 := 583) dL_isSo_581 rfl rfl ?_
  refine g_iload (p0 := 585) dL_isSo_583 rfl rfl ?_
  first | ((with_reducible refine isN2 ?_); refine g_icmpN_ge (tgt := 739) (p1 := 588) dL_isSo_585 rfl (by omega) (by omega) rfl (fun c_585 => by exfalso; first | exact c_585 rfl | omega | contradiction) (fun c_585 => ?_)) | refine g_icmp_ge (tgt := 739) (p1 := 588) dL_isSo_585 rfl rfl (fun c_585 => by exfalso; first | exact c_585 rfl | omega | contradiction) (fun c_585 => ?_)
  refine g_iload (p0 := 590) dL_isSo_588 rfl rfl ?_
  first | ((with_reducible refine isN1 ?_); refine g_ifN_eq (tgt := 739) (p1 := 593) dL_isSo_590 rfl (by omega) rfl (fun c_590 => by exfalso; first | exact c_590 rfl | omega | contradiction) (fun c_590 => ?_)) | refine g_if_eq (tgt := 739) (p1 := 593) dL_isSo_590 rfl rfl (fun c_590 => by exfalso; first | exact c_590 rfl | omega | contradiction) (fun c_590 => ?_)
  refine g_iload (p0 := 595) dL_isSo_593 rfl rfl ?_
  refine g_aload (p0 := 597) dL_isSo_595 rfl rfl ?_
  refine g_iload (p0 := 599) dL_isSo_597 rfl rfl ?_
  refine g_aldX (p0 := 600) dL_isSo_599 (by repeat (first | assumption | refine XB.up (by omega) ?_)) ⟨rfl, by decide⟩ (by omega) (by first | assumption | ((repeat (first | exact up_hit | (apply up_nv; omega) | (apply up_mv; omega))) <;> first | assumption | rfl)) rfl ?_
  refine g_cS1R (p0 := 603) (r1 := mL_good) dL_isSo_600 (Or.inl lL_22) vL_good (FITi rfl rfl) (Nat.le_of_ble_eq_true rfl) (hgd) rfl ?_
  first | ((with_reducible refine isN1 ?_); refine g_ifN_eq (tgt := 610) (p1 := 606) dL_isSo_603 rfl (by omega) rfl (fun c_603 => ?_) (fun c_603 => by exfalso; first | exact c_603 rfl | omega | contradiction)) | refine g_if_eq (tgt := 610) (p1 := 606) dL_isSo_603 rfl rfl (fun c_603 => ?_) (fun c_603 => by exfalso; first | exact c_603 rfl | omega | contradiction)
  refine g_iconst (p0 := 611) (v := nI 1) dL_isSo_610 rfl rfl ?_
  first | ((with_reducible refine isN2 ?_); refine g_iaddN (p0 := 612) dL_isSo_611 rfl ?_) | refine g_iadd (p0 := 612) dL_isSo_611 rfl ?_
  refine g_istore (p0 := 614) (i := 23) (ls2 := [_, _, _, _, _, _, _, _, _, _, _, _, _, _, _, _, _, _, _, _, _, _, _, _, _, _, _, _]) dL_isSo_612 (Nat.le_of_ble_eq_true rfl) rfl rfl ?_
  refine g_aload_n (p0 := 615) (i := 0) dL_isSo_614 rfl rfl rfl ?_
  refine g_iload (p0 := 617) dL_isSo_615 rfl rfl ?_
  refine g_iload (p0 := 619) dL_isSo_617 rfl rfl ?_
  refine g_iload (p0 := 621) dL_isSo_619 rfl rfl ?_
  first | ((with_reducible refine isN2 ?_); refine g_isubN (p0 := 622) dL_isSo_621 (by omega) rfl ?_) | refine g_isub (p0 := 622) dL_isSo_621 rfl ?_
  rw [show fr + p - fr = p by omega]
  refine g_iconst (p0 := 623) (v := nI 0) dL_isSo_622 rfl rfl ?_
  refine g_cV3R (p0 := 626) (r1 := mX9_letterOf) dL_isSo_623 lL_92 vX9_letterOf (by first | rfl | assumption | exact RW.s (by assumption) | exact TW.s (by assumption)) ⟨_, _, rfl⟩ (FITi rfl rfl) (Nat.le_of_ble_eq_true rfl) (lo_c0z hM hM1 hm hl (by omega) hp hf (by omega) h36 (by omega) hv) rfl ?_
  refine g_aload_n (p0 := 627) (i := 3) dL_isSo_626 rfl rfl rfl ?_
  refine g_aload (p0 := 629) dL_isSo_627 rfl rfl ?_
  refine g_iload (p0 := 631) dL_isSo_629 rfl rfl ?_
  refine g_aldX (p0 := 632) dL_isSo_631 (by repeat (first | assumption | refine XB.up (by omega) ?_)) ⟨rfl, by decide⟩ (by omega) (by first | assumption | ((repeat (first | exact up_hit | (apply up_nv; omega) | (apply up_mv; omega))) <;> first | assumption | rfl)) rfl ?_
  refine g_cS2R (p0 := 635) (r1 := mL_letter) dL_isSo_632 (Or.inl lL_31) vL_letter (FITi rfl rfl) (Nat.le_of_ble_eq_true rfl) (hlt) rfl ?_
  first | ((with_reducible refine isN2 ?_); refine g_icmpN_ne (tgt := 730) (p1 := 638) dL_isSo_635 rfl (by omega) (by omega) rfl (fun c_635 => by exfalso; first | exact c_635 rfl | omega | contradiction) (fun c_635 => ?_)) | refine g_icmp_ne (tgt := 730) (p1 := 638) dL_isSo_635 rfl rfl (fun c_635 => by exfalso; first | exact c_635 rfl | omega | contradiction) (fun c_635 => ?_)
  refine g_aload_n (p0 := 639) (i := 0) dL_isSo_638 rfl rfl rfl ?_
  refine g_iload (p0 := 641) dL_isSo_639 rfl rfl ?_
  refine g_iload (p0 := 643) dL_isSo_641 rfl rfl ?_
  refine g_iload (p0 := 645) dL_isSo_643 rfl rfl ?_
  first | ((with_reducible refine isN2 ?_); refine g_isubN (p0 := 646) dL_isSo_645 (by omega) rfl ?_) | refine g_isub (p0 := 646) dL_isSo_645 rfl ?_
  rw [show fr + p - fr = p by omega]
  refine g_iconst (p0 := 647) (v := nI 1) dL_isSo_646 rfl rfl ?_
  refine g_cV3R (p0 := 650) (r1 := mX9_letterOf) dL_isSo_647 lL_92 vX9_letterOf (by first | rfl | assumption | exact RW.s (by assumption) | exact TW.s (by assumption)) ⟨_, _, rfl⟩ (FITi rfl rfl) (Nat.le_of_ble_eq_true rfl) (lo_c1 hM hM1 hm hl (by omega) hp hf (by omega) h36 (by omega)) rfl ?_
  refine g_aload (p0 := 652) dL_isSo_650 rfl rfl ?_
  refine g_iload (p0 := 654) dL_isSo_652 rfl rfl ?_
  refine g_aldX (p0 := 655) dL_isSo_654 (by repeat (first | assumption | refine XB.up (by omega) ?_)) ⟨rfl, by decide⟩ (by omega) (by first | assumption | ((repeat (first | exact up_hit | (apply up_nv; omega) | (apply up_mv; omega))) <;> first | assumption | rfl)) rfl ?_
  refine g_sipush (p0 := 658) (v := nI 255) dL_isSo_655 (by decide) rfl ?_
  refine g_iand (p0 := 659) dL_isSo_658 rfl ?_
  rw [pk_andN (by omega) 8 (by decide), show P % 2 ^ 8 = g by omega]
  first | ((with_reducible refine isN2 ?_); refine g_icmpN_ne (tgt := 730) (p1 := 662) dL_isSo_659 rfl (by omega) (by omega) rfl (fun c_659 => by exfalso; first | exact c_659 rfl | omega | contradiction) (fun c_659 => ?_)) | refine g_icmp_ne (tgt := 730) (p1 := 662) dL_isSo_659 rfl rfl (fun c_659 => by exfalso; first | exact c_659 rfl | omega | contradiction) (fun c_659 => ?_)
  refine g_aload_n (p0 := 663) (i := 0) dL_isSo_662 rfl rfl rfl ?_
  refine g_iload (p0 := 665) dL_isSo_663 rfl rfl ?_
  refine g_iload (p0 := 667) dL_isSo_665 rfl rfl ?_
  refine g_iload (p0 := 669) dL_isSo_667 rfl rfl ?_
  first | ((with_reducible refine isN2 ?_); refine g_isubN (p0 := 670) dL_isSo_669 (by omega) rfl ?_) | refine g_isub (p0 := 670) dL_isSo_669 rfl ?_
  rw [show fr + p - fr = p by omega]
  refine g_iconst (p0 := 671) (v := nI 2) dL_isSo_670 rfl rfl ?_
  refine g_cV3R (p0 := 674) (r1 := mX9_letterOf) dL_isSo_671 lL_92 vX9_letterOf (by first | rfl | assumption | exact RW.s (by assumption) | exact TW.s (by assumption)) ⟨_, _, rfl⟩ (FITi rfl rfl) (Nat.le_of_ble_eq_true rfl) (lo_c2 hM hM1 hm hl (by omega) hp hf (by omega) h36 (by omega) h38) rfl ?_
  refine g_aload (p0 := 676) dL_isSo_674 rfl rfl ?_
  refine g_iload (p0 := 678) dL_isSo_676 rfl rfl ?_
  refine g_aldX (p0 := 679) dL_isSo_678 (by repeat (first | assumption | refine XB.up (by omega) ?_)) ⟨rfl, by decide⟩ (by omega) (by first | assumption | ((repeat (first | exact up_hit | (apply up_nv; omega) | (apply up_mv; omega))) <;> first | assumption | rfl)) rfl ?_
  refine g_cS1R (p0 := 682) (r1 := mL_one) dL_isSo_679 (Or.inl lL_15) vL_one (FITi rfl rfl) (Nat.le_of_ble_eq_true rfl) (one_sp hP (by omega) (by omega) (by omega)) rfl ?_
  first | ((with_reducible refine isN2 ?_); refine g_icmpN_ne (tgt := 730) (p1 := 685) dL_isSo_682 rfl (by omega) (by omega) rfl (fun c_682 => by exfalso; first | exact c_682 rfl | omega | contradiction) (fun c_682 => ?_)) | refine g_icmp_ne (tgt := 730) (p1 := 685) dL_isSo_682 rfl rfl (fun c_682 => by exfalso; first | exact c_682 rfl | omega | contradiction) (fun c_682 => ?_)
  refine g_aload_n (p0 := 686) (i := 0) dL_isSo_685 rfl rfl rfl ?_
  refine g_iload (p0 := 688) dL_isSo_686 rfl rfl ?_
  refine g_iload (p0 := 690) dL_isSo_688 rfl rfl ?_
  refine g_iload (p0 := 692) dL_isSo_690 rfl rfl ?_
  first | ((with_reducible refine isN2 ?_); refine g_isubN (p0 := 693) dL_isSo_692 (by omega) rfl ?_) | refine g_isub (p0 := 693) dL_isSo_692 rfl ?_
  rw [show fr + p - fr = p by omega]
  refine g_iconst (p0 := 694) (v := nI 3) dL_isSo_693 rfl rfl ?_
  refine g_cV3R (p0 := 697) (r1 := mX9_letterOf) dL_isSo_694 lL_92 vX9_letterOf (by first | rfl | assumption | exact RW.s (by assumption) | exact TW.s (by assumption)) ⟨_, _, rfl⟩ (FITi rfl rfl) (Nat.le_of_ble_eq_true rfl) (lo_c3z hM hM1 hm hl (by omega) hp hf (by omega) h36 (by omega) h2) rfl ?_
  refine g_aload (p0 := 699) dL_isSo_697 rfl rfl ?_
  refine g_iload (p0 := 701) dL_isSo_699 rfl rfl ?_
  refine g_aldX (p0 := 702) dL_isSo_701 (by repeat (first | assumption | refine XB.up (by omega) ?_)) ⟨rfl, by decide⟩ (by omega) (by first | assumption | ((repeat (first | exact up_hit | (apply up_nv; omega) | (apply up_mv; omega))) <;> first | assumption | rfl)) rfl ?_
  refine g_sipush (p0 := 705) (v := nI 255) dL_isSo_702 (by decide) rfl ?_
  refine g_iand (p0 := 706) dL_isSo_705 rfl ?_
  rw [pk_andN (by omega) 8 (by decide), show P % 2 ^ 8 = g by omega]
  refine g_iconst (p0 := 707) (v := nI 1) dL_isSo_706 rfl rfl ?_
  first | ((with_reducible refine isN2 ?_); refine g_icmpN_le (tgt := 721) (p1 := 710) dL_isSo_707 rfl (by omega) (by omega) rfl (fun c_707 => ?_) (fun c_707 => by exfalso; first | exact c_707 rfl | omega | contradiction)) | refine g_icmp_le (tgt := 721) (p1 := 710) dL_isSo_707 rfl rfl (fun c_707 => ?_) (fun c_707 => by exfalso; first | exact c_707 rfl | omega | contradiction)
  refine g_iload (p0 := 723) dL_isSo_721 rfl rfl ?_
  first | ((with_reducible refine isN2 ?_); refine g_icmpN_ne (tgt := 730) (p1 := 726) dL_isSo_723 rfl (by omega) (by omega) rfl (fun c_723 => by exfalso; first | exact c_723 rfl | omega | contradiction) (fun c_723 => ?_)) | refine g_icmp_ne (tgt := 730) (p1 := 726) dL_isSo_723 rfl rfl (fun c_723 => by exfalso; first | exact c_723 rfl | omega | contradiction) (fun c_723 => ?_)
  refine g_iconst (p0 := 727) (v := nI 1) dL_isSo_726 rfl rfl ?_
  refine g_goto (tgt := 731) dL_isSo_727 rfl ?_
  refine g_istore (p0 := 733) (i := 19) (ls2 := [_, _, _, _, _, _, _, _, _, _, _, _, _, _, _, _, _, _, _, _, _, _, _, _, _, _, _, _]) dL_isSo_731 (Nat.le_of_ble_eq_true rfl) rfl rfl ?_
  first | refine g_iinc1 (p0 := 736) (ls2 := [_, _, _, _, _, _, _, _, _, _, _, _, _, _, _, _, _, _, _, _, _, _, _, _, _, _, _, _]) dL_isSo_733 rfl rfl rfl ?_ | refine g_iinc (p0 := 736) (ls2 := [_, _, _, _, _, _, _, _, _, _, _, _, _, _, _, _, _, _, _, _, _, _, _, _, _, _, _, _]) dL_isSo_733 rfl rfl rfl rfl ?_
  refine g_goto (tgt := 581) dL_isSo_736 rfl ?_
  exact next
set_option maxRecDepth 20000 in
set_option maxHeartbeats 2000000 in
theorem iE_b2 {e k L M fr n p wr g a b P : Nat} {v14 v15 v16 v17 v18 v24 v25 v26 : Int32} {σ : Sg} {Q : SP} (hB : XB σ e) (he : e + 7 ≤ 90000) (he2 : 82 ≤ e) (hp : p < n) (hfn : fr + n ≤ 60) (hP : P = g + 256 * a + 65536 * b) (hg : g < 250) (ha : a < 250) (hb : b < 250) (h6 : σ (e + 6) (fr + p) = nI P) (hM : σ 45 7 = nI M) (hM1 : M ≤ 160) (hm : k < M) (hl : σ 51 k = nI n) (hf : σ 49 k = nI fr) (h36 : σ 36 (fr + p) = nI g) (h38 : σ 38 (fr + p) = nI a) (h40 : σ 40 (fr + p) = nI b) (hv : σ 42 (fr + p) = -1) (hgd : CM mL_good [ai (nI P)] σ (Ret (nI 0) σ)) (hlt : CM mL_letter [ar 81, ai (nI P)] σ (Ret (-1000004) σ)) (h2 : 2 ≤ g) (next : WM mL_isSo Q 581 [some (ar 0), some (ar 79), some (ar 80), some (ar 81), some (ar (e + 0)), some (ar (e + 1)), some (ar (e + 2)), some (ar (e + 3)), some (ar (e + 4)), some (ar (e + 5)), some (ar (e + 6)), some (ai (nI L)), some (ai (nI M)), some (ai (-1000004)), some (ai v14), some (ai v15), some (ai v16), some (ai v17), some (ai v18), some (ai (nI 1)), some (ai (nI k)), some (ai (nI fr)), some (ai (nI (fr + n))), some (ai (nI (wr + 1))), some (ai v24), some (ai v25), some (ai v26), some (ai (nI (fr + (p + 1))))] [] σ) : WM mL_isSo Q 581 [some (ar 0), some (ar 79), some (ar 80), some (ar 81), some (ar (e + 0)), some (ar (e + 1)), some (ar (e + 2)), some (ar (e + 3)), some (ar (e + 4)), some (ar (e + 5)), some (ar (e + 6)), some (ai (nI L)), some (ai (nI M)), some (ai (-1000004)), some (ai v14), some (ai v15), some (ai v16), some (ai v17), some (ai v18), some (ai (nI 1)), some (ai (nI k)), some (ai (nI fr)), some (ai (nI (fr + n))), some (ai (nI wr)), some (ai v24), some (ai v25), some (ai v26), some (ai (nI (fr + p)))] [] σ := by
  refine g_iload (p0 := 583) dL_isSo_581 rfl rfl ?_
  refine g_iload (p0 := 585) dL_isSo_583 rfl rfl ?_
  first | ((with_reducible refine isN2 ?_); refine g_icmpN_ge (tgt := 739) (p1 := 588) dL_isSo_585 rfl (by omega) (by omega) rfl (fun c_585 => by exfalso; first | exact c_585 rfl | omega | contradiction) (fun c_585 => ?_)) | refine g_icmp_ge (tgt := 739) (p1 := 588) dL_isSo_585 rfl rfl (fun c_585 => by exfalso; first | exact c_585 rfl | omega | contradiction) (fun c_585 => ?_)
  refine g_iload (p0 := 590) dL_isSo_588 rfl rfl ?_
  first | ((with_reducible refine isN1 ?_); refine g_ifN_eq (tgt := 739) (p1 := 593) dL_isSo_590 rfl (by omega) rfl (fun c_590 => by exfalso; first | exact c_590 rfl | omega | contradiction) (fun c_590 => ?_)) | refine g_if_eq (tgt := 739) (p1 := 593) dL_isSo_590 rfl rfl (fun c_590 => by exfalso; first | exact c_590 rfl | omega | contradiction) (fun c_590 => ?_)
  refine g_iload (p0 := 595) dL_isSo_593 rfl rfl ?_
  refine g_aload (p0 := 597) dL_isSo_595 rfl rfl ?_
  refine g_iload (p0 := 599) dL_isSo_597 rfl rfl ?_
  refine g_aldX (p0 := 600) dL_isSo_599 (by repeat (first | assumption | refine XB.up (by omega) ?_)) ⟨rfl, by decide⟩ (by omega) (by first | assumption | ((repeat (first | exact up_hit | (apply up_nv; omega) | (apply up_mv; omega))) <;> first | assumption | rfl)) rfl ?_
  refine g_cS1R (p0 := 603) (r1 := mL_good) dL_isSo_600 (Or.inl lL_22) vL_good (FITi rfl rfl) (Nat.le_of_ble_eq_true rfl) (hgd) rfl ?_
  first | ((with_reducible refine isN1 ?_); refine g_ifN_eq (tgt := 610) (p1 := 606) dL_isSo_603 rfl (by omega) rfl (fun c_603 => ?_) (fun c_603 => by exfalso; first | exact c_603 rfl | omega | contradiction)) | refine g_if_eq (tgt := 610) (p1 := 606) dL_isSo_603 rfl rfl (fun c_603 => ?_) (fun c_603 => by exfalso; first | exact c_603 rfl | omega | contradiction)
  refine g_iconst (p0 := 611) (v := nI 1) dL_isSo_610 rfl rfl ?_
  first | ((with_reducible refine isN2 ?_); refine g_iaddN (p0 := 612) dL_isSo_611 rfl ?_) | refine g_iadd (p0 := 612) dL_isSo_611 rfl ?_
  refine g_istore (p0 := 614) (i := 23) (ls2 := [_, _, _, _, _, _, _, _, _, _, _, _, _, _, _, _, _, _, _, _, _, _, _, _, _, _, _, _]) dL_isSo_612 (Nat.le_of_ble_eq_true rfl) rfl rfl ?_
  refine g_aload_n (p0 := 615) (i := 0) dL_isSo_614 rfl rfl rfl ?_
  refine g_iload (p0 := 617) dL_isSo_615 rfl rfl ?_
  refine g_iload (p0 := 619) dL_isSo_617 rfl rfl ?_
  refine g_iload (p0 := 621) dL_isSo_619 rfl rfl ?_
  first | ((with_reducible refine isN2 ?_); refine g_isubN (p0 := 622) dL_isSo_621 (by omega) rfl ?_) | refine g_isub (p0 := 622) dL_isSo_621 rfl ?_
  rw [show fr + p - fr = p by omega]
  refine g_iconst (p0 := 623) (v := nI 0) dL_isSo_622 rfl rfl ?_
  refine g_cV3R (p0 := 626) (r1 := mX9_letterOf) dL_isSo_623 lL_92 vX9_letterOf (by first | rfl | assumption | exact RW.s (by assumption) | exact TW.s (by assumption)) ⟨_, _, rfl⟩ (FITi rfl rfl) (Nat.le_of_ble_eq_true rfl) (lo_c0z hM hM1 hm hl (by omega) hp hf (by omega) h36 (by omega) hv) rfl ?_
  refine g_aload_n (p0 := 627) (i := 3) dL_isSo_626 rfl rfl rfl ?_
  refine g_aload (p0 := 629) dL_isSo_627 rfl rfl ?_
  refine g_iload (p0 := 631) dL_isSo_629 rfl rfl ?_
  refine g_aldX (p0 := 632) dL_isSo_631 (by repeat (first | assumption | refine XB.up (by omega) ?_)) ⟨rfl, by decide⟩ (by omega) (by first | assumption | ((repeat (first | exact up_hit | (apply up_nv; omega) | (apply up_mv; omega))) <;> first | assumption | rfl)) rfl ?_
  refine g_cS2R (p0 := 635) (r1 := mL_letter) dL_isSo_632 (Or.inl lL_31) vL_letter (FITi rfl rfl) (Nat.le_of_ble_eq_true rfl) (hlt) rfl ?_
  first | ((with_reducible refine isN2 ?_); refine g_icmpN_ne (tgt := 730) (p1 := 638) dL_isSo_635 rfl (by omega) (by omega) rfl (fun c_635 => by exfalso; first | exact c_635 rfl | omega | contradiction) (fun c_635 => ?_)) | refine g_icmp_ne (tgt := 730) (p1 := 638) dL_isSo_635 rfl rfl (fun c_635 => by exfalso; first | exact c_635 rfl | omega | contradiction) (fun c_635 => ?_)
  refine g_aload_n (p0 := 639) (i := 0) dL_isSo_638 rfl rfl rfl ?_
  refine g_iload (p0 := 641) dL_isSo_639 rfl rfl ?_
  refine g_iload (p0 := 643) dL_isSo_641 rfl rfl ?_
  refine g_iload (p0 := 645) dL_isSo_643 rfl rfl ?_
  first | ((with_reducible refine isN2 ?_); refine g_isubN (p0 := 646) dL_isSo_645 (by omega) rfl ?_) | refine g_isub (p0 := 646) dL_isSo_645 rfl ?_
  rw [show fr + p - fr = p by omega]
  refine g_iconst (p0 := 647) (v := nI 1) dL_isSo_646 rfl rfl ?_
  refine g_cV3R (p0 := 650) (r1 := mX9_letterOf) dL_isSo_647 lL_92 vX9_letterOf (by first | rfl | assumption | exact RW.s (by assumption) | exact TW.s (by assumption)) ⟨_, _, rfl⟩ (FITi rfl rfl) (Nat.le_of_ble_eq_true rfl) (lo_c1 hM hM1 hm hl (by omega) hp hf (by omega) h36 (by omega)) rfl ?_
  refine g_aload (p0 := 652) dL_isSo_650 rfl rfl ?_
  refine g_iload (p0 := 654) dL_isSo_652 rfl rfl ?_
  refine g_aldX (p0 := 655) dL_isSo_654 (by repeat (first | assumption | refine XB.up (by omega) ?_)) ⟨rfl, by decide⟩ (by omega) (by first | assumption | ((repeat (first | exact up_hit | (apply up_nv; omega) | (apply up_mv; omega))) <;> first | assumption | rfl)) rfl ?_
  refine g_sipush (p0 := 658) (v := nI 255) dL_isSo_655 (by decide) rfl ?_
  refine g_iand (p0 := 659) dL_isSo_658 rfl ?_
  rw [pk_andN (by omega) 8 (by decide), show P % 2 ^ 8 = g by omega]
  first | ((with_reducible refine isN2 ?_); refine g_icmpN_ne (tgt := 730) (p1 := 662) dL_isSo_659 rfl (by omega) (by omega) rfl (fun c_659 => by exfalso; first | exact c_659 rfl | omega | contradiction) (fun c_659 => ?_)) | refine g_icmp_ne (tgt := 730) (p1 := 662) dL_isSo_659 rfl rfl (fun c_659 => by exfalso; first | exact c_659 rfl | omega | contradiction) (fun c_659 => ?_)
  refine g_aload_n (p0 := 663) (i := 0) dL_isSo_662 rfl rfl rfl ?_
  refine g_iload (p0 := 665) dL_isSo_663 rfl rfl ?_
  refine g_iload (p0 := 667) dL_isSo_665 rfl rfl ?_
  refine g_iload (p0 := 669) dL_isSo_667 rfl rfl ?_
  first | ((with_reducible refine isN2 ?_); refine g_isubN (p0 := 670) dL_isSo_669 (by omega) rfl ?_) | refine g_isub (p0 := 670) dL_isSo_669 rfl ?_
  rw [show fr + p - fr = p by omega]
  refine g_iconst (p0 := 671) (v := nI 2) dL_isSo_670 rfl rfl ?_
  refine g_cV3R (p0 := 674) (r1 := mX9_letterOf) dL_isSo_671 lL_92 vX9_letterOf (by first | rfl | assumption | exact RW.s (by assumption) | exact TW.s (by assumption)) ⟨_, _, rfl⟩ (FITi rfl rfl) (Nat.le_of_ble_eq_true rfl) (lo_c2 hM hM1 hm hl (by omega) hp hf (by omega) h36 (by omega) h38) rfl ?_
  refine g_aload (p0 := 676) dL_isSo_674 rfl rfl ?_
  refine g_iload (p0 := 678) dL_isSo_676 rfl rfl ?_
  refine g_aldX (p0 := 679) dL_isSo_678 (by repeat (first | assumption | refine XB.up (by omega) ?_)) ⟨rfl, by decide⟩ (by omega) (by first | assumption | ((repeat (first | exact up_hit | (apply up_nv; omega) | (apply up_mv; omega))) <;> first | assumption | rfl)) rfl ?_
  refine g_cS1R (p0 := 682) (r1 := mL_one) dL_isSo_679 (Or.inl lL_15) vL_one (FITi rfl rfl) (Nat.le_of_ble_eq_true rfl) (one_sp hP (by omega) (by omega) (by omega)) rfl ?_
  first | ((with_reducible refine isN2 ?_); refine g_icmpN_ne (tgt := 730) (p1 := 685) dL_isSo_682 rfl (by omega) (by omega) rfl (fun c_682 => by exfalso; first | exact c_682 rfl | omega | contradiction) (fun c_682 => ?_)) | refine g_icmp_ne (tgt := 730) (p1 := 685) dL_isSo_682 rfl rfl (fun c_682 => by exfalso; first | exact c_682 rfl | omega | contradiction) (fun c_682 => ?_)
  refine g_aload_n (p0 := 686) (i := 0) dL_isSo_685 rfl rfl rfl ?_
  refine g_iload (p0 := 688) dL_isSo_686 rfl rfl ?_
  refine g_iload (p0 := 690) dL_isSo_688 rfl rfl ?_
  refine g_iload (p0 := 692) dL_isSo_690 rfl rfl ?_
  first | ((with_reducible refine isN2 ?_); refine g_isubN (p0 := 693) dL_isSo_692 (by omega) rfl ?_) | refine g_isub (p0 := 693) dL_isSo_692 rfl ?_
  rw [show fr + p - fr = p by omega]
  refine g_iconst (p0 := 694) (v := nI 3) dL_isSo_693 rfl rfl ?_
  refine g_cV3R (p0 := 697) (r1 := mX9_letterOf) dL_isSo_694 lL_92 vX9_letterOf (by first | rfl | assumption | exact RW.s (by assumption) | exact TW.s (by assumption)) ⟨_, _, rfl⟩ (FITi rfl rfl) (Nat.le_of_ble_eq_true rfl) (lo_c3 hM hM1 hm hl (by omega) hp hf (by omega) h36 (by omega) h2 h40) rfl ?_
  refine g_aload (p0 := 699) dL_isSo_697 rfl rfl ?_
  refine g_iload (p0 := 701) dL_isSo_699 rfl rfl ?_
  refine g_aldX (p0 := 702) dL_isSo_701 (by repeat (first | assumption | refine XB.up (by omega) ?_)) ⟨rfl, by decide⟩ (by omega) (by first | assumption | ((repeat (first | exact up_hit | (apply up_nv; omega) | (apply up_mv; omega))) <;> first | assumption | rfl)) rfl ?_
  refine g_sipush (p0 := 705) (v := nI 255) dL_isSo_702 (by decide) rfl ?_
  refine g_iand (p0 := 706) dL_isSo_705 rfl ?_
  rw [pk_andN (by omega) 8 (by decide), show P % 2 ^ 8 = g by omega]
  refine g_iconst (p0 := 707) (v := nI 1) dL_isSo_706 rfl rfl ?_
  first | ((with_reducible refine isN2 ?_); refine g_icmpN_le (tgt := 721) (p1 := 710) dL_isSo_707 rfl (by omega) (by omega) rfl (fun c_707 => by exfalso; first | exact c_707 rfl | omega | contradiction) (fun c_707 => ?_)) | refine g_icmp_le (tgt := 721) (p1 := 710) dL_isSo_707 rfl rfl (fun c_707 => by exfalso; first | exact c_707 rfl | omega | contradiction) (fun c_707 => ?_)
  refine g_aload (p0 := 712) dL_isSo_710 rfl rfl ?_
  refine g_iload (p0 := 714) dL_isSo_712 rfl rfl ?_
  refine g_aldX (p0 := 715) dL_isSo_714 (by repeat (first | assumption | refine XB.up (by omega) ?_)) ⟨rfl, by decide⟩ (by omega) (by first | assumption | ((repeat (first | exact up_hit | (apply up_nv; omega) | (apply up_mv; omega))) <;> first | assumption | rfl)) rfl ?_
  refine g_cS1R (p0 := 718) (r1 := mL_two) dL_isSo_715 (Or.inl lL_19) vL_two (FITi rfl rfl) (Nat.le_of_ble_eq_true rfl) (two_sp hP (by omega) (by omega) (by omega)) rfl ?_
  refine g_goto (tgt := 723) dL_isSo_718 rfl ?_
  first | ((with_reducible refine isN2 ?_); refine g_icmpN_ne (tgt := 730) (p1 := 726) dL_isSo_723 rfl (by omega) (by omega) rfl (fun c_723 => by exfalso; first | exact c_723 rfl | omega | contradiction) (fun c_723 => ?_)) | refine g_icmp_ne (tgt := 730) (p1 := 726) dL_isSo_723 rfl rfl (fun c_723 => by exfalso; first | exact c_723 rfl | omega | contradiction) (fun c_723 => ?_)
  refine g_iconst (p0 := 727) (v := nI 1) dL_isSo_726 rfl rfl ?_
  refine g_goto (tgt := 731) dL_isSo_727 rfl ?_
  refine g_istore (p0 := 733) (i := 19) (ls2 := [_, _, _, _, _, _, _, _, _, _, _, _, _, _, _, _, _, _, _, _, _, _, _, _, _, _, _, _]) dL_isSo_731 (Nat.le_of_ble_eq_true rfl) rfl rfl ?_
  first | refine g_iinc1 (p0 := 736) (ls2 := [_, _, _, _, _, _, _, _, _, _, _, _, _, _, _, _, _, _, _, _, _, _, _, _, _, _, _, _]) dL_isSo_733 rfl rfl rfl ?_ | refine g_iinc (p0 := 736) (ls2 := [_, _, _, _, _, _, _, _, _, _, _, _, _, _, _, _, _, _, _, _, _, _, _, _, _, _, _, _]) dL_isSo_733 rfl rfl rfl rfl ?_
  refine g_goto (tgt := 581) dL_isSo_736 rfl ?_
  exact next
set_option maxRecDepth 20000 in
set_option maxHeartbeats 2000000 in
theorem iE_g1 {e k L M fr n p wr g a b P : Nat} {v14 v15 v16 v17 v18 v24 v25 v26 : Int32} {σ : Sg} {Q : SP} (hB : XB σ e) (he : e + 7 ≤ 90000) (he2 : 82 ≤ e) (hp : p < n) (hfn : fr + n ≤ 60) (hP : P = g + 256 * a + 65536 * b) (hg : g < 250) (ha : a < 250) (hb : b < 250) (h6 : σ (e + 6) (fr + p) = nI P) (hM : σ 45 7 = nI M) (hM1 : M ≤ 160) (hm : k < M) (hl : σ 51 k = nI n) (hf : σ 49 k = nI fr) (h36 : σ 36 (fr + p) = nI g) (h38 : σ 38 (fr + p) = nI a) (h40 : σ 40 (fr + p) = nI b) {z : Nat} (hz : z < 25) (hv : σ 42 (fr + p) = nI z) (hgd : CM mL_good [ai (nI P)] σ (Ret (nI 1) σ)) (hlt : CM mL_letter [ar 81, ai (nI P)] σ (Ret (nI z) σ)) (h2 : g < 2) (next : WM mL_isSo Q 581 [some (ar 0), some (ar 79), some (ar 80), some (ar 81), some (ar (e + 0)), some (ar (e + 1)), some (ar (e + 2)), some (ar (e + 3)), some (ar (e + 4)), some (ar (e + 5)), some (ar (e + 6)), some (ai (nI L)), some (ai (nI M)), some (ai (-1000004)), some (ai v14), some (ai v15), some (ai v16), some (ai v17), some (ai v18), some (ai (nI 1)), some (ai (nI k)), some (ai (nI fr)), some (ai (nI (fr + n))), some (ai (nI (wr + 0))), some (ai v24), some (ai v25), some (ai v26), some (ai (nI (fr + (p + 1))))] [] σ) : WM mL_isSo Q 581 [some (ar 0), some (ar 79), some (ar 80), some (ar 81), some (ar (e + 0)), some (ar (e + 1)), some (ar (e + 2)), some (ar (e + 3)), some (ar (e + 4)), some (ar (e + 5)), some (ar (e + 6)), some (ai (nI L)), some (ai (nI M)), some (ai (-1000004)), some (ai v14), some (ai v15), some (ai v16), some (ai v17), some (ai v18), some (ai (nI 1)), some (ai (nI k)), some (ai (nI fr)), some (ai (nI (fr + n))), some (ai (nI wr)), some (ai v24), some (ai v25), some (ai v26), some (ai (nI (fr + p)))] [] σ := by
  refine g_iload (p0 := 583) dL_isSo_581 rfl rfl ?_
  refine g_iload (p0 := 585) dL_isSo_583 rfl rfl ?_
  first | ((with_reducible refine isN2 ?_); refine g_icmpN_ge (tgt := 739) (p1 := 588) dL_isSo_585 rfl (by omega) (by omega) rfl (fun c_585 => by exfalso; first | exact c_585 rfl | omega | contradiction) (fun c_585 => ?_)) | refine g_icmp_ge (tgt := 739) (p1 := 588) dL_isSo_585 rfl rfl (fun c_585 => by exfalso; first | exact c_585 rfl | omega | contradiction) (fun c_585 => ?_)
  refine g_iload (p0 := 590) dL_isSo_588 rfl rfl ?_
  first | ((with_reducible refine isN1 ?_); refine g_ifN_eq (tgt := 739) (p1 := 593) dL_isSo_590 rfl (by omega) rfl (fun c_590 => by exfalso; first | exact c_590 rfl | omega | contradiction) (fun c_590 => ?_)) | refine g_if_eq (tgt := 739) (p1 := 593) dL_isSo_590 rfl rfl (fun c_590 => by exfalso; first | exact c_590 rfl | omega | contradiction) (fun c_590 => ?_)
  refine g_iload (p0 := 595) dL_isSo_593 rfl rfl ?_
  refine g_aload (p0 := 597) dL_isSo_595 rfl rfl ?_
  refine g_iload (p0 := 599) dL_isSo_597 rfl rfl ?_
  refine g_aldX (p0 := 600) dL_isSo_599 (by repeat (first | assumption | refine XB.up (by omega) ?_)) ⟨rfl, by decide⟩ (by omega) (by first | assumption | ((repeat (first | exact up_hit | (apply up_nv; omega) | (apply up_mv; omega))) <;> first | assumption | rfl)) rfl ?_
  refine g_cS1R (p0 := 603) (r1 := mL_good) dL_isSo_600 (Or.inl lL_22) vL_good (FITi rfl rfl) (Nat.le_of_ble_eq_true rfl) (hgd) rfl ?_
  first | ((with_reducible refine isN1 ?_); refine g_ifN_eq (tgt := 610) (p1 := 606) dL_isSo_603 rfl (by omega) rfl (fun c_603 => by exfalso; first | exact c_603 rfl | omega | contradiction) (fun c_603 => ?_)) | refine g_if_eq (tgt := 610) (p1 := 606) dL_isSo_603 rfl rfl (fun c_603 => by exfalso; first | exact c_603 rfl | omega | contradiction) (fun c_603 => ?_)
  refine g_iconst (p0 := 607) (v := nI 0) dL_isSo_606 rfl rfl ?_
  refine g_goto (tgt := 611) dL_isSo_607 rfl ?_
  first | ((with_reducible refine isN2 ?_); refine g_iaddN (p0 := 612) dL_isSo_611 rfl ?_) | refine g_iadd (p0 := 612) dL_isSo_611 rfl ?_
  refine g_istore (p0 := 614) (i := 23) (ls2 := [_, _, _, _, _, _, _, _, _, _, _, _, _, _, _, _, _, _, _, _, _, _, _, _, _, _, _, _]) dL_isSo_612 (Nat.le_of_ble_eq_true rfl) rfl rfl ?_
  refine g_aload_n (p0 := 615) (i := 0) dL_isSo_614 rfl rfl rfl ?_
  refine g_iload (p0 := 617) dL_isSo_615 rfl rfl ?_
  refine g_iload (p0 := 619) dL_isSo_617 rfl rfl ?_
  refine g_iload (p0 := 621) dL_isSo_619 rfl rfl ?_
  first | ((with_reducible refine isN2 ?_); refine g_isubN (p0 := 622) dL_isSo_621 (by omega) rfl ?_) | refine g_isub (p0 := 622) dL_isSo_621 rfl ?_
  rw [show fr + p - fr = p by omega]
  refine g_iconst (p0 := 623) (v := nI 0) dL_isSo_622 rfl rfl ?_
  refine g_cV3R (p0 := 626) (r1 := mX9_letterOf) dL_isSo_623 lL_92 vX9_letterOf (by first | rfl | assumption | exact RW.s (by assumption) | exact TW.s (by assumption)) ⟨_, _, rfl⟩ (FITi rfl rfl) (Nat.le_of_ble_eq_true rfl) (lo_c0 hM hM1 hm hl (by omega) hp hf (by omega) h36 (by omega) hv (nI_m1 hz)) rfl ?_
  refine g_aload_n (p0 := 627) (i := 3) dL_isSo_626 rfl rfl rfl ?_
  refine g_aload (p0 := 629) dL_isSo_627 rfl rfl ?_
  refine g_iload (p0 := 631) dL_isSo_629 rfl rfl ?_
  refine g_aldX (p0 := 632) dL_isSo_631 (by repeat (first | assumption | refine XB.up (by omega) ?_)) ⟨rfl, by decide⟩ (by omega) (by first | assumption | ((repeat (first | exact up_hit | (apply up_nv; omega) | (apply up_mv; omega))) <;> first | assumption | rfl)) rfl ?_
  refine g_cS2R (p0 := 635) (r1 := mL_letter) dL_isSo_632 (Or.inl lL_31) vL_letter (FITi rfl rfl) (Nat.le_of_ble_eq_true rfl) (hlt) rfl ?_
  first | ((with_reducible refine isN2 ?_); refine g_icmpN_ne (tgt := 730) (p1 := 638) dL_isSo_635 rfl (by omega) (by omega) rfl (fun c_635 => by exfalso; first | exact c_635 rfl | omega | contradiction) (fun c_635 => ?_)) | refine g_icmp_ne (tgt := 730) (p1 := 638) dL_isSo_635 rfl rfl (fun c_635 => by exfalso; first | exact c_635 rfl | omega | contradiction) (fun c_635 => ?_)
  refine g_aload_n (p0 := 639) (i := 0) dL_isSo_638 rfl rfl rfl ?_
  refine g_iload (p0 := 641) dL_isSo_639 rfl rfl ?_
  refine g_iload (p0 := 643) dL_isSo_641 rfl rfl ?_
  refine g_iload (p0 := 645) dL_isSo_643 rfl rfl ?_
  first | ((with_reducible refine isN2 ?_); refine g_isubN (p0 := 646) dL_isSo_645 (by omega) rfl ?_) | refine g_isub (p0 := 646) dL_isSo_645 rfl ?_
  rw [show fr + p - fr = p by omega]
  refine g_iconst (p0 := 647) (v := nI 1) dL_isSo_646 rfl rfl ?_
  refine g_cV3R (p0 := 650) (r1 := mX9_letterOf) dL_isSo_647 lL_92 vX9_letterOf (by first | rfl | assumption | exact RW.s (by assumption) | exact TW.s (by assumption)) ⟨_, _, rfl⟩ (FITi rfl rfl) (Nat.le_of_ble_eq_true rfl) (lo_c1 hM hM1 hm hl (by omega) hp hf (by omega) h36 (by omega)) rfl ?_
  refine g_aload (p0 := 652) dL_isSo_650 rfl rfl ?_
  refine g_iload (p0 := 654) dL_isSo_652 rfl rfl ?_
  refine g_aldX (p0 := 655) dL_isSo_654 (by repeat (first | assumption | refine XB.up (by omega) ?_)) ⟨rfl, by decide⟩ (by omega) (by first | assumption | ((repeat (first | exact up_hit | (apply up_nv; omega) | (apply up_mv; omega))) <;> first | assumption | rfl)) rfl ?_
  refine g_sipush (p0 := 658) (v := nI 255) dL_isSo_655 (by decide) rfl ?_
  refine g_iand (p0 := 659) dL_isSo_658 rfl ?_
  rw [pk_andN (by omega) 8 (by decide), show P % 2 ^ 8 = g by omega]
  first | ((with_reducible refine isN2 ?_); refine g_icmpN_ne (tgt := 730) (p1 := 662) dL_isSo_659 rfl (by omega) (by omega) rfl (fun c_659 => by exfalso; first | exact c_659 rfl | omega | contradiction) (fun c_659 => ?_)) | refine g_icmp_ne (tgt := 730) (p1 := 662) dL_isSo_659 rfl rfl (fun c_659 => by exfalso; first | exact c_659 rfl | omega | contradiction) (fun c_659 => ?_)
  refine g_aload_n (p0 := 663) (i := 0) dL_isSo_662 rfl rfl rfl ?_
  refine g_iload (p0 := 665) dL_isSo_663 rfl rfl ?_
  refine g_iload (p0 := 667) dL_isSo_665 rfl rfl ?_
  refine g_iload (p0 := 669) dL_isSo_667 rfl rfl ?_
  first | ((with_reducible refine isN2 ?_); refine g_isubN (p0 := 670) dL_isSo_669 (by omega) rfl ?_) | refine g_isub (p0 := 670) dL_isSo_669 rfl ?_
  rw [show fr + p - fr = p by omega]
  refine g_iconst (p0 := 671) (v := nI 2) dL_isSo_670 rfl rfl ?_
  refine g_cV3R (p0 := 674) (r1 := mX9_letterOf) dL_isSo_671 lL_92 vX9_letterOf (by first | rfl | assumption | exact RW.s (by assumption) | exact TW.s (by assumption)) ⟨_, _, rfl⟩ (FITi rfl rfl) (Nat.le_of_ble_eq_true rfl) (lo_c2 hM hM1 hm hl (by omega) hp hf (by omega) h36 (by omega) h38) rfl ?_
  refine g_aload (p0 := 676) dL_isSo_674 rfl rfl ?_
  refine g_iload (p0 := 678) dL_isSo_676 rfl rfl ?_
  refine g_aldX (p0 := 679) dL_isSo_678 (by repeat (first | assumption | refine XB.up (by omega) ?_)) ⟨rfl, by decide⟩ (by omega) (by first | assumption | ((repeat (first | exact up_hit | (apply up_nv; omega) | (apply up_mv; omega))) <;> first | assumption | rfl)) rfl ?_
  refine g_cS1R (p0 := 682) (r1 := mL_one) dL_isSo_679 (Or.inl lL_15) vL_one (FITi rfl rfl) (Nat.le_of_ble_eq_true rfl) (one_sp hP (by omega) (by omega) (by omega)) rfl ?_
  first | ((with_reducible refine isN2 ?_); refine g_icmpN_ne (tgt := 730) (p1 := 685) dL_isSo_682 rfl (by omega) (by omega) rfl (fun c_682 => by exfalso; first | exact c_682 rfl | omega | contradiction) (fun c_682 => ?_)) | refine g_icmp_ne (tgt := 730) (p1 := 685) dL_isSo_682 rfl rfl (fun c_682 => by exfalso; first | exact c_682 rfl | omega | contradiction) (fun c_682 => ?_)
  refine g_aload_n (p0 := 686) (i := 0) dL_isSo_685 rfl rfl rfl ?_
  refine g_iload (p0 := 688) dL_isSo_686 rfl rfl ?_
  refine g_iload (p0 := 690) dL_isSo_688 rfl rfl ?_
  refine g_iload (p0 := 692) dL_isSo_690 rfl rfl ?_
  first | ((with_reducible refine isN2 ?_); refine g_isubN (p0 := 693) dL_isSo_692 (by omega) rfl ?_) | refine g_isub (p0 := 693) dL_isSo_692 rfl ?_
  rw [show fr + p - fr = p by omega]
  refine g_iconst (p0 := 694) (v := nI 3) dL_isSo_693 rfl rfl ?_
  refine g_cV3R (p0 := 697) (r1 := mX9_letterOf) dL_isSo_694 lL_92 vX9_letterOf (by first | rfl | assumption | exact RW.s (by assumption) | exact TW.s (by assumption)) ⟨_, _, rfl⟩ (FITi rfl rfl) (Nat.le_of_ble_eq_true rfl) (lo_c3z hM hM1 hm hl (by omega) hp hf (by omega) h36 (by omega) h2) rfl ?_
  refine g_aload (p0 := 699) dL_isSo_697 rfl rfl ?_
  refine g_iload (p0 := 701) dL_isSo_699 rfl rfl ?_
  refine g_aldX (p0 := 702) dL_isSo_701 (by repeat (first | assumption | refine XB.up (by omega) ?_)) ⟨rfl, by decide⟩ (by omega) (by first | assumption | ((repeat (first | exact up_hit | (apply up_nv; omega) | (apply up_mv; omega))) <;> first | assumption | rfl)) rfl ?_
  refine g_sipush (p0 := 705) (v := nI 255) dL_isSo_702 (by decide) rfl ?_
  refine g_iand (p0 := 706) dL_isSo_705 rfl ?_
  rw [pk_andN (by omega) 8 (by decide), show P % 2 ^ 8 = g by omega]
  refine g_iconst (p0 := 707) (v := nI 1) dL_isSo_706 rfl rfl ?_
  first | ((with_reducible refine isN2 ?_); refine g_icmpN_le (tgt := 721) (p1 := 710) dL_isSo_707 rfl (by omega) (by omega) rfl (fun c_707 => ?_) (fun c_707 => by exfalso; first | exact c_707 rfl | omega | contradiction)) | refine g_icmp_le (tgt := 721) (p1 := 710) dL_isSo_707 rfl rfl (fun c_707 => ?_) (fun c_707 => by exfalso; first | exact c_707 rfl | omega | contradiction)
  refine g_iload (p0 := 723) dL_isSo_721 rfl rfl ?_
  first | ((with_reducible refine isN2 ?_); refine g_icmpN_ne (tgt := 730) (p1 := 726) dL_isSo_723 rfl (by omega) (by omega) rfl (fun c_723 => by exfalso; first | exact c_723 rfl | omega | contradiction) (fun c_723 => ?_)) | refine g_icmp_ne (tgt := 730) (p1 := 726) dL_isSo_723 rfl rfl (fun c_723 => by exfalso; first | exact c_723 rfl | omega | contradiction) (fun c_723 => ?_)
  refine g_iconst (p0 := 727) (v := nI 1) dL_isSo_726 rfl rfl ?_
  refine g_goto (tgt := 731) dL_isSo_727 rfl ?_
  refine g_istore (p0 := 733) (i := 19) (ls2 := [_, _, _, _, _, _, _, _, _, _, _, _, _, _, _, _, _, _, _, _, _, _, _, _, _, _, _, _]) dL_isSo_731 (Nat.le_of_ble_eq_true rfl) rfl rfl ?_
  first | refine g_iinc1 (p0 := 736) (ls2 := [_, _, _, _, _, _, _, _, _, _, _, _, _, _, _, _, _, _, _, _, _, _, _, _, _, _, _, _]) dL_isSo_733 rfl rfl rfl ?_ | refine g_iinc (p0 := 736) (ls2 := [_, _, _, _, _, _, _, _, _, _, _, _, _, _, _, _, _, _, _, _, _, _, _, _, _, _, _, _]) dL_isSo_733 rfl rfl rfl rfl ?_
  refine g_goto (tgt := 581) dL_isSo_736 rfl ?_
  exact next
set_option maxRecDepth 20000 in
set_option maxHeartbeats 2000000 in
theorem iE_g2 {e k L M fr n p wr g a b P : Nat} {v14 v15 v16 v17 v18 v24 v25 v26 : Int32} {σ : Sg} {Q : SP} (hB : XB σ e) (he : e + 7 ≤ 90000) (he2 : 82 ≤ e) (hp : p < n) (hfn : fr + n ≤ 60) (hP : P = g + 256 * a + 65536 * b) (hg : g < 250) (ha : a < 250) (hb : b < 250) (h6 : σ (e + 6) (fr + p) = nI P) (hM : σ 45 7 = nI M) (hM1 : M ≤ 160) (hm : k < M) (hl : σ 51 k = nI n) (hf : σ 49 k = nI fr) (h36 : σ 36 (fr + p) = nI g) (h38 : σ 38 (fr + p) = nI a) (h40 : σ 40 (fr + p) = nI b) {z : Nat} (hz : z < 25) (hv : σ 42 (fr + p) = nI z) (hgd : CM mL_good [ai (nI P)] σ (Ret (nI 1) σ)) (hlt : CM mL_letter [ar 81, ai (nI P)] σ (Ret (nI z) σ)) (h2 : 2 ≤ g) (next : WM mL_isSo Q 581 [some (ar 0), some (ar 79), some (ar 80), some (ar 81), some (ar (e + 0)), some (ar (e + 1)), some (ar (e + 2)), some (ar (e + 3)), some (ar (e + 4)), some (ar (e + 5)), some (ar (e + 6)), some (ai (nI L)), some (ai (nI M)), some (ai (-1000004)), some (ai v14), some (ai v15), some (ai v16), some (ai v17), some (ai v18), some (ai (nI 1)), some (ai (nI k)), some (ai (nI fr)), some (ai (nI (fr + n))), some (ai (nI (wr + 0))), some (ai v24), some (ai v25), some (ai v26), some (ai (nI (fr + (p + 1))))] [] σ) : WM mL_isSo Q 581 [some (ar 0), some (ar 79), some (ar 80), some (ar 81), some (ar (e + 0)), some (ar (e + 1)), some (ar (e + 2)), some (ar (e + 3)), some (ar (e + 4)), some (ar (e + 5)), some (ar (e + 6)), some (ai (nI L)), some (ai (nI M)), some (ai (-1000004)), some (ai v14), some (ai v15), some (ai v16), some (ai v17), some (ai v18), some (ai (nI 1)), some (ai (nI k)), some (ai (nI fr)), some (ai (nI (fr + n))), some (ai (nI wr)), some (ai v24), some (ai v25), some (ai v26), some (ai (nI (fr + p)))] [] σ := by
  refine g_iload (p0 := 583) dL_isSo_581 rfl rfl ?_
  refine g_iload (p0 := 585) dL_isSo_583 rfl rfl ?_
  first | ((with_reducible refine isN2 ?_); refine g_icmpN_ge (tgt := 739) (p1 := 588) dL_isSo_585 rfl (by omega) (by omega) rfl (fun c_585 => by exfalso; first | exact c_585 rfl | omega | contradiction) (fun c_585 => ?_)) | refine g_icmp_ge (tgt := 739) (p1 := 588) dL_isSo_585 rfl rfl (fun c_585 => by exfalso; first | exact c_585 rfl | omega | contradiction) (fun c_585 => ?_)
  refine g_iload (p0 := 590) dL_isSo_588 rfl rfl ?_
  first | ((with_reducible refine isN1 ?_); refine g_ifN_eq (tgt := 739) (p1 := 593) dL_isSo_590 rfl (by omega) rfl (fun c_590 => by exfalso; first | exact c_590 rfl | omega | contradiction) (fun c_590 => ?_)) | refine g_if_eq (tgt := 739) (p1 := 593) dL_isSo_590 rfl rfl (fun c_590 => by exfalso; first | exact c_590 rfl | omega | contradiction) (fun c_590 => ?_)
  refine g_iload (p0 := 595) dL_isSo_593 rfl rfl ?_
  refine g_aload (p0 := 597) dL_isSo_595 rfl rfl ?_
  refine g_iload (p0 := 599) dL_isSo_597 rfl rfl ?_
  refine g_aldX (p0 := 600) dL_isSo_599 (by repeat (first | assumption | refine XB.up (by omega) ?_)) ⟨rfl, by decide⟩ (by omega) (by first | assumption | ((repeat (first | exact up_hit | (apply up_nv; omega) | (apply up_mv; omega))) <;> first | assumption | rfl)) rfl ?_
  refine g_cS1R (p0 := 603) (r1 := mL_good) dL_isSo_600 (Or.inl lL_22) vL_good (FITi rfl rfl) (Nat.le_of_ble_eq_true rfl) (hgd) rfl ?_
  first | ((with_reducible refine isN1 ?_); refine g_ifN_eq (tgt := 610) (p1 := 606) dL_isSo_603 rfl (by omega) rfl (fun c_603 => by exfalso; first | exact c_603 rfl | omega | contradiction) (fun c_603 => ?_)) | refine g_if_eq (tgt := 610) (p1 := 606) dL_isSo_603 rfl rfl (fun c_603 => by exfalso; first | exact c_603 rfl | omega | contradiction) (fun c_603 => ?_)
  refine g_iconst (p0 := 607) (v := nI 0) dL_isSo_606 rfl rfl ?_
  refine g_goto (tgt := 611) dL_isSo_607 rfl ?_
  first | ((with_reducible refine isN2 ?_); refine g_iaddN (p0 := 612) dL_isSo_611 rfl ?_) | refine g_iadd (p0 := 612) dL_isSo_611 rfl ?_
  refine g_istore (p0 := 614) (i := 23) (ls2 := [_, _, _, _, _, _, _, _, _, _, _, _, _, _, _, _, _, _, _, _, _, _, _, _, _, _, _, _]) dL_isSo_612 (Nat.le_of_ble_eq_true rfl) rfl rfl ?_
  refine g_aload_n (p0 := 615) (i := 0) dL_isSo_614 rfl rfl rfl ?_
  refine g_iload (p0 := 617) dL_isSo_615 rfl rfl ?_
  refine g_iload (p0 := 619) dL_isSo_617 rfl rfl ?_
  refine g_iload (p0 := 621) dL_isSo_619 rfl rfl ?_
  first | ((with_reducible refine isN2 ?_); refine g_isubN (p0 := 622) dL_isSo_621 (by omega) rfl ?_) | refine g_isub (p0 := 622) dL_isSo_621 rfl ?_
  rw [show fr + p - fr = p by omega]
  refine g_iconst (p0 := 623) (v := nI 0) dL_isSo_622 rfl rfl ?_
  refine g_cV3R (p0 := 626) (r1 := mX9_letterOf) dL_isSo_623 lL_92 vX9_letterOf (by first | rfl | assumption | exact RW.s (by assumption) | exact TW.s (by assumption)) ⟨_, _, rfl⟩ (FITi rfl rfl) (Nat.le_of_ble_eq_true rfl) (lo_c0 hM hM1 hm hl (by omega) hp hf (by omega) h36 (by omega) hv (nI_m1 hz)) rfl ?_
  refine g_aload_n (p0 := 627) (i := 3) dL_isSo_626 rfl rfl rfl ?_
  refine g_aload (p0 := 629) dL_isSo_627 rfl rfl ?_
  refine g_iload (p0 := 631) dL_isSo_629 rfl rfl ?_
  refine g_aldX (p0 := 632) dL_isSo_631 (by repeat (first | assumption | refine XB.up (by omega) ?_)) ⟨rfl, by decide⟩ (by omega) (by first | assumption | ((repeat (first | exact up_hit | (apply up_nv; omega) | (apply up_mv; omega))) <;> first | assumption | rfl)) rfl ?_
  refine g_cS2R (p0 := 635) (r1 := mL_letter) dL_isSo_632 (Or.inl lL_31) vL_letter (FITi rfl rfl) (Nat.le_of_ble_eq_true rfl) (hlt) rfl ?_
  first | ((with_reducible refine isN2 ?_); refine g_icmpN_ne (tgt := 730) (p1 := 638) dL_isSo_635 rfl (by omega) (by omega) rfl (fun c_635 => by exfalso; first | exact c_635 rfl | omega | contradiction) (fun c_635 => ?_)) | refine g_icmp_ne (tgt := 730) (p1 := 638) dL_isSo_635 rfl rfl (fun c_635 => by exfalso; first | exact c_635 rfl | omega | contradiction) (fun c_635 => ?_)
  refine g_aload_n (p0 := 639) (i := 0) dL_isSo_638 rfl rfl rfl ?_
  refine g_iload (p0 := 641) dL_isSo_639 rfl rfl ?_
  refine g_iload (p0 := 643) dL_isSo_641 rfl rfl ?_
  refine g_iload (p0 := 645) dL_isSo_643 rfl rfl ?_
  first | ((with_reducible refine isN2 ?_); refine g_isubN (p0 := 646) dL_isSo_645 (by omega) rfl ?_) | refine g_isub (p0 := 646) dL_isSo_645 rfl ?_
  rw [show fr + p - fr = p by omega]
  refine g_iconst (p0 := 647) (v := nI 1) dL_isSo_646 rfl rfl ?_
  refine g_cV3R (p0 := 650) (r1 := mX9_letterOf) dL_isSo_647 lL_92 vX9_letterOf (by first | rfl | assumption | exact RW.s (by assumption) | exact TW.s (by assumption)) ⟨_, _, rfl⟩ (FITi rfl rfl) (Nat.le_of_ble_eq_true rfl) (lo_c1 hM hM1 hm hl (by omega) hp hf (by omega) h36 (by omega)) rfl ?_
  refine g_aload (p0 := 652) dL_isSo_650 rfl rfl ?_
  refine g_iload (p0 := 654) dL_isSo_652 rfl rfl ?_
  refine g_aldX (p0 := 655) dL_isSo_654 (by repeat (first | assumption | refine XB.up (by omega) ?_)) ⟨rfl, by decide⟩ (by omega) (by first | assumption | ((repeat (first | exact up_hit | (apply up_nv; omega) | (apply up_mv; omega))) <;> first | assumption | rfl)) rfl ?_
  refine g_sipush (p0 := 658) (v := nI 255) dL_isSo_655 (by decide) rfl ?_
  refine g_iand (p0 := 659) dL_isSo_658 rfl ?_
  rw [pk_andN (by omega) 8 (by decide), show P % 2 ^ 8 = g by omega]
  first | ((with_reducible refine isN2 ?_); refine g_icmpN_ne (tgt := 730) (p1 := 662) dL_isSo_659 rfl (by omega) (by omega) rfl (fun c_659 => by exfalso; first | exact c_659 rfl | omega | contradiction) (fun c_659 => ?_)) | refine g_icmp_ne (tgt := 730) (p1 := 662) dL_isSo_659 rfl rfl (fun c_659 => by exfalso; first | exact c_659 rfl | omega | contradiction) (fun c_659 => ?_)
  refine g_aload_n (p0 := 663) (i := 0) dL_isSo_662 rfl rfl rfl ?_
  refine g_iload (p0 := 665) dL_isSo_663 rfl rfl ?_
  refine g_iload (p0 := 667) dL_isSo_665 rfl rfl ?_
  refine g_iload (p0 := 669) dL_isSo_667 rfl rfl ?_
  first | ((with_reducible refine isN2 ?_); refine g_isubN (p0 := 670) dL_isSo_669 (by omega) rfl ?_) | refine g_isub (p0 := 670) dL_isSo_669 rfl ?_
  rw [show fr + p - fr = p by omega]
  refine g_iconst (p0 := 671) (v := nI 2) dL_isSo_670 rfl rfl ?_
  refine g_cV3R (p0 := 674) (r1 := mX9_letterOf) dL_isSo_671 lL_92 vX9_letterOf (by first | rfl | assumption | exact RW.s (by assumption) | exact TW.s (by assumption)) ⟨_, _, rfl⟩ (FITi rfl rfl) (Nat.le_of_ble_eq_true rfl) (lo_c2 hM hM1 hm hl (by omega) hp hf (by omega) h36 (by omega) h38) rfl ?_
  refine g_aload (p0 := 676) dL_isSo_674 rfl rfl ?_
  refine g_iload (p0 := 678) dL_isSo_676 rfl rfl ?_
  refine g_aldX (p0 := 679) dL_isSo_678 (by repeat (first | assumption | refine XB.up (by omega) ?_)) ⟨rfl, by decide⟩ (by omega) (by first | assumption | ((repeat (first | exact up_hit | (apply up_nv; omega) | (apply up_mv; omega))) <;> first | assumption | rfl)) rfl ?_
  refine g_cS1R (p0 := 682) (r1 := mL_one) dL_isSo_679 (Or.inl lL_15) vL_one (FITi rfl rfl) (Nat.le_of_ble_eq_true rfl) (one_sp hP (by omega) (by omega) (by omega)) rfl ?_
  first | ((with_reducible refine isN2 ?_); refine g_icmpN_ne (tgt := 730) (p1 := 685) dL_isSo_682 rfl (by omega) (by omega) rfl (fun c_682 => by exfalso; first | exact c_682 rfl | omega | contradiction) (fun c_682 => ?_)) | refine g_icmp_ne (tgt := 730) (p1 := 685) dL_isSo_682 rfl rfl (fun c_682 => by exfalso; first | exact c_682 rfl | omega | contradiction) (fun c_682 => ?_)
  refine g_aload_n (p0 := 686) (i := 0) dL_isSo_685 rfl rfl rfl ?_
  refine g_iload (p0 := 688) dL_isSo_686 rfl rfl ?_
  refine g_iload (p0 := 690) dL_isSo_688 rfl rfl ?_
  refine g_iload (p0 := 692) dL_isSo_690 rfl rfl ?_
  first | ((with_reducible refine isN2 ?_); refine g_isubN (p0 := 693) dL_isSo_692 (by omega) rfl ?_) | refine g_isub (p0 := 693) dL_isSo_692 rfl ?_
  rw [show fr + p - fr = p by omega]
  refine g_iconst (p0 := 694) (v := nI 3) dL_isSo_693 rfl rfl ?_
  refine g_cV3R (p0 := 697) (r1 := mX9_letterOf) dL_isSo_694 lL_92 vX9_letterOf (by first | rfl | assumption | exact RW.s (by assumption) | exact TW.s (by assumption)) ⟨_, _, rfl⟩ (FITi rfl rfl) (Nat.le_of_ble_eq_true rfl) (lo_c3 hM hM1 hm hl (by omega) hp hf (by omega) h36 (by omega) h2 h40) rfl ?_
  refine g_aload (p0 := 699) dL_isSo_697 rfl rfl ?_
  refine g_iload (p0 := 701) dL_isSo_699 rfl rfl ?_
  refine g_aldX (p0 := 702) dL_isSo_701 (by repeat (first | assumption | refine XB.up (by omega) ?_)) ⟨rfl, by decide⟩ (by omega) (by first | assumption | ((repeat (first | exact up_hit | (apply up_nv; omega) | (apply up_mv; omega))) <;> first | assumption | rfl)) rfl ?_
  refine g_sipush (p0 := 705) (v := nI 255) dL_isSo_702 (by decide) rfl ?_
  refine g_iand (p0 := 706) dL_isSo_705 rfl ?_
  rw [pk_andN (by omega) 8 (by decide), show P % 2 ^ 8 = g by omega]
  refine g_iconst (p0 := 707) (v := nI 1) dL_isSo_706 rfl rfl ?_
  first | ((with_reducible refine isN2 ?_); refine g_icmpN_le (tgt := 721) (p1 := 710) dL_isSo_707 rfl (by omega) (by omega) rfl (fun c_707 => by exfalso; first | exact c_707 rfl | omega | contradiction) (fun c_707 => ?_)) | refine g_icmp_le (tgt := 721) (p1 := 710) dL_isSo_707 rfl rfl (fun c_707 => by exfalso; first | exact c_707 rfl | omega | contradiction) (fun c_707 => ?_)
  refine g_aload (p0 := 712) dL_isSo_710 rfl rfl ?_
  refine g_iload (p0 := 714) dL_isSo_712 rfl rfl ?_
  refine g_aldX (p0 := 715) dL_isSo_714 (by repeat (first | assumption | refine XB.up (by omega) ?_)) ⟨rfl, by decide⟩ (by omega) (by first | assumption | ((repeat (first | exact up_hit | (apply up_nv; omega) | (apply up_mv; omega))) <;> first | assumption | rfl)) rfl ?_
  refine g_cS1R (p0 := 718) (r1 := mL_two) dL_isSo_715 (Or.inl lL_19) vL_two (FITi rfl rfl) (Nat.le_of_ble_eq_true rfl) (two_sp hP (by omega) (by omega) (by omega)) rfl ?_
  refine g_goto (tgt := 723) dL_isSo_718 rfl ?_
  first | ((with_reducible refine isN2 ?_); refine g_icmpN_ne (tgt := 730) (p1 := 726) dL_isSo_723 rfl (by omega) (by omega) rfl (fun c_723 => by exfalso; first | exact c_723 rfl | omega | contradiction) (fun c_723 => ?_)) | refine g_icmp_ne (tgt := 730) (p1 := 726) dL_isSo_723 rfl rfl (fun c_723 => by exfalso; first | exact c_723 rfl | omega | contradiction) (fun c_723 => ?_)
  refine g_iconst (p0 := 727) (v := nI 1) dL_isSo_726 rfl rfl ?_
  refine g_goto (tgt := 731) dL_isSo_727 rfl ?_
  refine g_istore (p0 := 733) (i := 19) (ls2 := [_, _, _, _, _, _, _, _, _, _, _, _, _, _, _, _, _, _, _, _, _, _, _, _, _, _, _, _]) dL_isSo_731 (Nat.le_of_ble_eq_true rfl) rfl rfl ?_
  first | refine g_iinc1 (p0 := 736) (ls2 := [_, _, _, _, _, _, _, _, _, _, _, _, _, _, _, _, _, _, _, _, _, _, _, _, _, _, _, _]) dL_isSo_733 rfl rfl rfl ?_ | refine g_iinc (p0 := 736) (ls2 := [_, _, _, _, _, _, _, _, _, _, _, _, _, _, _, _, _, _, _, _, _, _, _, _, _, _, _, _]) dL_isSo_733 rfl rfl rfl rfl ?_
  refine g_goto (tgt := 581) dL_isSo_736 rfl ?_
  exact next
set_option maxRecDepth 20000 in
set_option maxHeartbeats 2000000 in
theorem iE_loop {e s k fr n : Nat} {v14 v15 v16 v17 v18 v24 v25 v26 : Int32} {c d : Nat → Nat} {gp tk : Nat → Int32} {σ : Sg} {Q : SP} (hF : FA σ e s c d gp tk) (hk : k < Mc c s) (hfr : fr = fl c s k) (hn : n = ln c s k) (next : WM mL_isSo Q 739 [some (ar 0), some (ar 79), some (ar 80), some (ar 81), some (ar (e + 0)), some (ar (e + 1)), some (ar (e + 2)), some (ar (e + 3)), some (ar (e + 4)), some (ar (e + 5)), some (ar (e + 6)), some (ai (nI (Lc c s))), some (ai (nI (Mc c s))), some (ai (-1000004)), some (ai v14), some (ai v15), some (ai v16), some (ai v17), some (ai v18), some (ai (nI 1)), some (ai (nI k)), some (ai (nI fr)), some (ai (nI (fr + n))), some (ai (nI (uF (σ 42) fr n))), some (ai v24), some (ai v25), some (ai v26), some (ai (nI (fr + n)))] [] σ) : ∀ m p, p + m = n → WM mL_isSo Q 581 [some (ar 0), some (ar 79), some (ar 80), some (ar 81), some (ar (e + 0)), some (ar (e + 1)), some (ar (e + 2)), some (ar (e + 3)), some (ar (e + 4)), some (ar (e + 5)), some (ar (e + 6)), some (ai (nI (Lc c s))), some (ai (nI (Mc c s))), some (ai (-1000004)), some (ai v14), some (ai v15), some (ai v16), some (ai v17), some (ai v18), some (ai (nI 1)), some (ai (nI k)), some (ai (nI fr)), some (ai (nI (fr + n))), some (ai (nI (uF (σ 42) fr p))), some (ai v24), some (ai v25), some (ai v26), some (ai (nI (fr + p)))] [] σ := by
  obtain ⟨⟨a1, a2, a3, a4, a5, a6, a7, a8, a9⟩, hK, hD, hL, ⟨b1, b2, b3⟩, hMs⟩ := id hF
  have he2 := a1.1
  have bLs := (Mc_le c s).2
  have bMs := (Mc_le c s).1
  obtain ⟨c1, c2, c3, c4, c5, c6, c7⟩ := hMs k hk
  rw [← hfr] at c2
  rw [← hn] at c3
  have hfl := flL c a7 s k hk
  rw [← hfr, ← hn] at hfl
  intro m
  induction m with
  | zero =>
    intro p hp
    obtain rfl : p = n := by omega
    refine g_iload (p0 := 583) dL_isSo_581 rfl rfl ?_
    refine g_iload (p0 := 585) dL_isSo_583 rfl rfl ?_
    first | ((with_reducible refine isN2 ?_); refine g_icmpN_ge (tgt := 739) (p1 := 588) dL_isSo_585 rfl (by omega) (by omega) rfl (fun c_585 => ?_) (fun c_585 => by exfalso; first | exact c_585 rfl | omega | contradiction)) | refine g_icmp_ge (tgt := 739) (p1 := 588) dL_isSo_585 rfl rfl (fun c_585 => ?_) (fun c_585 => by exfalso; first | exact c_585 rfl | omega | contradiction)
    exact next
  | succ m ih =>
    intro p hp
    obtain ⟨d1, d2, d3, d4, d5, x, hx, h⟩ := hL (fr + p) (by omega)
    have ihp := ih (p + 1) (by omega)
    have g1 := gr_le c s (fr + p)
    have g2 := o1_le c a7 s (fr + p)
    have g3 := o2_le c a7 s (fr + p)
    have ex := hx.symm.trans d2
    rcases h with ⟨hv, hgd, hlt⟩ | ⟨z, hz, hv, hgd, hlt⟩
    · rw [ex] at hgd hlt
      rw [uF, if_pos hv] at ihp
      by_cases h2 : gr c s (fr + p) < 2
      · exact iE_b1 a1 a2 he2 (by omega) (by omega) rfl (by omega) (by omega) (by omega) d2 b1 (by omega) hk c3 c2 d3 d4 d5 hv hgd hlt h2 ihp
      · exact iE_b2 a1 a2 he2 (by omega) (by omega) rfl (by omega) (by omega) (by omega) d2 b1 (by omega) hk c3 c2 d3 d4 d5 hv hgd hlt (by omega) ihp
    · rw [ex] at hgd hlt
      have hv2 : ¬ σ 42 (fr + p) = -1 := by rw [hv]; exact nI_m1 hz
      rw [uF, if_neg hv2] at ihp
      by_cases h2 : gr c s (fr + p) < 2
      · exact iE_g1 a1 a2 he2 (by omega) (by omega) rfl (by omega) (by omega) (by omega) d2 b1 (by omega) hk c3 c2 d3 d4 d5 hz hv hgd hlt h2 ihp
      · exact iE_g2 a1 a2 he2 (by omega) (by omega) rfl (by omega) (by omega) (by omega) d2 b1 (by omega) hk c3 c2 d3 d4 d5 hz hv hgd hlt (by omega) ihp
set_option maxRecDepth 20000 in
set_option maxHeartbeats 2000000 in
theorem iG_0 {e k L M fr n wr bd rt ow dd stt : Nat} {v15 v16 v17 : Int32} {σ : Sg} {Q : SP} (hn60 : fr + n ≤ 60) (hM : σ 45 7 = nI M) (hM1 : M ≤ 160) (hm : k < M) (hl : σ 51 k = nI n) (h57 : σ 57 k = nI wr) (h53 : σ 53 k = nI ow) (h47 : σ 47 k = nI stt) (h55 : σ 55 k = nI dd) (hrt : CM mL_right [ar 81, ar (e + 6), ai (nI fr), ai (nI (fr + n))] σ (Ret (nI 0) σ)) (hri : CM mX6_isRight [ar 33, ai (nI k)] σ (Ret (nI 0) σ)) (next : ∀ x21 x22 x23 x24 x25 x26 x27, WM mL_isSo Q 414 [some (ar 0), some (ar 79), some (ar 80), some (ar 81), some (ar (e + 0)), some (ar (e + 1)), some (ar (e + 2)), some (ar (e + 3)), some (ar (e + 4)), some (ar (e + 5)), some (ar (e + 6)), some (ai (nI L)), some (ai (nI M)), some (ai (-1000004)), some (ai (nI (bd + wr))), some (ai v15), some (ai v16), some (ai v17), some (ai (nI (rt + 0))), some (ai (nI 1)), some (ai (nI (k + 1))), x21, x22, x23, x24, x25, x26, x27] [] σ) : WM mL_isSo Q 739 [some (ar 0), some (ar 79), some (ar 80), some (ar 81), some (ar (e + 0)), some (ar (e + 1)), some (ar (e + 2)), some (ar (e + 3)), some (ar (e + 4)), some (ar (e + 5)), some (ar (e + 6)), some (ai (nI L)), some (ai (nI M)), some (ai (-1000004)), some (ai (nI bd)), some (ai v15), some (ai v16), some (ai v17), some (ai (nI rt)), some (ai (nI 1)), some (ai (nI k)), some (ai (nI fr)), some (ai (nI (fr + n))), some (ai (nI wr)), some (ai (nI ow)), some (ai (nI dd)), some (ai (nI stt)), some (ai (nI (fr + n)))] [] σ := by
  refine g_aload_n (p0 := 740) (i := 3) dL_isSo_739 rfl rfl rfl ?_
  refine g_aload (p0 := 742) dL_isSo_740 rfl rfl ?_
  refine g_iload (p0 := 744) dL_isSo_742 rfl rfl ?_
  refine g_iload (p0 := 746) dL_isSo_744 rfl rfl ?_
  refine g_cS4R (p0 := 749) (r1 := mL_right) dL_isSo_746 (Or.inl lL_96) vL_right (FITi rfl rfl) (Nat.le_of_ble_eq_true rfl) (hrt) rfl ?_
  refine g_istore (p0 := 751) (i := 27) (ls2 := [_, _, _, _, _, _, _, _, _, _, _, _, _, _, _, _, _, _, _, _, _, _, _, _, _, _, _, _]) dL_isSo_749 (Nat.le_of_ble_eq_true rfl) rfl rfl ?_
  refine g_iload (p0 := 753) dL_isSo_751 rfl rfl ?_
  refine g_iload (p0 := 755) dL_isSo_753 rfl rfl ?_
  first | ((with_reducible refine isN2 ?_); refine g_iaddN (p0 := 756) dL_isSo_755 rfl ?_) | refine g_iadd (p0 := 756) dL_isSo_755 rfl ?_
  refine g_istore (p0 := 758) (i := 14) (ls2 := [_, _, _, _, _, _, _, _, _, _, _, _, _, _, _, _, _, _, _, _, _, _, _, _, _, _, _, _]) dL_isSo_756 (Nat.le_of_ble_eq_true rfl) rfl rfl ?_
  refine g_iload (p0 := 760) dL_isSo_758 rfl rfl ?_
  refine g_iload (p0 := 762) dL_isSo_760 rfl rfl ?_
  first | ((with_reducible refine isN1 ?_); refine g_ifN_eq (tgt := 769) (p1 := 765) dL_isSo_762 rfl (by omega) rfl (fun c_762 => ?_) (fun c_762 => by exfalso; first | exact c_762 rfl | omega | contradiction)) | refine g_if_eq (tgt := 769) (p1 := 765) dL_isSo_762 rfl rfl (fun c_762 => ?_) (fun c_762 => by exfalso; first | exact c_762 rfl | omega | contradiction)
  refine g_iconst (p0 := 770) (v := nI 0) dL_isSo_769 rfl rfl ?_
  first | ((with_reducible refine isN2 ?_); refine g_iaddN (p0 := 771) dL_isSo_770 rfl ?_) | refine g_iadd (p0 := 771) dL_isSo_770 rfl ?_
  refine g_istore (p0 := 773) (i := 18) (ls2 := [_, _, _, _, _, _, _, _, _, _, _, _, _, _, _, _, _, _, _, _, _, _, _, _, _, _, _, _]) dL_isSo_771 (Nat.le_of_ble_eq_true rfl) rfl rfl ?_
  refine g_iload (p0 := 775) dL_isSo_773 rfl rfl ?_
  first | ((with_reducible refine isN1 ?_); refine g_ifN_eq (tgt := 883) (p1 := 778) dL_isSo_775 rfl (by omega) rfl (fun c_775 => by exfalso; first | exact c_775 rfl | omega | contradiction) (fun c_775 => ?_)) | refine g_if_eq (tgt := 883) (p1 := 778) dL_isSo_775 rfl rfl (fun c_775 => by exfalso; first | exact c_775 rfl | omega | contradiction) (fun c_775 => ?_)
  refine g_aload_n (p0 := 779) (i := 0) dL_isSo_778 rfl rfl rfl ?_
  refine g_iload (p0 := 781) dL_isSo_779 rfl rfl ?_
  refine g_iconst (p0 := 782) (v := nI 0) dL_isSo_781 rfl rfl ?_
  refine g_cV2R (p0 := 785) (r1 := mX9_messageOf) dL_isSo_782 lL_100 vX9_messageOf (by first | rfl | assumption | exact RW.s (by assumption) | exact TW.s (by assumption)) ⟨_, _, rfl⟩ (FITi rfl rfl) (Nat.le_of_ble_eq_true rfl) (mo_c0 hM hM1 hm hl) rfl ?_
  refine g_iload (p0 := 787) dL_isSo_785 rfl rfl ?_
  refine g_iload (p0 := 789) dL_isSo_787 rfl rfl ?_
  first | ((with_reducible refine isN2 ?_); refine g_isubN (p0 := 790) dL_isSo_789 (by omega) rfl ?_) | refine g_isub (p0 := 790) dL_isSo_789 rfl ?_
  rw [show fr + n - fr = n by omega]
  first | ((with_reducible refine isN2 ?_); refine g_icmpN_ne (tgt := 883) (p1 := 793) dL_isSo_790 rfl (by omega) (by omega) rfl (fun c_790 => by exfalso; first | exact c_790 rfl | omega | contradiction) (fun c_790 => ?_)) | refine g_icmp_ne (tgt := 883) (p1 := 793) dL_isSo_790 rfl rfl (fun c_790 => by exfalso; first | exact c_790 rfl | omega | contradiction) (fun c_790 => ?_)
  refine g_aload_n (p0 := 794) (i := 0) dL_isSo_793 rfl rfl rfl ?_
  refine g_iload (p0 := 796) dL_isSo_794 rfl rfl ?_
  refine g_iconst (p0 := 797) (v := nI 1) dL_isSo_796 rfl rfl ?_
  refine g_cV2R (p0 := 800) (r1 := mX9_messageOf) dL_isSo_797 lL_100 vX9_messageOf (by first | rfl | assumption | exact RW.s (by assumption) | exact TW.s (by assumption)) ⟨_, _, rfl⟩ (FITi rfl rfl) (Nat.le_of_ble_eq_true rfl) (mo_c1 hM hM1 hm h57) rfl ?_
  refine g_iload (p0 := 802) dL_isSo_800 rfl rfl ?_
  first | ((with_reducible refine isN2 ?_); refine g_icmpN_ne (tgt := 883) (p1 := 805) dL_isSo_802 rfl (by omega) (by omega) rfl (fun c_802 => by exfalso; first | exact c_802 rfl | omega | contradiction) (fun c_802 => ?_)) | refine g_icmp_ne (tgt := 883) (p1 := 805) dL_isSo_802 rfl rfl (fun c_802 => by exfalso; first | exact c_802 rfl | omega | contradiction) (fun c_802 => ?_)
  refine g_aload_n (p0 := 806) (i := 0) dL_isSo_805 rfl rfl rfl ?_
  refine g_iload (p0 := 808) dL_isSo_806 rfl rfl ?_
  refine g_iconst (p0 := 809) (v := nI 2) dL_isSo_808 rfl rfl ?_
  refine g_cV2R (p0 := 812) (r1 := mX9_messageOf) dL_isSo_809 lL_100 vX9_messageOf (by first | rfl | assumption | exact RW.s (by assumption) | exact TW.s (by assumption)) ⟨_, _, rfl⟩ (FITi rfl rfl) (Nat.le_of_ble_eq_true rfl) (mo_c2_0 hM hM1 hm hri) rfl ?_
  refine g_iload (p0 := 814) dL_isSo_812 rfl rfl ?_
  first | ((with_reducible refine isN1 ?_); refine g_ifN_eq (tgt := 821) (p1 := 817) dL_isSo_814 rfl (by omega) rfl (fun c_814 => ?_) (fun c_814 => by exfalso; first | exact c_814 rfl | omega | contradiction)) | refine g_if_eq (tgt := 821) (p1 := 817) dL_isSo_814 rfl rfl (fun c_814 => ?_) (fun c_814 => by exfalso; first | exact c_814 rfl | omega | contradiction)
  refine g_iconst (p0 := 822) (v := nI 0) dL_isSo_821 rfl rfl ?_
  first | ((with_reducible refine isN2 ?_); refine g_icmpN_ne (tgt := 883) (p1 := 825) dL_isSo_822 rfl (by omega) (by omega) rfl (fun c_822 => by exfalso; first | exact c_822 rfl | omega | contradiction) (fun c_822 => ?_)) | refine g_icmp_ne (tgt := 883) (p1 := 825) dL_isSo_822 rfl rfl (fun c_822 => by exfalso; first | exact c_822 rfl | omega | contradiction) (fun c_822 => ?_)
  refine g_aload_n (p0 := 826) (i := 0) dL_isSo_825 rfl rfl rfl ?_
  refine g_iload (p0 := 828) dL_isSo_826 rfl rfl ?_
  refine g_iconst (p0 := 829) (v := nI 3) dL_isSo_828 rfl rfl ?_
  refine g_cV2R (p0 := 832) (r1 := mX9_messageOf) dL_isSo_829 lL_100 vX9_messageOf (by first | rfl | assumption | exact RW.s (by assumption) | exact TW.s (by assumption)) ⟨_, _, rfl⟩ (FITi rfl rfl) (Nat.le_of_ble_eq_true rfl) (mo_c3 hM hM1 hm h53) rfl ?_
  refine g_iload (p0 := 834) dL_isSo_832 rfl rfl ?_
  first | ((with_reducible refine isN2 ?_); refine g_icmpN_ne (tgt := 883) (p1 := 837) dL_isSo_834 rfl (by omega) (by omega) rfl (fun c_834 => by exfalso; first | exact c_834 rfl | omega | contradiction) (fun c_834 => ?_)) | refine g_icmp_ne (tgt := 883) (p1 := 837) dL_isSo_834 rfl rfl (fun c_834 => by exfalso; first | exact c_834 rfl | omega | contradiction) (fun c_834 => ?_)
  refine g_aload_n (p0 := 838) (i := 0) dL_isSo_837 rfl rfl rfl ?_
  refine g_iload (p0 := 840) dL_isSo_838 rfl rfl ?_
  refine g_iconst (p0 := 841) (v := nI 5) dL_isSo_840 rfl rfl ?_
  refine g_cV2R (p0 := 844) (r1 := mX9_messageOf) dL_isSo_841 lL_100 vX9_messageOf (by first | rfl | assumption | exact RW.s (by assumption) | exact TW.s (by assumption)) ⟨_, _, rfl⟩ (FITi rfl rfl) (Nat.le_of_ble_eq_true rfl) (mo_c5 hM hM1 hm h47) rfl ?_
  refine g_iload (p0 := 846) dL_isSo_844 rfl rfl ?_
  first | ((with_reducible refine isN2 ?_); refine g_icmpN_ne (tgt := 883) (p1 := 849) dL_isSo_846 rfl (by omega) (by omega) rfl (fun c_846 => by exfalso; first | exact c_846 rfl | omega | contradiction) (fun c_846 => ?_)) | refine g_icmp_ne (tgt := 883) (p1 := 849) dL_isSo_846 rfl rfl (fun c_846 => by exfalso; first | exact c_846 rfl | omega | contradiction) (fun c_846 => ?_)
  refine g_aload_n (p0 := 850) (i := 0) dL_isSo_849 rfl rfl rfl ?_
  refine g_iload (p0 := 852) dL_isSo_850 rfl rfl ?_
  refine g_bipush (p0 := 854) (v := nI 6) dL_isSo_852 (by decide) rfl ?_
  refine g_cV2R (p0 := 857) (r1 := mX9_messageOf) dL_isSo_854 lL_100 vX9_messageOf (by first | rfl | assumption | exact RW.s (by assumption) | exact TW.s (by assumption)) ⟨_, _, rfl⟩ (FITi rfl rfl) (Nat.le_of_ble_eq_true rfl) (mo_c6 hM hM1 hm h55) rfl ?_
  refine g_iload (p0 := 859) dL_isSo_857 rfl rfl ?_
  first | ((with_reducible refine isN2 ?_); refine g_icmpN_ne (tgt := 883) (p1 := 862) dL_isSo_859 rfl (by omega) (by omega) rfl (fun c_859 => by exfalso; first | exact c_859 rfl | omega | contradiction) (fun c_859 => ?_)) | refine g_icmp_ne (tgt := 883) (p1 := 862) dL_isSo_859 rfl rfl (fun c_859 => by exfalso; first | exact c_859 rfl | omega | contradiction) (fun c_859 => ?_)
  refine g_aload_n (p0 := 863) (i := 0) dL_isSo_862 rfl rfl rfl ?_
  refine g_iload (p0 := 865) dL_isSo_863 rfl rfl ?_
  refine g_iload (p0 := 867) dL_isSo_865 rfl rfl ?_
  refine g_iload (p0 := 869) dL_isSo_867 rfl rfl ?_
  first | ((with_reducible refine isN2 ?_); refine g_isubN (p0 := 870) dL_isSo_869 (by omega) rfl ?_) | refine g_isub (p0 := 870) dL_isSo_869 rfl ?_
  rw [show fr + n - fr = n by omega]
  refine g_iconst (p0 := 871) (v := nI 0) dL_isSo_870 rfl rfl ?_
  refine g_cV3R (p0 := 874) (r1 := mX9_letterOf) dL_isSo_871 lL_92 vX9_letterOf (by first | rfl | assumption | exact RW.s (by assumption) | exact TW.s (by assumption)) ⟨_, _, rfl⟩ (FITi rfl rfl) (Nat.le_of_ble_eq_true rfl) (lo_cb (f := 0) hM hM1 hm hl (by omega) (Nat.le_refl n) (by omega)) rfl ?_
  refine g_ldc (p0 := 876) dL_isSo_874 qL_51 rfl ?_
  first | ((with_reducible refine isN2 ?_); refine g_icmpN_ne (tgt := 883) (p1 := 879) dL_isSo_876 rfl (by omega) (by omega) rfl (fun c_876 => by exfalso; first | exact c_876 rfl | omega | contradiction) (fun c_876 => ?_)) | refine g_icmp_ne (tgt := 883) (p1 := 879) dL_isSo_876 rfl rfl (fun c_876 => by exfalso; first | exact c_876 rfl | omega | contradiction) (fun c_876 => ?_)
  refine g_iconst (p0 := 880) (v := nI 1) dL_isSo_879 rfl rfl ?_
  refine g_goto (tgt := 884) dL_isSo_880 rfl ?_
  refine g_istore (p0 := 886) (i := 19) (ls2 := [_, _, _, _, _, _, _, _, _, _, _, _, _, _, _, _, _, _, _, _, _, _, _, _, _, _, _, _]) dL_isSo_884 (Nat.le_of_ble_eq_true rfl) rfl rfl ?_
  first | refine g_iinc1 (p0 := 889) (ls2 := [_, _, _, _, _, _, _, _, _, _, _, _, _, _, _, _, _, _, _, _, _, _, _, _, _, _, _, _]) dL_isSo_886 rfl rfl rfl ?_ | refine g_iinc (p0 := 889) (ls2 := [_, _, _, _, _, _, _, _, _, _, _, _, _, _, _, _, _, _, _, _, _, _, _, _, _, _, _, _]) dL_isSo_886 rfl rfl rfl rfl ?_
  refine g_goto (tgt := 414) dL_isSo_889 rfl ?_
  exact next _ _ _ _ _ _ _
set_option maxRecDepth 20000 in
set_option maxHeartbeats 2000000 in
theorem iG_1 {e k L M fr n wr bd rt ow dd stt : Nat} {v15 v16 v17 : Int32} {σ : Sg} {Q : SP} (hn60 : fr + n ≤ 60) (hM : σ 45 7 = nI M) (hM1 : M ≤ 160) (hm : k < M) (hl : σ 51 k = nI n) (h57 : σ 57 k = nI wr) (h53 : σ 53 k = nI ow) (h47 : σ 47 k = nI stt) (h55 : σ 55 k = nI dd) (hrt : CM mL_right [ar 81, ar (e + 6), ai (nI fr), ai (nI (fr + n))] σ (Ret (nI 1) σ)) (hri : CM mX6_isRight [ar 33, ai (nI k)] σ (Ret (nI 1) σ)) (next : ∀ x21 x22 x23 x24 x25 x26 x27, WM mL_isSo Q 414 [some (ar 0), some (ar 79), some (ar 80), some (ar 81), some (ar (e + 0)), some (ar (e + 1)), some (ar (e + 2)), some (ar (e + 3)), some (ar (e + 4)), some (ar (e + 5)), some (ar (e + 6)), some (ai (nI L)), some (ai (nI M)), some (ai (-1000004)), some (ai (nI (bd + wr))), some (ai v15), some (ai v16), some (ai v17), some (ai (nI (rt + 1))), some (ai (nI 1)), some (ai (nI (k + 1))), x21, x22, x23, x24, x25, x26, x27] [] σ) : WM mL_isSo Q 739 [some (ar 0), some (ar 79), some (ar 80), some (ar 81), some (ar (e + 0)), some (ar (e + 1)), some (ar (e + 2)), some (ar (e + 3)), some (ar (e + 4)), some (ar (e + 5)), some (ar (e + 6)), some (ai (nI L)), some (ai (nI M)), some (ai (-1000004)), some (ai (nI bd)), some (ai v15), some (ai v16), some (ai v17), some (ai (nI rt)), some (ai (nI 1)), some (ai (nI k)), some (ai (nI fr)), some (ai (nI (fr + n))), some (ai (nI wr)), some (ai (nI ow)), some (ai (nI dd)), some (ai (nI stt)), some (ai (nI (fr + n)))] [] σ := by
  refine g_aload_n (p0 := 740) (i := 3) dL_isSo_739 rfl rfl rfl ?_
  refine g_aload (p0 := 742) dL_isSo_740 rfl rfl ?_
  refine g_iload (p0 := 744) dL_isSo_742 rfl rfl ?_
  refine g_iload (p0 := 746) dL_isSo_744 rfl rfl ?_
  refine g_cS4R (p0 := 749) (r1 := mL_right) dL_isSo_746 (Or.inl lL_96) vL_right (FITi rfl rfl) (Nat.le_of_ble_eq_true rfl) (hrt) rfl ?_
  refine g_istore (p0 := 751) (i := 27) (ls2 := [_, _, _, _, _, _, _, _, _, _, _, _, _, _, _, _, _, _, _, _, _, _, _, _, _, _, _, _]) dL_isSo_749 (Nat.le_of_ble_eq_true rfl) rfl rfl ?_
  refine g_iload (p0 := 753) dL_isSo_751 rfl rfl ?_
  refine g_iload (p0 := 755) dL_isSo_753 rfl rfl ?_
  first | ((with_reducible refine isN2 ?_); refine g_iaddN (p0 := 756) dL_isSo_755 rfl ?_) | refine g_iadd (p0 := 756) dL_isSo_755 rfl ?_
  refine g_istore (p0 := 758) (i := 14) (ls2 := [_, _, _, _, _, _, _, _, _, _, _, _, _, _, _, _, _, _, _, _, _, _, _, _, _, _, _, _]) dL_isSo_756 (Nat.le_of_ble_eq_true rfl) rfl rfl ?_
  refine g_iload (p0 := 760) dL_isSo_758 rfl rfl ?_
  refine g_iload (p0 := 762) dL_isSo_760 rfl rfl ?_
  first | ((with_reducible refine isN1 ?_); refine g_ifN_eq (tgt := 769) (p1 := 765) dL_isSo_762 rfl (by omega) rfl (fun c_762 => by exfalso; first | exact c_762 rfl | omega | contradiction) (fun c_762 => ?_)) | refine g_if_eq (tgt := 769) (p1 := 765) dL_isSo_762 rfl rfl (fun c_762 => by exfalso; first | exact c_762 rfl | omega | contradiction) (fun c_762 => ?_)
  refine g_iconst (p0 := 766) (v := nI 1) dL_isSo_765 rfl rfl ?_
  refine g_goto (tgt := 770) dL_isSo_766 rfl ?_
  first | ((with_reducible refine isN2 ?_); refine g_iaddN (p0 := 771) dL_isSo_770 rfl ?_) | refine g_iadd (p0 := 771) dL_isSo_770 rfl ?_
  refine g_istore (p0 := 773) (i := 18) (ls2 := [_, _, _, _, _, _, _, _, _, _, _, _, _, _, _, _, _, _, _, _, _, _, _, _, _, _, _, _]) dL_isSo_771 (Nat.le_of_ble_eq_true rfl) rfl rfl ?_
  refine g_iload (p0 := 775) dL_isSo_773 rfl rfl ?_
  first | ((with_reducible refine isN1 ?_); refine g_ifN_eq (tgt := 883) (p1 := 778) dL_isSo_775 rfl (by omega) rfl (fun c_775 => by exfalso; first | exact c_775 rfl | omega | contradiction) (fun c_775 => ?_)) | refine g_if_eq (tgt := 883) (p1 := 778) dL_isSo_775 rfl rfl (fun c_775 => by exfalso; first | exact c_775 rfl | omega | contradiction) (fun c_775 => ?_)
  refine g_aload_n (p0 := 779) (i := 0) dL_isSo_778 rfl rfl rfl ?_
  refine g_iload (p0 := 781) dL_isSo_779 rfl rfl ?_
  refine g_iconst (p0 := 782) (v := nI 0) dL_isSo_781 rfl rfl ?_
  refine g_cV2R (p0 := 785) (r1 := mX9_messageOf) dL_isSo_782 lL_100 vX9_messageOf (by first | rfl | assumption | exact RW.s (by assumption) | exact TW.s (by assumption)) ⟨_, _, rfl⟩ (FITi rfl rfl) (Nat.le_of_ble_eq_true rfl) (mo_c0 hM hM1 hm hl) rfl ?_
  refine g_iload (p0 := 787) dL_isSo_785 rfl rfl ?_
  refine g_iload (p0 := 789) dL_isSo_787 rfl rfl ?_
  first | ((with_reducible refine isN2 ?_); refine g_isubN (p0 := 790) dL_isSo_789 (by omega) rfl ?_) | refine g_isub (p0 := 790) dL_isSo_789 rfl ?_
  rw [show fr + n - fr = n by omega]
  first | ((with_reducible refine isN2 ?_); refine g_icmpN_ne (tgt := 883) (p1 := 793) dL_isSo_790 rfl (by omega) (by omega) rfl (fun c_790 => by exfalso; first | exact c_790 rfl | omega | contradiction) (fun c_790 => ?_)) | refine g_icmp_ne (tgt := 883) (p1 := 793) dL_isSo_790 rfl rfl (fun c_790 => by exfalso; first | exact c_790 rfl | omega | contradiction) (fun c_790 => ?_)
  refine g_aload_n (p0 := 794) (i := 0) dL_isSo_793 rfl rfl rfl ?_
  refine g_iload (p0 := 796) dL_isSo_794 rfl rfl ?_
  refine g_iconst (p0 := 797) (v := nI 1) dL_isSo_796 rfl rfl ?_
  refine g_cV2R (p0 := 800) (r1 := mX9_messageOf) dL_isSo_797 lL_100 vX9_messageOf (by first | rfl | assumption | exact RW.s (by assumption) | exact TW.s (by assumption)) ⟨_, _, rfl⟩ (FITi rfl rfl) (Nat.le_of_ble_eq_true rfl) (mo_c1 hM hM1 hm h57) rfl ?_
  refine g_iload (p0 := 802) dL_isSo_800 rfl rfl ?_
  first | ((with_reducible refine isN2 ?_); refine g_icmpN_ne (tgt := 883) (p1 := 805) dL_isSo_802 rfl (by omega) (by omega) rfl (fun c_802 => by exfalso; first | exact c_802 rfl | omega | contradiction) (fun c_802 => ?_)) | refine g_icmp_ne (tgt := 883) (p1 := 805) dL_isSo_802 rfl rfl (fun c_802 => by exfalso; first | exact c_802 rfl | omega | contradiction) (fun c_802 => ?_)
  refine g_aload_n (p0 := 806) (i := 0) dL_isSo_805 rfl rfl rfl ?_
  refine g_iload (p0 := 808) dL_isSo_806 rfl rfl ?_
  refine g_iconst (p0 := 809) (v := nI 2) dL_isSo_808 rfl rfl ?_
  refine g_cV2R (p0 := 812) (r1 := mX9_messageOf) dL_isSo_809 lL_100 vX9_messageOf (by first | rfl | assumption | exact RW.s (by assumption) | exact TW.s (by assumption)) ⟨_, _, rfl⟩ (FITi rfl rfl) (Nat.le_of_ble_eq_true rfl) (mo_c2_1 hM hM1 hm hri) rfl ?_
  refine g_iload (p0 := 814) dL_isSo_812 rfl rfl ?_
  first | ((with_reducible refine isN1 ?_); refine g_ifN_eq (tgt := 821) (p1 := 817) dL_isSo_814 rfl (by omega) rfl (fun c_814 => by exfalso; first | exact c_814 rfl | omega | contradiction) (fun c_814 => ?_)) | refine g_if_eq (tgt := 821) (p1 := 817) dL_isSo_814 rfl rfl (fun c_814 => by exfalso; first | exact c_814 rfl | omega | contradiction) (fun c_814 => ?_)
  refine g_iconst (p0 := 818) (v := nI 1) dL_isSo_817 rfl rfl ?_
  refine g_goto (tgt := 822) dL_isSo_818 rfl ?_
  first | ((with_reducible refine isN2 ?_); refine g_icmpN_ne (tgt := 883) (p1 := 825) dL_isSo_822 rfl (by omega) (by omega) rfl (fun c_822 => by exfalso; first | exact c_822 rfl | omega | contradiction) (fun c_822 => ?_)) | refine g_icmp_ne (tgt := 883) (p1 := 825) dL_isSo_822 rfl rfl (fun c_822 => by exfalso; first | exact c_822 rfl | omega | contradiction) (fun c_822 => ?_)
  refine g_aload_n (p0 := 826) (i := 0) dL_isSo_825 rfl rfl rfl ?_
  refine g_iload (p0 := 828) dL_isSo_826 rfl rfl ?_
  refine g_iconst (p0 := 829) (v := nI 3) dL_isSo_828 rfl rfl ?_
  refine g_cV2R (p0 := 832) (r1 := mX9_messageOf) dL_isSo_829 lL_100 vX9_messageOf (by first | rfl | assumption | exact RW.s (by assumption) | exact TW.s (by assumption)) ⟨_, _, rfl⟩ (FITi rfl rfl) (Nat.le_of_ble_eq_true rfl) (mo_c3 hM hM1 hm h53) rfl ?_
  refine g_iload (p0 := 834) dL_isSo_832 rfl rfl ?_
  first | ((with_reducible refine isN2 ?_); refine g_icmpN_ne (tgt := 883) (p1 := 837) dL_isSo_834 rfl (by omega) (by omega) rfl (fun c_834 => by exfalso; first | exact c_834 rfl | omega | contradiction) (fun c_834 => ?_)) | refine g_icmp_ne (tgt := 883) (p1 := 837) dL_isSo_834 rfl rfl (fun c_834 => by exfalso; first | exact c_834 rfl | omega | contradiction) (fun c_834 => ?_)
  refine g_aload_n (p0 := 838) (i := 0) dL_isSo_837 rfl rfl rfl ?_
  refine g_iload (p0 := 840) dL_isSo_838 rfl rfl ?_
  refine g_iconst (p0 := 841) (v := nI 5) dL_isSo_840 rfl rfl ?_
  refine g_cV2R (p0 := 844) (r1 := mX9_messageOf) dL_isSo_841 lL_100 vX9_messageOf (by first | rfl | assumption | exact RW.s (by assumption) | exact TW.s (by assumption)) ⟨_, _, rfl⟩ (FITi rfl rfl) (Nat.le_of_ble_eq_true rfl) (mo_c5 hM hM1 hm h47) rfl ?_
  refine g_iload (p0 := 846) dL_isSo_844 rfl rfl ?_
  first | ((with_reducible refine isN2 ?_); refine g_icmpN_ne (tgt := 883) (p1 := 849) dL_isSo_846 rfl (by omega) (by omega) rfl (fun c_846 => by exfalso; first | exact c_846 rfl | omega | contradiction) (fun c_846 => ?_)) | refine g_icmp_ne (tgt := 883) (p1 := 849) dL_isSo_846 rfl rfl (fun c_846 => by exfalso; first | exact c_846 rfl | omega | contradiction) (fun c_846 => ?_)
  refine g_aload_n (p0 := 850) (i := 0) dL_isSo_849 rfl rfl rfl ?_
  refine g_iload (p0 := 852) dL_isSo_850 rfl rfl ?_
  refine g_bipush (p0 := 854) (v := nI 6) dL_isSo_852 (by decide) rfl ?_
  refine g_cV2R (p0 := 857) (r1 := mX9_messageOf) dL_isSo_854 lL_100 vX9_messageOf (by first | rfl | assumption | exact RW.s (by assumption) | exact TW.s (by assumption)) ⟨_, _, rfl⟩ (FITi rfl rfl) (Nat.le_of_ble_eq_true rfl) (mo_c6 hM hM1 hm h55) rfl ?_
  refine g_iload (p0 := 859) dL_isSo_857 rfl rfl ?_
  first | ((with_reducible refine isN2 ?_); refine g_icmpN_ne (tgt := 883) (p1 := 862) dL_isSo_859 rfl (by omega) (by omega) rfl (fun c_859 => by exfalso; first | exact c_859 rfl | omega | contradiction) (fun c_859 => ?_)) | refine g_icmp_ne (tgt := 883) (p1 := 862) dL_isSo_859 rfl rfl (fun c_859 => by exfalso; first | exact c_859 rfl | omega | contradiction) (fun c_859 => ?_)
  refine g_aload_n (p0 := 863) (i := 0) dL_isSo_862 rfl rfl rfl ?_
  refine g_iload (p0 := 865) dL_isSo_863 rfl rfl ?_
  refine g_iload (p0 := 867) dL_isSo_865 rfl rfl ?_
  refine g_iload (p0 := 869) dL_isSo_867 rfl rfl ?_
  first | ((with_reducible refine isN2 ?_); refine g_isubN (p0 := 870) dL_isSo_869 (by omega) rfl ?_) | refine g_isub (p0 := 870) dL_isSo_869 rfl ?_
  rw [show fr + n - fr = n by omega]
  refine g_iconst (p0 := 871) (v := nI 0) dL_isSo_870 rfl rfl ?_
  refine g_cV3R (p0 := 874) (r1 := mX9_letterOf) dL_isSo_871 lL_92 vX9_letterOf (by first | rfl | assumption | exact RW.s (by assumption) | exact TW.s (by assumption)) ⟨_, _, rfl⟩ (FITi rfl rfl) (Nat.le_of_ble_eq_true rfl) (lo_cb (f := 0) hM hM1 hm hl (by omega) (Nat.le_refl n) (by omega)) rfl ?_
  refine g_ldc (p0 := 876) dL_isSo_874 qL_51 rfl ?_
  first | ((with_reducible refine isN2 ?_); refine g_icmpN_ne (tgt := 883) (p1 := 879) dL_isSo_876 rfl (by omega) (by omega) rfl (fun c_876 => by exfalso; first | exact c_876 rfl | omega | contradiction) (fun c_876 => ?_)) | refine g_icmp_ne (tgt := 883) (p1 := 879) dL_isSo_876 rfl rfl (fun c_876 => by exfalso; first | exact c_876 rfl | omega | contradiction) (fun c_876 => ?_)
  refine g_iconst (p0 := 880) (v := nI 1) dL_isSo_879 rfl rfl ?_
  refine g_goto (tgt := 884) dL_isSo_880 rfl ?_
  refine g_istore (p0 := 886) (i := 19) (ls2 := [_, _, _, _, _, _, _, _, _, _, _, _, _, _, _, _, _, _, _, _, _, _, _, _, _, _, _, _]) dL_isSo_884 (Nat.le_of_ble_eq_true rfl) rfl rfl ?_
  first | refine g_iinc1 (p0 := 889) (ls2 := [_, _, _, _, _, _, _, _, _, _, _, _, _, _, _, _, _, _, _, _, _, _, _, _, _, _, _, _]) dL_isSo_886 rfl rfl rfl ?_ | refine g_iinc (p0 := 889) (ls2 := [_, _, _, _, _, _, _, _, _, _, _, _, _, _, _, _, _, _, _, _, _, _, _, _, _, _, _, _]) dL_isSo_886 rfl rfl rfl rfl ?_
  refine g_goto (tgt := 414) dL_isSo_889 rfl ?_
  exact next _ _ _ _ _ _ _
set_option maxRecDepth 20000 in
set_option maxHeartbeats 2000000 in
theorem i2_loop {e s : Nat} {v15 v16 v17 : Int32} {c d : Nat → Nat} {gp tk : Nat → Int32} {σ : Sg} {Q : SP} (hF : FA σ e s c d gp tk) (next : ∀ x21 x22 x23 x24 x25 x26 x27, WM mL_isSo Q 892 [some (ar 0), some (ar 79), some (ar 80), some (ar 81), some (ar (e + 0)), some (ar (e + 1)), some (ar (e + 2)), some (ar (e + 3)), some (ar (e + 4)), some (ar (e + 5)), some (ar (e + 6)), some (ai (nI (Lc c s))), some (ai (nI (Mc c s))), some (ai (-1000004)), some (ai (nI (tt (fun m => uF (σ 42) (fl c s m) (ln c s m)) (Mc c s)))), some (ai v15), some (ai v16), some (ai v17), some (ai (nI (tt (fun m => ind (RGT (σ 42) (fl c s m) (ln c s m))) (Mc c s)))), some (ai (nI 1)), some (ai (nI (Mc c s))), x21, x22, x23, x24, x25, x26, x27] [] σ) : ∀ m k, k + m = Mc c s → ∀ x21 x22 x23 x24 x25 x26 x27, WM mL_isSo Q 414 [some (ar 0), some (ar 79), some (ar 80), some (ar 81), some (ar (e + 0)), some (ar (e + 1)), some (ar (e + 2)), some (ar (e + 3)), some (ar (e + 4)), some (ar (e + 5)), some (ar (e + 6)), some (ai (nI (Lc c s))), some (ai (nI (Mc c s))), some (ai (-1000004)), some (ai (nI (tt (fun m => uF (σ 42) (fl c s m) (ln c s m)) k))), some (ai v15), some (ai v16), some (ai v17), some (ai (nI (tt (fun m => ind (RGT (σ 42) (fl c s m) (ln c s m))) k))), some (ai (nI 1)), some (ai (nI k)), x21, x22, x23, x24, x25, x26, x27] [] σ := by
  obtain ⟨⟨a1, a2, a3, a4, a5, a6, a7, a8, a9⟩, hK, hD, hL, ⟨b1, b2, b3⟩, hMs⟩ := id hF
  have he2 := a1.1
  have bLs := (Mc_le c s).2
  have bMs := (Mc_le c s).1
  intro m
  induction m with
  | zero =>
    intro k hk x21 x22 x23 x24 x25 x26 x27
    obtain rfl : k = Mc c s := by omega
    refine g_iload (p0 := 416) dL_isSo_414 rfl rfl ?_
    refine g_iload (p0 := 418) dL_isSo_416 rfl rfl ?_
    first | ((with_reducible refine isN2 ?_); refine g_icmpN_ge (tgt := 892) (p1 := 421) dL_isSo_418 rfl (by omega) (by omega) rfl (fun c_418 => ?_) (fun c_418 => by exfalso; first | exact c_418 rfl | omega | contradiction)) | refine g_icmp_ge (tgt := 892) (p1 := 421) dL_isSo_418 rfl rfl (fun c_418 => ?_) (fun c_418 => by exfalso; first | exact c_418 rfl | omega | contradiction)
    exact next _ _ _ _ _ _ _
  | succ m ih =>
    intro k hk x21 x22 x23 x24 x25 x26 x27
    have hkM : k < Mc c s := by omega
    obtain ⟨c1, c2, c3, c4, c5, c6, c7⟩ := hMs k hkM
    have hfl := flL c a7 s k hkM
    have hln := ln_pos c s k hkM
    obtain ⟨fr, hfr⟩ : ∃ fr, fr = fl c s k := ⟨_, rfl⟩
    obtain ⟨n, hn⟩ : ∃ n, n = ln c s k := ⟨_, rfl⟩
    have hf1 : CM mL_first [ar (e + 5), ai (nI (Lc c s)), ai (nI k)] σ (Ret (nI fr) σ) := by rw [hfr]; exact FA_first hF hkM
    have hf2 : CM mL_first [ar (e + 5), ai (nI (Lc c s)), ai (nI (k + 1))] σ (Ret (nI (fr + n)) σ) := by
      have e1 := flln c a7 s k hkM
      rw [hfr, hn, e1]
      by_cases h2 : k + 1 < Mc c s
      · rw [if_pos h2]; exact FA_first hF h2
      · rw [if_neg h2]; exact FA_last hF (by omega)
    have ihk := ih (k + 1) (by omega)
    rw [tt, tt, ← hfr, ← hn] at ihk
    have hG : WM mL_isSo Q 739 [some (ar 0), some (ar 79), some (ar 80), some (ar 81), some (ar (e + 0)), some (ar (e + 1)), some (ar (e + 2)), some (ar (e + 3)), some (ar (e + 4)), some (ar (e + 5)), some (ar (e + 6)), some (ai (nI (Lc c s))), some (ai (nI (Mc c s))), some (ai (-1000004)), some (ai (nI (tt (fun m => uF (σ 42) (fl c s m) (ln c s m)) k))), some (ai v15), some (ai v16), some (ai v17), some (ai (nI (tt (fun m => ind (RGT (σ 42) (fl c s m) (ln c s m))) k))), some (ai (nI 1)), some (ai (nI k)), some (ai (nI fr)), some (ai (nI (fr + n))), some (ai (nI (uF (σ 42) fr n))), some (ai (nI (pl c s k))), some (ai (nI (db c d s k))), some (ai (nI (fs c s k))), some (ai (nI (fr + n)))] [] σ := by
      rw [← hn] at c3
      rw [← hfr, ← hn] at c6 c7
      rw [← hfr] at c2
      rw [← hfr, ← hn] at hfl
      have hV : ∀ l, fr ≤ l → l < fr + n → LV σ e (σ 42) l := fun l _ hl2 => (hL l (by omega)).2.2.2.2.2
      rcases cRight_sp (m := k) (f := fr) (n := n) (σ := σ) (by omega) (by omega) c2 (by omega) c3 c6 c7 with ⟨hr1, hr2⟩ | ⟨hr1, hr2⟩
      · rw [ind_T hr1] at ihk
        exact iG_1 (by omega) b1 (by omega) hkM c3 c6 c4 c1 c5 (right_T a1 a2 (by omega) hV (by omega) hr1) hr2 ihk
      · rw [ind_F hr1] at ihk
        exact iG_0 (by omega) b1 (by omega) hkM c3 c6 c4 c1 c5 (right_F a1 a2 (by omega) hV (by omega) hr1) hr2 ihk
    have hE := iE_loop hF hkM hfr hn hG n 0 (by omega)
    have hDl : WM mL_isSo Q 577 [some (ar 0), some (ar 79), some (ar 80), some (ar 81), some (ar (e + 0)), some (ar (e + 1)), some (ar (e + 2)), some (ar (e + 3)), some (ar (e + 4)), some (ar (e + 5)), some (ar (e + 6)), some (ai (nI (Lc c s))), some (ai (nI (Mc c s))), some (ai (-1000004)), some (ai (nI (tt (fun m => uF (σ 42) (fl c s m) (ln c s m)) k))), some (ai v15), some (ai v16), some (ai v17), some (ai (nI (tt (fun m => ind (RGT (σ 42) (fl c s m) (ln c s m))) k))), some (ai (nI 1)), some (ai (nI k)), some (ai (nI fr)), some (ai (nI (fr + n))), some (ai (nI 0)), some (ai (nI (pl c s k))), some (ai (nI (db c d s k))), some (ai (nI (fs c s k))), some (ai (nI s))] [] σ := by
      refine g_iload (p0 := 579) dL_isSo_577 rfl rfl ?_
      refine g_istore (p0 := 581) (i := 27) (ls2 := [_, _, _, _, _, _, _, _, _, _, _, _, _, _, _, _, _, _, _, _, _, _, _, _, _, _, _, _]) dL_isSo_579 (Nat.le_of_ble_eq_true rfl) rfl rfl ?_
      exact hE
    have hDD := iD_loop hF hkM hDl s 0 (by omega)
    have est : stL c 0 k = -1 := by rw [stL, if_neg (show ¬ k < Mc c 0 from Nat.not_lt_zero k)]
    rw [est] at hDD
    refine g_iload (p0 := 416) dL_isSo_414 rfl rfl ?_
    refine g_iload (p0 := 418) dL_isSo_416 rfl rfl ?_
    first | ((with_reducible refine isN2 ?_); refine g_icmpN_ge (tgt := 892) (p1 := 421) dL_isSo_418 rfl (by omega) (by omega) rfl (fun c_418 => by exfalso; first | exact c_418 rfl | omega | contradiction) (fun c_418 => ?_)) | refine g_icmp_ge (tgt := 892) (p1 := 421) dL_isSo_418 rfl rfl (fun c_418 => by exfalso; first | exact c_418 rfl | omega | contradiction) (fun c_418 => ?_)
    refine g_iload (p0 := 423) dL_isSo_421 rfl rfl ?_
    first | ((with_reducible refine isN1 ?_); refine g_ifN_eq (tgt := 892) (p1 := 426) dL_isSo_423 rfl (by omega) rfl (fun c_423 => by exfalso; first | exact c_423 rfl | omega | contradiction) (fun c_423 => ?_)) | refine g_if_eq (tgt := 892) (p1 := 426) dL_isSo_423 rfl rfl (fun c_423 => by exfalso; first | exact c_423 rfl | omega | contradiction) (fun c_423 => ?_)
    refine g_aload (p0 := 428) dL_isSo_426 rfl rfl ?_
    refine g_iload (p0 := 430) dL_isSo_428 rfl rfl ?_
    refine g_iload (p0 := 432) dL_isSo_430 rfl rfl ?_
    refine g_cS3R (p0 := 435) (r1 := mL_first) dL_isSo_432 (Or.inl lL_89) vL_first (FITi rfl rfl) (Nat.le_of_ble_eq_true rfl) (hf1) rfl ?_
    refine g_istore (p0 := 437) (i := 21) (ls2 := [_, _, _, _, _, _, _, _, _, _, _, _, _, _, _, _, _, _, _, _, _, _, _, _, _, _, _, _]) dL_isSo_435 (Nat.le_of_ble_eq_true rfl) rfl rfl ?_
    refine g_aload (p0 := 439) dL_isSo_437 rfl rfl ?_
    refine g_iload (p0 := 441) dL_isSo_439 rfl rfl ?_
    refine g_iload (p0 := 443) dL_isSo_441 rfl rfl ?_
    refine g_iconst (p0 := 444) (v := nI 1) dL_isSo_443 rfl rfl ?_
    first | ((with_reducible refine isN2 ?_); refine g_iaddN (p0 := 445) dL_isSo_444 rfl ?_) | refine g_iadd (p0 := 445) dL_isSo_444 rfl ?_
    refine g_cS3R (p0 := 448) (r1 := mL_first) dL_isSo_445 (Or.inl lL_89) vL_first (FITi rfl rfl) (Nat.le_of_ble_eq_true rfl) (hf2) rfl ?_
    refine g_istore (p0 := 450) (i := 22) (ls2 := [_, _, _, _, _, _, _, _, _, _, _, _, _, _, _, _, _, _, _, _, _, _, _, _, _, _, _, _]) dL_isSo_448 (Nat.le_of_ble_eq_true rfl) rfl rfl ?_
    refine g_iconst (p0 := 451) (v := nI 0) dL_isSo_450 rfl rfl ?_
    refine g_istore (p0 := 453) (i := 23) (ls2 := [_, _, _, _, _, _, _, _, _, _, _, _, _, _, _, _, _, _, _, _, _, _, _, _, _, _, _, _]) dL_isSo_451 (Nat.le_of_ble_eq_true rfl) rfl rfl ?_
    refine g_iconst (p0 := 454) (v := nI 0) dL_isSo_453 rfl rfl ?_
    refine g_istore (p0 := 456) (i := 24) (ls2 := [_, _, _, _, _, _, _, _, _, _, _, _, _, _, _, _, _, _, _, _, _, _, _, _, _, _, _, _]) dL_isSo_454 (Nat.le_of_ble_eq_true rfl) rfl rfl ?_
    refine g_iconst (p0 := 457) (v := nI 0) dL_isSo_456 rfl rfl ?_
    refine g_istore (p0 := 459) (i := 25) (ls2 := [_, _, _, _, _, _, _, _, _, _, _, _, _, _, _, _, _, _, _, _, _, _, _, _, _, _, _, _]) dL_isSo_457 (Nat.le_of_ble_eq_true rfl) rfl rfl ?_
    refine g_iconst (p0 := 460) (v := -1) dL_isSo_459 rfl rfl ?_
    refine g_istore (p0 := 462) (i := 26) (ls2 := [_, _, _, _, _, _, _, _, _, _, _, _, _, _, _, _, _, _, _, _, _, _, _, _, _, _, _, _]) dL_isSo_460 (Nat.le_of_ble_eq_true rfl) rfl rfl ?_
    refine g_iconst (p0 := 463) (v := nI 0) dL_isSo_462 rfl rfl ?_
    refine g_istore (p0 := 465) (i := 27) (ls2 := [_, _, _, _, _, _, _, _, _, _, _, _, _, _, _, _, _, _, _, _, _, _, _, _, _, _, _, _]) dL_isSo_463 (Nat.le_of_ble_eq_true rfl) rfl rfl ?_
    exact hDD
