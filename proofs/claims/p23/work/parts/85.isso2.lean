/-! isSo: messages -/
set_option maxRecDepth 20000 in
set_option maxHeartbeats 2000000 in
theorem iD1a {e k s L M fr tn ow dd j x Mj : Nat} {v14 v15 v16 v17 v18 : Int32} {σ : Sg} {Q : SP} (hB : XB σ e) (he : e + 7 ≤ 90000) (he2 : 82 ≤ e) (hj : j < s) (hs1 : s ≤ 60) (hk : k < 100) (hMj : Mj < 100) (hm : σ (e + 2) j = nI Mj) (hc : σ (e + 0) j = nI x) (hx5 : x ≤ 5) (hs : σ 79 3 = nI s) (hne : ¬ Mj = k) (next : WM mL_isSo Q 505 [some (ar 0), some (ar 79), some (ar 80), some (ar 81), some (ar (e + 0)), some (ar (e + 1)), some (ar (e + 2)), some (ar (e + 3)), some (ar (e + 4)), some (ar (e + 5)), some (ar (e + 6)), some (ai (nI L)), some (ai (nI M)), some (ai (-1000004)), some (ai v14), some (ai v15), some (ai v16), some (ai v17), some (ai v18), some (ai (nI 1)), some (ai (nI k)), some (ai (nI fr)), some (ai (nI tn)), some (ai (nI 0)), some (ai (nI ow)), some (ai (nI dd)), some (ai (-1)), some (ai (nI j))] [] σ) : WM mL_isSo Q 465 [some (ar 0), some (ar 79), some (ar 80), some (ar 81), some (ar (e + 0)), some (ar (e + 1)), some (ar (e + 2)), some (ar (e + 3)), some (ar (e + 4)), some (ar (e + 5)), some (ar (e + 6)), some (ai (nI L)), some (ai (nI M)), some (ai (-1000004)), some (ai v14), some (ai v15), some (ai v16), some (ai v17), some (ai v18), some (ai (nI 1)), some (ai (nI k)), some (ai (nI fr)), some (ai (nI tn)), some (ai (nI 0)), some (ai (nI ow)), some (ai (nI dd)), some (ai (-1)), some (ai (nI j))] [] σ := by
  refine g_iload (p0 := 467) dL_isSo_465 rfl rfl ?_
  refine g_aload_n (p0 := 468) (i := 1) dL_isSo_467 rfl rfl rfl ?_
  refine g_iconst (p0 := 469) (v := nI 3) dL_isSo_468 rfl rfl ?_
  first | ((with_reducible refine isN1 ?_); refine g_aldN (p0 := 470) dL_isSo_469 (by first | rfl | assumption | exact RW.s (by assumption) | exact TW.s (by assumption)) (by first | decide | assumption) (by omega) (by first | assumption | ((repeat (first | exact up_hit | (apply up_nv; omega) | (apply up_mv; omega))) <;> first | assumption | rfl)) rfl ?_) | refine g_ald (p0 := 470) dL_isSo_469 (by first | rfl | assumption | exact RW.s (by assumption) | exact TW.s (by assumption)) (by assumption) (by first | assumption | ((repeat (first | exact up_hit | (apply up_nv; omega) | (apply up_mv; omega))) <;> first | assumption | rfl)) rfl ?_
  first | ((with_reducible refine isN2 ?_); refine g_icmpN_ge (tgt := 577) (p1 := 473) dL_isSo_470 rfl (by omega) (by omega) rfl (fun c_470 => by exfalso; first | exact absurd c_470 (by decide) | exact c_470 rfl | omega | contradiction | exact hne c_470) (fun c_470 => ?_)) | refine g_icmp_ge (tgt := 577) (p1 := 473) dL_isSo_470 rfl rfl (fun c_470 => by exfalso; first | exact absurd c_470 (by decide) | exact c_470 rfl | omega | contradiction | exact hne c_470) (fun c_470 => ?_)
  refine g_iload (p0 := 475) dL_isSo_473 rfl rfl ?_
  first | ((with_reducible refine isN1 ?_); refine g_ifN_ge (tgt := 501) (p1 := 478) dL_isSo_475 rfl (by omega) rfl (fun c_475 => by exfalso; first | exact absurd c_475 (by decide) | exact c_475 rfl | omega | contradiction | exact hne c_475) (fun c_475 => ?_)) | refine g_if_ge (tgt := 501) (p1 := 478) dL_isSo_475 rfl rfl (fun c_475 => by exfalso; first | exact absurd c_475 (by decide) | exact c_475 rfl | omega | contradiction | exact hne c_475) (fun c_475 => ?_)
  refine g_aload (p0 := 480) dL_isSo_478 rfl rfl ?_
  refine g_iload (p0 := 482) dL_isSo_480 rfl rfl ?_
  refine g_aldX (p0 := 483) dL_isSo_482 (by repeat (first | assumption | refine XB.up (by omega) ?_)) ⟨rfl, by decide⟩ (by omega) (by first | assumption | ((repeat (first | exact up_hit | (apply up_nv; omega) | (apply up_mv; omega))) <;> first | assumption | rfl)) rfl ?_
  refine g_iload (p0 := 485) dL_isSo_483 rfl rfl ?_
  first | ((with_reducible refine isN2 ?_); refine g_icmpN_ne (tgt := 501) (p1 := 488) dL_isSo_485 rfl (by omega) (by omega) rfl (fun c_485 => ?_) (fun c_485 => by exfalso; first | exact absurd c_485 (by decide) | exact c_485 rfl | omega | contradiction | exact hne c_485)) | refine g_icmp_ne (tgt := 501) (p1 := 488) dL_isSo_485 rfl rfl (fun c_485 => ?_) (fun c_485 => by exfalso; first | exact absurd c_485 (by decide) | exact c_485 rfl | omega | contradiction | exact hne c_485)
  refine g_iload (p0 := 503) dL_isSo_501 rfl rfl ?_
  refine g_istore (p0 := 505) (i := 26) (ls2 := [_, _, _, _, _, _, _, _, _, _, _, _, _, _, _, _, _, _, _, _, _, _, _, _, _, _, _, _]) dL_isSo_503 (Nat.le_of_ble_eq_true rfl) rfl rfl ?_
  exact next
set_option maxRecDepth 20000 in
set_option maxHeartbeats 2000000 in
theorem iD1b {e k s L M fr tn ow dd j x Mj : Nat} {v14 v15 v16 v17 v18 : Int32} {σ : Sg} {Q : SP} (hB : XB σ e) (he : e + 7 ≤ 90000) (he2 : 82 ≤ e) (hj : j < s) (hs1 : s ≤ 60) (hk : k < 100) (hMj : Mj < 100) (hm : σ (e + 2) j = nI Mj) (hc : σ (e + 0) j = nI x) (hx5 : x ≤ 5) (hs : σ 79 3 = nI s) (hme : Mj = k) (hx0 : 0 < x) (next : WM mL_isSo Q 505 [some (ar 0), some (ar 79), some (ar 80), some (ar 81), some (ar (e + 0)), some (ar (e + 1)), some (ar (e + 2)), some (ar (e + 3)), some (ar (e + 4)), some (ar (e + 5)), some (ar (e + 6)), some (ai (nI L)), some (ai (nI M)), some (ai (-1000004)), some (ai v14), some (ai v15), some (ai v16), some (ai v17), some (ai v18), some (ai (nI 1)), some (ai (nI k)), some (ai (nI fr)), some (ai (nI tn)), some (ai (nI 0)), some (ai (nI ow)), some (ai (nI dd)), some (ai (nI j)), some (ai (nI j))] [] σ) : WM mL_isSo Q 465 [some (ar 0), some (ar 79), some (ar 80), some (ar 81), some (ar (e + 0)), some (ar (e + 1)), some (ar (e + 2)), some (ar (e + 3)), some (ar (e + 4)), some (ar (e + 5)), some (ar (e + 6)), some (ai (nI L)), some (ai (nI M)), some (ai (-1000004)), some (ai v14), some (ai v15), some (ai v16), some (ai v17), some (ai v18), some (ai (nI 1)), some (ai (nI k)), some (ai (nI fr)), some (ai (nI tn)), some (ai (nI 0)), some (ai (nI ow)), some (ai (nI dd)), some (ai (-1)), some (ai (nI j))] [] σ := by
  refine g_iload (p0 := 467) dL_isSo_465 rfl rfl ?_
  refine g_aload_n (p0 := 468) (i := 1) dL_isSo_467 rfl rfl rfl ?_
  refine g_iconst (p0 := 469) (v := nI 3) dL_isSo_468 rfl rfl ?_
  first | ((with_reducible refine isN1 ?_); refine g_aldN (p0 := 470) dL_isSo_469 (by first | rfl | assumption | exact RW.s (by assumption) | exact TW.s (by assumption)) (by first | decide | assumption) (by omega) (by first | assumption | ((repeat (first | exact up_hit | (apply up_nv; omega) | (apply up_mv; omega))) <;> first | assumption | rfl)) rfl ?_) | refine g_ald (p0 := 470) dL_isSo_469 (by first | rfl | assumption | exact RW.s (by assumption) | exact TW.s (by assumption)) (by assumption) (by first | assumption | ((repeat (first | exact up_hit | (apply up_nv; omega) | (apply up_mv; omega))) <;> first | assumption | rfl)) rfl ?_
  first | ((with_reducible refine isN2 ?_); refine g_icmpN_ge (tgt := 577) (p1 := 473) dL_isSo_470 rfl (by omega) (by omega) rfl (fun c_470 => by exfalso; first | exact absurd c_470 (by decide) | exact c_470 rfl | omega | contradiction) (fun c_470 => ?_)) | refine g_icmp_ge (tgt := 577) (p1 := 473) dL_isSo_470 rfl rfl (fun c_470 => by exfalso; first | exact absurd c_470 (by decide) | exact c_470 rfl | omega | contradiction) (fun c_470 => ?_)
  refine g_iload (p0 := 475) dL_isSo_473 rfl rfl ?_
  first | ((with_reducible refine isN1 ?_); refine g_ifN_ge (tgt := 501) (p1 := 478) dL_isSo_475 rfl (by omega) rfl (fun c_475 => by exfalso; first | exact absurd c_475 (by decide) | exact c_475 rfl | omega | contradiction) (fun c_475 => ?_)) | refine g_if_ge (tgt := 501) (p1 := 478) dL_isSo_475 rfl rfl (fun c_475 => by exfalso; first | exact absurd c_475 (by decide) | exact c_475 rfl | omega | contradiction) (fun c_475 => ?_)
  refine g_aload (p0 := 480) dL_isSo_478 rfl rfl ?_
  refine g_iload (p0 := 482) dL_isSo_480 rfl rfl ?_
  refine g_aldX (p0 := 483) dL_isSo_482 (by repeat (first | assumption | refine XB.up (by omega) ?_)) ⟨rfl, by decide⟩ (by omega) (by first | assumption | ((repeat (first | exact up_hit | (apply up_nv; omega) | (apply up_mv; omega))) <;> first | assumption | rfl)) rfl ?_
  refine g_iload (p0 := 485) dL_isSo_483 rfl rfl ?_
  first | ((with_reducible refine isN2 ?_); refine g_icmpN_ne (tgt := 501) (p1 := 488) dL_isSo_485 rfl (by omega) (by omega) rfl (fun c_485 => by exfalso; first | exact absurd c_485 (by decide) | exact c_485 rfl | omega | contradiction) (fun c_485 => ?_)) | refine g_icmp_ne (tgt := 501) (p1 := 488) dL_isSo_485 rfl rfl (fun c_485 => by exfalso; first | exact absurd c_485 (by decide) | exact c_485 rfl | omega | contradiction) (fun c_485 => ?_)
  refine g_aload (p0 := 490) dL_isSo_488 rfl rfl ?_
  refine g_iload (p0 := 492) dL_isSo_490 rfl rfl ?_
  refine g_aldX (p0 := 493) dL_isSo_492 (by repeat (first | assumption | refine XB.up (by omega) ?_)) ⟨rfl, by decide⟩ (by omega) (by first | assumption | ((repeat (first | exact up_hit | (apply up_nv; omega) | (apply up_mv; omega))) <;> first | assumption | rfl)) rfl ?_
  first | ((with_reducible refine isN1 ?_); refine g_ifN_le (tgt := 501) (p1 := 496) dL_isSo_493 rfl (by omega) rfl (fun c_493 => by exfalso; first | exact absurd c_493 (by decide) | exact c_493 rfl | omega | contradiction) (fun c_493 => ?_)) | refine g_if_le (tgt := 501) (p1 := 496) dL_isSo_493 rfl rfl (fun c_493 => by exfalso; first | exact absurd c_493 (by decide) | exact c_493 rfl | omega | contradiction) (fun c_493 => ?_)
  refine g_iload (p0 := 498) dL_isSo_496 rfl rfl ?_
  refine g_goto (tgt := 503) dL_isSo_498 rfl ?_
  refine g_istore (p0 := 505) (i := 26) (ls2 := [_, _, _, _, _, _, _, _, _, _, _, _, _, _, _, _, _, _, _, _, _, _, _, _, _, _, _, _]) dL_isSo_503 (Nat.le_of_ble_eq_true rfl) rfl rfl ?_
  exact next
set_option maxRecDepth 20000 in
set_option maxHeartbeats 2000000 in
theorem iD1c {st0 e k s L M fr tn ow dd j x Mj : Nat} {v14 v15 v16 v17 v18 : Int32} {σ : Sg} {Q : SP} (hB : XB σ e) (he : e + 7 ≤ 90000) (he2 : 82 ≤ e) (hj : j < s) (hs1 : s ≤ 60) (hk : k < 100) (hMj : Mj < 100) (hm : σ (e + 2) j = nI Mj) (hc : σ (e + 0) j = nI x) (hx5 : x ≤ 5) (hs : σ 79 3 = nI s) (hst : st0 < 1000) (next : WM mL_isSo Q 505 [some (ar 0), some (ar 79), some (ar 80), some (ar 81), some (ar (e + 0)), some (ar (e + 1)), some (ar (e + 2)), some (ar (e + 3)), some (ar (e + 4)), some (ar (e + 5)), some (ar (e + 6)), some (ai (nI L)), some (ai (nI M)), some (ai (-1000004)), some (ai v14), some (ai v15), some (ai v16), some (ai v17), some (ai v18), some (ai (nI 1)), some (ai (nI k)), some (ai (nI fr)), some (ai (nI tn)), some (ai (nI 0)), some (ai (nI ow)), some (ai (nI dd)), some (ai (nI st0)), some (ai (nI j))] [] σ) : WM mL_isSo Q 465 [some (ar 0), some (ar 79), some (ar 80), some (ar 81), some (ar (e + 0)), some (ar (e + 1)), some (ar (e + 2)), some (ar (e + 3)), some (ar (e + 4)), some (ar (e + 5)), some (ar (e + 6)), some (ai (nI L)), some (ai (nI M)), some (ai (-1000004)), some (ai v14), some (ai v15), some (ai v16), some (ai v17), some (ai v18), some (ai (nI 1)), some (ai (nI k)), some (ai (nI fr)), some (ai (nI tn)), some (ai (nI 0)), some (ai (nI ow)), some (ai (nI dd)), some (ai (nI st0)), some (ai (nI j))] [] σ := by
  refine g_iload (p0 := 467) dL_isSo_465 rfl rfl ?_
  refine g_aload_n (p0 := 468) (i := 1) dL_isSo_467 rfl rfl rfl ?_
  refine g_iconst (p0 := 469) (v := nI 3) dL_isSo_468 rfl rfl ?_
  first | ((with_reducible refine isN1 ?_); refine g_aldN (p0 := 470) dL_isSo_469 (by first | rfl | assumption | exact RW.s (by assumption) | exact TW.s (by assumption)) (by first | decide | assumption) (by omega) (by first | assumption | ((repeat (first | exact up_hit | (apply up_nv; omega) | (apply up_mv; omega))) <;> first | assumption | rfl)) rfl ?_) | refine g_ald (p0 := 470) dL_isSo_469 (by first | rfl | assumption | exact RW.s (by assumption) | exact TW.s (by assumption)) (by assumption) (by first | assumption | ((repeat (first | exact up_hit | (apply up_nv; omega) | (apply up_mv; omega))) <;> first | assumption | rfl)) rfl ?_
  first | ((with_reducible refine isN2 ?_); refine g_icmpN_ge (tgt := 577) (p1 := 473) dL_isSo_470 rfl (by omega) (by omega) rfl (fun c_470 => by exfalso; first | exact c_470 rfl | omega | contradiction) (fun c_470 => ?_)) | refine g_icmp_ge (tgt := 577) (p1 := 473) dL_isSo_470 rfl rfl (fun c_470 => by exfalso; first | exact c_470 rfl | omega | contradiction) (fun c_470 => ?_)
  refine g_iload (p0 := 475) dL_isSo_473 rfl rfl ?_
  first | ((with_reducible refine isN1 ?_); refine g_ifN_ge (tgt := 501) (p1 := 478) dL_isSo_475 rfl (by omega) rfl (fun c_475 => ?_) (fun c_475 => by exfalso; first | exact c_475 rfl | omega | contradiction)) | refine g_if_ge (tgt := 501) (p1 := 478) dL_isSo_475 rfl rfl (fun c_475 => ?_) (fun c_475 => by exfalso; first | exact c_475 rfl | omega | contradiction)
  refine g_iload (p0 := 503) dL_isSo_501 rfl rfl ?_
  refine g_istore (p0 := 505) (i := 26) (ls2 := [_, _, _, _, _, _, _, _, _, _, _, _, _, _, _, _, _, _, _, _, _, _, _, _, _, _, _, _]) dL_isSo_503 (Nat.le_of_ble_eq_true rfl) rfl rfl ?_
  exact next
set_option maxRecDepth 20000 in
set_option maxHeartbeats 2000000 in
theorem iD2n {e k s L M fr tn ow dd j x Mj : Nat} {stt v14 v15 v16 v17 v18 : Int32} {σ : Sg} {Q : SP} (hB : XB σ e) (he : e + 7 ≤ 90000) (he2 : 82 ≤ e) (hj : j < s) (hs1 : s ≤ 60) (hk : k < 100) (hMj : Mj < 100) (hm : σ (e + 2) j = nI Mj) (hc : σ (e + 0) j = nI x) (hx5 : x ≤ 5) (hne : ¬ Mj = k) (next : WM mL_isSo Q 534 [some (ar 0), some (ar 79), some (ar 80), some (ar 81), some (ar (e + 0)), some (ar (e + 1)), some (ar (e + 2)), some (ar (e + 3)), some (ar (e + 4)), some (ar (e + 5)), some (ar (e + 6)), some (ai (nI L)), some (ai (nI M)), some (ai (-1000004)), some (ai v14), some (ai v15), some (ai v16), some (ai v17), some (ai v18), some (ai (nI 1)), some (ai (nI k)), some (ai (nI fr)), some (ai (nI tn)), some (ai (nI 0)), some (ai (nI (ow + 0))), some (ai (nI dd)), some (ai stt), some (ai (nI j))] [] σ) : WM mL_isSo Q 505 [some (ar 0), some (ar 79), some (ar 80), some (ar 81), some (ar (e + 0)), some (ar (e + 1)), some (ar (e + 2)), some (ar (e + 3)), some (ar (e + 4)), some (ar (e + 5)), some (ar (e + 6)), some (ai (nI L)), some (ai (nI M)), some (ai (-1000004)), some (ai v14), some (ai v15), some (ai v16), some (ai v17), some (ai v18), some (ai (nI 1)), some (ai (nI k)), some (ai (nI fr)), some (ai (nI tn)), some (ai (nI 0)), some (ai (nI ow)), some (ai (nI dd)), some (ai stt), some (ai (nI j))] [] σ := by
  refine g_iload (p0 := 507) dL_isSo_505 rfl rfl ?_
  refine g_aload (p0 := 509) dL_isSo_507 rfl rfl ?_
  refine g_iload (p0 := 511) dL_isSo_509 rfl rfl ?_
  refine g_aldX (p0 := 512) dL_isSo_511 (by repeat (first | assumption | refine XB.up (by omega) ?_)) ⟨rfl, by decide⟩ (by omega) (by first | assumption | ((repeat (first | exact up_hit | (apply up_nv; omega) | (apply up_mv; omega))) <;> first | assumption | rfl)) rfl ?_
  refine g_iload (p0 := 514) dL_isSo_512 rfl rfl ?_
  first | ((with_reducible refine isN2 ?_); refine g_icmpN_ne (tgt := 530) (p1 := 517) dL_isSo_514 rfl (by omega) (by omega) rfl (fun c_514 => ?_) (fun c_514 => by exfalso; first | exact c_514 rfl | omega | contradiction)) | refine g_icmp_ne (tgt := 530) (p1 := 517) dL_isSo_514 rfl rfl (fun c_514 => ?_) (fun c_514 => by exfalso; first | exact c_514 rfl | omega | contradiction)
  refine g_iconst (p0 := 531) (v := nI 0) dL_isSo_530 rfl rfl ?_
  first | ((with_reducible refine isN2 ?_); refine g_iaddN (p0 := 532) dL_isSo_531 rfl ?_) | refine g_iadd (p0 := 532) dL_isSo_531 rfl ?_
  refine g_istore (p0 := 534) (i := 24) (ls2 := [_, _, _, _, _, _, _, _, _, _, _, _, _, _, _, _, _, _, _, _, _, _, _, _, _, _, _, _]) dL_isSo_532 (Nat.le_of_ble_eq_true rfl) rfl rfl ?_
  exact next
set_option maxRecDepth 20000 in
set_option maxHeartbeats 2000000 in
theorem iD2o {e k s L M fr tn ow dd j x Mj : Nat} {stt v14 v15 v16 v17 v18 : Int32} {σ : Sg} {Q : SP} (hB : XB σ e) (he : e + 7 ≤ 90000) (he2 : 82 ≤ e) (hj : j < s) (hs1 : s ≤ 60) (hk : k < 100) (hMj : Mj < 100) (hm : σ (e + 2) j = nI Mj) (hc : σ (e + 0) j = nI x) (hx5 : x ≤ 5) (hme : Mj = k) (hx2 : ¬ x = 2) (next : WM mL_isSo Q 534 [some (ar 0), some (ar 79), some (ar 80), some (ar 81), some (ar (e + 0)), some (ar (e + 1)), some (ar (e + 2)), some (ar (e + 3)), some (ar (e + 4)), some (ar (e + 5)), some (ar (e + 6)), some (ai (nI L)), some (ai (nI M)), some (ai (-1000004)), some (ai v14), some (ai v15), some (ai v16), some (ai v17), some (ai v18), some (ai (nI 1)), some (ai (nI k)), some (ai (nI fr)), some (ai (nI tn)), some (ai (nI 0)), some (ai (nI (ow + 0))), some (ai (nI dd)), some (ai stt), some (ai (nI j))] [] σ) : WM mL_isSo Q 505 [some (ar 0), some (ar 79), some (ar 80), some (ar 81), some (ar (e + 0)), some (ar (e + 1)), some (ar (e + 2)), some (ar (e + 3)), some (ar (e + 4)), some (ar (e + 5)), some (ar (e + 6)), some (ai (nI L)), some (ai (nI M)), some (ai (-1000004)), some (ai v14), some (ai v15), some (ai v16), some (ai v17), some (ai v18), some (ai (nI 1)), some (ai (nI k)), some (ai (nI fr)), some (ai (nI tn)), some (ai (nI 0)), some (ai (nI ow)), some (ai (nI dd)), some (ai stt), some (ai (nI j))] [] σ := by
  refine g_iload (p0 := 507) dL_isSo_505 rfl rfl ?_
  refine g_aload (p0 := 509) dL_isSo_507 rfl rfl ?_
  refine g_iload (p0 := 511) dL_isSo_509 rfl rfl ?_
  refine g_aldX (p0 := 512) dL_isSo_511 (by repeat (first | assumption | refine XB.up (by omega) ?_)) ⟨rfl, by decide⟩ (by omega) (by first | assumption | ((repeat (first | exact up_hit | (apply up_nv; omega) | (apply up_mv; omega))) <;> first | assumption | rfl)) rfl ?_
  refine g_iload (p0 := 514) dL_isSo_512 rfl rfl ?_
  first | ((with_reducible refine isN2 ?_); refine g_icmpN_ne (tgt := 530) (p1 := 517) dL_isSo_514 rfl (by omega) (by omega) rfl (fun c_514 => by exfalso; first | exact c_514 rfl | omega | contradiction) (fun c_514 => ?_)) | refine g_icmp_ne (tgt := 530) (p1 := 517) dL_isSo_514 rfl rfl (fun c_514 => by exfalso; first | exact c_514 rfl | omega | contradiction) (fun c_514 => ?_)
  refine g_aload (p0 := 519) dL_isSo_517 rfl rfl ?_
  refine g_iload (p0 := 521) dL_isSo_519 rfl rfl ?_
  refine g_aldX (p0 := 522) dL_isSo_521 (by repeat (first | assumption | refine XB.up (by omega) ?_)) ⟨rfl, by decide⟩ (by omega) (by first | assumption | ((repeat (first | exact up_hit | (apply up_nv; omega) | (apply up_mv; omega))) <;> first | assumption | rfl)) rfl ?_
  refine g_iconst (p0 := 523) (v := nI 2) dL_isSo_522 rfl rfl ?_
  first | ((with_reducible refine isN2 ?_); refine g_icmpN_ne (tgt := 530) (p1 := 526) dL_isSo_523 rfl (by omega) (by omega) rfl (fun c_523 => ?_) (fun c_523 => by exfalso; first | exact c_523 rfl | omega | contradiction)) | refine g_icmp_ne (tgt := 530) (p1 := 526) dL_isSo_523 rfl rfl (fun c_523 => ?_) (fun c_523 => by exfalso; first | exact c_523 rfl | omega | contradiction)
  refine g_iconst (p0 := 531) (v := nI 0) dL_isSo_530 rfl rfl ?_
  first | ((with_reducible refine isN2 ?_); refine g_iaddN (p0 := 532) dL_isSo_531 rfl ?_) | refine g_iadd (p0 := 532) dL_isSo_531 rfl ?_
  refine g_istore (p0 := 534) (i := 24) (ls2 := [_, _, _, _, _, _, _, _, _, _, _, _, _, _, _, _, _, _, _, _, _, _, _, _, _, _, _, _]) dL_isSo_532 (Nat.le_of_ble_eq_true rfl) rfl rfl ?_
  exact next
set_option maxRecDepth 20000 in
set_option maxHeartbeats 2000000 in
theorem iD2y {e k s L M fr tn ow dd j x Mj : Nat} {stt v14 v15 v16 v17 v18 : Int32} {σ : Sg} {Q : SP} (hB : XB σ e) (he : e + 7 ≤ 90000) (he2 : 82 ≤ e) (hj : j < s) (hs1 : s ≤ 60) (hk : k < 100) (hMj : Mj < 100) (hm : σ (e + 2) j = nI Mj) (hc : σ (e + 0) j = nI x) (hx5 : x ≤ 5) (hme : Mj = k) (hx2 : x = 2) (next : WM mL_isSo Q 534 [some (ar 0), some (ar 79), some (ar 80), some (ar 81), some (ar (e + 0)), some (ar (e + 1)), some (ar (e + 2)), some (ar (e + 3)), some (ar (e + 4)), some (ar (e + 5)), some (ar (e + 6)), some (ai (nI L)), some (ai (nI M)), some (ai (-1000004)), some (ai v14), some (ai v15), some (ai v16), some (ai v17), some (ai v18), some (ai (nI 1)), some (ai (nI k)), some (ai (nI fr)), some (ai (nI tn)), some (ai (nI 0)), some (ai (nI (ow + 1))), some (ai (nI dd)), some (ai stt), some (ai (nI j))] [] σ) : WM mL_isSo Q 505 [some (ar 0), some (ar 79), some (ar 80), some (ar 81), some (ar (e + 0)), some (ar (e + 1)), some (ar (e + 2)), some (ar (e + 3)), some (ar (e + 4)), some (ar (e + 5)), some (ar (e + 6)), some (ai (nI L)), some (ai (nI M)), some (ai (-1000004)), some (ai v14), some (ai v15), some (ai v16), some (ai v17), some (ai v18), some (ai (nI 1)), some (ai (nI k)), some (ai (nI fr)), some (ai (nI tn)), some (ai (nI 0)), some (ai (nI ow)), some (ai (nI dd)), some (ai stt), some (ai (nI j))] [] σ := by
  refine g_iload (p0 := 507) dL_isSo_505 rfl rfl ?_
  refine g_aload (p0 := 509) dL_isSo_507 rfl rfl ?_
  refine g_iload (p0 := 511) dL_isSo_509 rfl rfl ?_
  refine g_aldX (p0 := 512) dL_isSo_511 (by repeat (first | assumption | refine XB.up (by omega) ?_)) ⟨rfl, by decide⟩ (by omega) (by first | assumption | ((repeat (first | exact up_hit | (apply up_nv; omega) | (apply up_mv; omega))) <;> first | assumption | rfl)) rfl ?_
  refine g_iload (p0 := 514) dL_isSo_512 rfl rfl ?_
  first | ((with_reducible refine isN2 ?_); refine g_icmpN_ne (tgt := 530) (p1 := 517) dL_isSo_514 rfl (by omega) (by omega) rfl (fun c_514 => by exfalso; first | exact c_514 rfl | omega | contradiction) (fun c_514 => ?_)) | refine g_icmp_ne (tgt := 530) (p1 := 517) dL_isSo_514 rfl rfl (fun c_514 => by exfalso; first | exact c_514 rfl | omega | contradiction) (fun c_514 => ?_)
  refine g_aload (p0 := 519) dL_isSo_517 rfl rfl ?_
  refine g_iload (p0 := 521) dL_isSo_519 rfl rfl ?_
  refine g_aldX (p0 := 522) dL_isSo_521 (by repeat (first | assumption | refine XB.up (by omega) ?_)) ⟨rfl, by decide⟩ (by omega) (by first | assumption | ((repeat (first | exact up_hit | (apply up_nv; omega) | (apply up_mv; omega))) <;> first | assumption | rfl)) rfl ?_
  refine g_iconst (p0 := 523) (v := nI 2) dL_isSo_522 rfl rfl ?_
  first | ((with_reducible refine isN2 ?_); refine g_icmpN_ne (tgt := 530) (p1 := 526) dL_isSo_523 rfl (by omega) (by omega) rfl (fun c_523 => by exfalso; first | exact c_523 rfl | omega | contradiction) (fun c_523 => ?_)) | refine g_icmp_ne (tgt := 530) (p1 := 526) dL_isSo_523 rfl rfl (fun c_523 => by exfalso; first | exact c_523 rfl | omega | contradiction) (fun c_523 => ?_)
  refine g_iconst (p0 := 527) (v := nI 1) dL_isSo_526 rfl rfl ?_
  refine g_goto (tgt := 531) dL_isSo_527 rfl ?_
  first | ((with_reducible refine isN2 ?_); refine g_iaddN (p0 := 532) dL_isSo_531 rfl ?_) | refine g_iadd (p0 := 532) dL_isSo_531 rfl ?_
  refine g_istore (p0 := 534) (i := 24) (ls2 := [_, _, _, _, _, _, _, _, _, _, _, _, _, _, _, _, _, _, _, _, _, _, _, _, _, _, _, _]) dL_isSo_532 (Nat.le_of_ble_eq_true rfl) rfl rfl ?_
  exact next
set_option maxRecDepth 20000 in
set_option maxHeartbeats 2000000 in
theorem iD3n {e k s L M fr tn ow dd j Mj : Nat} {stt v14 v15 v16 v17 v18 : Int32} {σ : Sg} {Q : SP} (hB : XB σ e) (he : e + 7 ≤ 90000) (he2 : 82 ≤ e) (hj : j < s) (hs1 : s ≤ 60) (hk : k < 100) (hMj : Mj < 100) (hm : σ (e + 2) j = nI Mj) (hne : ¬ Mj = k) (next : WM mL_isSo Q 465 [some (ar 0), some (ar 79), some (ar 80), some (ar 81), some (ar (e + 0)), some (ar (e + 1)), some (ar (e + 2)), some (ar (e + 3)), some (ar (e + 4)), some (ar (e + 5)), some (ar (e + 6)), some (ai (nI L)), some (ai (nI M)), some (ai (-1000004)), some (ai v14), some (ai v15), some (ai v16), some (ai v17), some (ai v18), some (ai (nI 1)), some (ai (nI k)), some (ai (nI fr)), some (ai (nI tn)), some (ai (nI 0)), some (ai (nI ow)), some (ai (nI (dd + 0))), some (ai stt), some (ai (nI (j + 1)))] [] σ) : WM mL_isSo Q 534 [some (ar 0), some (ar 79), some (ar 80), some (ar 81), some (ar (e + 0)), some (ar (e + 1)), some (ar (e + 2)), some (ar (e + 3)), some (ar (e + 4)), some (ar (e + 5)), some (ar (e + 6)), some (ai (nI L)), some (ai (nI M)), some (ai (-1000004)), some (ai v14), some (ai v15), some (ai v16), some (ai v17), some (ai v18), some (ai (nI 1)), some (ai (nI k)), some (ai (nI fr)), some (ai (nI tn)), some (ai (nI 0)), some (ai (nI ow)), some (ai (nI dd)), some (ai stt), some (ai (nI j))] [] σ := by
  refine g_iload (p0 := 536) dL_isSo_534 rfl rfl ?_
  refine g_aload (p0 := 538) dL_isSo_536 rfl rfl ?_
  refine g_iload (p0 := 540) dL_isSo_538 rfl rfl ?_
  refine g_aldX (p0 := 541) dL_isSo_540 (by repeat (first | assumption | refine XB.up (by omega) ?_)) ⟨rfl, by decide⟩ (by omega) (by first | assumption | ((repeat (first | exact up_hit | (apply up_nv; omega) | (apply up_mv; omega))) <;> first | assumption | rfl)) rfl ?_
  refine g_iload (p0 := 543) dL_isSo_541 rfl rfl ?_
  first | ((with_reducible refine isN2 ?_); refine g_icmpN_ne (tgt := 567) (p1 := 546) dL_isSo_543 rfl (by omega) (by omega) rfl (fun c_543 => ?_) (fun c_543 => by exfalso; first | exact c_543 rfl | omega | contradiction)) | refine g_icmp_ne (tgt := 567) (p1 := 546) dL_isSo_543 rfl rfl (fun c_543 => ?_) (fun c_543 => by exfalso; first | exact c_543 rfl | omega | contradiction)
  refine g_iconst (p0 := 568) (v := nI 0) dL_isSo_567 rfl rfl ?_
  first | ((with_reducible refine isN2 ?_); refine g_iaddN (p0 := 569) dL_isSo_568 rfl ?_) | refine g_iadd (p0 := 569) dL_isSo_568 rfl ?_
  refine g_istore (p0 := 571) (i := 25) (ls2 := [_, _, _, _, _, _, _, _, _, _, _, _, _, _, _, _, _, _, _, _, _, _, _, _, _, _, _, _]) dL_isSo_569 (Nat.le_of_ble_eq_true rfl) rfl rfl ?_
  first | refine g_iinc1 (p0 := 574) (ls2 := [_, _, _, _, _, _, _, _, _, _, _, _, _, _, _, _, _, _, _, _, _, _, _, _, _, _, _, _]) dL_isSo_571 rfl rfl rfl ?_ | refine g_iinc (p0 := 574) (ls2 := [_, _, _, _, _, _, _, _, _, _, _, _, _, _, _, _, _, _, _, _, _, _, _, _, _, _, _, _]) dL_isSo_571 rfl rfl rfl rfl ?_
  refine g_goto (tgt := 465) dL_isSo_574 rfl ?_
  exact next
set_option maxRecDepth 20000 in
set_option maxHeartbeats 2000000 in
theorem iD3z {e k s L M fr tn ow dd j Mj : Nat} {stt v14 v15 v16 v17 v18 : Int32} {σ : Sg} {Q : SP} (hB : XB σ e) (he : e + 7 ≤ 90000) (he2 : 82 ≤ e) (hj : j < s) (hs1 : s ≤ 60) (hk : k < 100) (hMj : Mj < 100) (hm : σ (e + 2) j = nI Mj) (hme : Mj = k) (h0 : j = 0) (next : WM mL_isSo Q 465 [some (ar 0), some (ar 79), some (ar 80), some (ar 81), some (ar (e + 0)), some (ar (e + 1)), some (ar (e + 2)), some (ar (e + 3)), some (ar (e + 4)), some (ar (e + 5)), some (ar (e + 6)), some (ai (nI L)), some (ai (nI M)), some (ai (-1000004)), some (ai v14), some (ai v15), some (ai v16), some (ai v17), some (ai v18), some (ai (nI 1)), some (ai (nI k)), some (ai (nI fr)), some (ai (nI tn)), some (ai (nI 0)), some (ai (nI ow)), some (ai (nI (dd + 0))), some (ai stt), some (ai (nI (j + 1)))] [] σ) : WM mL_isSo Q 534 [some (ar 0), some (ar 79), some (ar 80), some (ar 81), some (ar (e + 0)), some (ar (e + 1)), some (ar (e + 2)), some (ar (e + 3)), some (ar (e + 4)), some (ar (e + 5)), some (ar (e + 6)), some (ai (nI L)), some (ai (nI M)), some (ai (-1000004)), some (ai v14), some (ai v15), some (ai v16), some (ai v17), some (ai v18), some (ai (nI 1)), some (ai (nI k)), some (ai (nI fr)), some (ai (nI tn)), some (ai (nI 0)), some (ai (nI ow)), some (ai (nI dd)), some (ai stt), some (ai (nI j))] [] σ := by
  refine g_iload (p0 := 536) dL_isSo_534 rfl rfl ?_
  refine g_aload (p0 := 538) dL_isSo_536 rfl rfl ?_
  refine g_iload (p0 := 540) dL_isSo_538 rfl rfl ?_
  refine g_aldX (p0 := 541) dL_isSo_540 (by repeat (first | assumption | refine XB.up (by omega) ?_)) ⟨rfl, by decide⟩ (by omega) (by first | assumption | ((repeat (first | exact up_hit | (apply up_nv; omega) | (apply up_mv; omega))) <;> first | assumption | rfl)) rfl ?_
  refine g_iload (p0 := 543) dL_isSo_541 rfl rfl ?_
  first | ((with_reducible refine isN2 ?_); refine g_icmpN_ne (tgt := 567) (p1 := 546) dL_isSo_543 rfl (by omega) (by omega) rfl (fun c_543 => by exfalso; first | exact c_543 rfl | omega | contradiction) (fun c_543 => ?_)) | refine g_icmp_ne (tgt := 567) (p1 := 546) dL_isSo_543 rfl rfl (fun c_543 => by exfalso; first | exact c_543 rfl | omega | contradiction) (fun c_543 => ?_)
  refine g_iload (p0 := 548) dL_isSo_546 rfl rfl ?_
  first | ((with_reducible refine isN1 ?_); refine g_ifN_le (tgt := 567) (p1 := 551) dL_isSo_548 rfl (by omega) rfl (fun c_548 => ?_) (fun c_548 => by exfalso; first | exact c_548 rfl | omega | contradiction)) | refine g_if_le (tgt := 567) (p1 := 551) dL_isSo_548 rfl rfl (fun c_548 => ?_) (fun c_548 => by exfalso; first | exact c_548 rfl | omega | contradiction)
  refine g_iconst (p0 := 568) (v := nI 0) dL_isSo_567 rfl rfl ?_
  first | ((with_reducible refine isN2 ?_); refine g_iaddN (p0 := 569) dL_isSo_568 rfl ?_) | refine g_iadd (p0 := 569) dL_isSo_568 rfl ?_
  refine g_istore (p0 := 571) (i := 25) (ls2 := [_, _, _, _, _, _, _, _, _, _, _, _, _, _, _, _, _, _, _, _, _, _, _, _, _, _, _, _]) dL_isSo_569 (Nat.le_of_ble_eq_true rfl) rfl rfl ?_
  first | refine g_iinc1 (p0 := 574) (ls2 := [_, _, _, _, _, _, _, _, _, _, _, _, _, _, _, _, _, _, _, _, _, _, _, _, _, _, _, _]) dL_isSo_571 rfl rfl rfl ?_ | refine g_iinc (p0 := 574) (ls2 := [_, _, _, _, _, _, _, _, _, _, _, _, _, _, _, _, _, _, _, _, _, _, _, _, _, _, _, _]) dL_isSo_571 rfl rfl rfl rfl ?_
  refine g_goto (tgt := 465) dL_isSo_574 rfl ?_
  exact next
set_option maxRecDepth 20000 in
set_option maxHeartbeats 2000000 in
theorem iD30 {e k s L M fr tn ow dd j Mj : Nat} {g stt v14 v15 v16 v17 v18 : Int32} {σ : Sg} {Q : SP} (hB : XB σ e) (he : e + 7 ≤ 90000) (he2 : 82 ≤ e) (hj : j < s) (hs1 : s ≤ 60) (hk : k < 100) (hMj : Mj < 100) (hm : σ (e + 2) j = nI Mj) (hme : Mj = k) (h0 : 0 < j) (h1 : σ (e + 1) j = g) (hd : CM mL_doubt [ar 79, ai g] σ (Ret (nI 0) σ)) (next : WM mL_isSo Q 465 [some (ar 0), some (ar 79), some (ar 80), some (ar 81), some (ar (e + 0)), some (ar (e + 1)), some (ar (e + 2)), some (ar (e + 3)), some (ar (e + 4)), some (ar (e + 5)), some (ar (e + 6)), some (ai (nI L)), some (ai (nI M)), some (ai (-1000004)), some (ai v14), some (ai v15), some (ai v16), some (ai v17), some (ai v18), some (ai (nI 1)), some (ai (nI k)), some (ai (nI fr)), some (ai (nI tn)), some (ai (nI 0)), some (ai (nI ow)), some (ai (nI (dd + 0))), some (ai stt), some (ai (nI (j + 1)))] [] σ) : WM mL_isSo Q 534 [some (ar 0), some (ar 79), some (ar 80), some (ar 81), some (ar (e + 0)), some (ar (e + 1)), some (ar (e + 2)), some (ar (e + 3)), some (ar (e + 4)), some (ar (e + 5)), some (ar (e + 6)), some (ai (nI L)), some (ai (nI M)), some (ai (-1000004)), some (ai v14), some (ai v15), some (ai v16), some (ai v17), some (ai v18), some (ai (nI 1)), some (ai (nI k)), some (ai (nI fr)), some (ai (nI tn)), some (ai (nI 0)), some (ai (nI ow)), some (ai (nI dd)), some (ai stt), some (ai (nI j))] [] σ := by
  refine g_iload (p0 := 536) dL_isSo_534 rfl rfl ?_
  refine g_aload (p0 := 538) dL_isSo_536 rfl rfl ?_
  refine g_iload (p0 := 540) dL_isSo_538 rfl rfl ?_
  refine g_aldX (p0 := 541) dL_isSo_540 (by repeat (first | assumption | refine XB.up (by omega) ?_)) ⟨rfl, by decide⟩ (by omega) (by first | assumption | ((repeat (first | exact up_hit | (apply up_nv; omega) | (apply up_mv; omega))) <;> first | assumption | rfl)) rfl ?_
  refine g_iload (p0 := 543) dL_isSo_541 rfl rfl ?_
  first | ((with_reducible refine isN2 ?_); refine g_icmpN_ne (tgt := 567) (p1 := 546) dL_isSo_543 rfl (by omega) (by omega) rfl (fun c_543 => by exfalso; first | exact c_543 rfl | omega | contradiction) (fun c_543 => ?_)) | refine g_icmp_ne (tgt := 567) (p1 := 546) dL_isSo_543 rfl rfl (fun c_543 => by exfalso; first | exact c_543 rfl | omega | contradiction) (fun c_543 => ?_)
  refine g_iload (p0 := 548) dL_isSo_546 rfl rfl ?_
  first | ((with_reducible refine isN1 ?_); refine g_ifN_le (tgt := 567) (p1 := 551) dL_isSo_548 rfl (by omega) rfl (fun c_548 => by exfalso; first | exact c_548 rfl | omega | contradiction) (fun c_548 => ?_)) | refine g_if_le (tgt := 567) (p1 := 551) dL_isSo_548 rfl rfl (fun c_548 => by exfalso; first | exact c_548 rfl | omega | contradiction) (fun c_548 => ?_)
  refine g_aload_n (p0 := 552) (i := 1) dL_isSo_551 rfl rfl rfl ?_
  refine g_aload (p0 := 554) dL_isSo_552 rfl rfl ?_
  refine g_iload (p0 := 556) dL_isSo_554 rfl rfl ?_
  refine g_aldX (p0 := 557) dL_isSo_556 (by repeat (first | assumption | refine XB.up (by omega) ?_)) ⟨rfl, by decide⟩ (by omega) (by first | assumption | ((repeat (first | exact up_hit | (apply up_nv; omega) | (apply up_mv; omega))) <;> first | assumption | rfl)) rfl ?_
  refine g_cS2R (p0 := 560) (r1 := mL_doubt) dL_isSo_557 (Or.inl lL_82) vL_doubt (FITi rfl rfl) (Nat.le_of_ble_eq_true rfl) (hd) rfl ?_
  first | ((with_reducible refine isN1 ?_); refine g_ifN_eq (tgt := 567) (p1 := 563) dL_isSo_560 rfl (by omega) rfl (fun c_560 => ?_) (fun c_560 => by exfalso; first | exact c_560 rfl | omega | contradiction)) | refine g_if_eq (tgt := 567) (p1 := 563) dL_isSo_560 rfl rfl (fun c_560 => ?_) (fun c_560 => by exfalso; first | exact c_560 rfl | omega | contradiction)
  refine g_iconst (p0 := 568) (v := nI 0) dL_isSo_567 rfl rfl ?_
  first | ((with_reducible refine isN2 ?_); refine g_iaddN (p0 := 569) dL_isSo_568 rfl ?_) | refine g_iadd (p0 := 569) dL_isSo_568 rfl ?_
  refine g_istore (p0 := 571) (i := 25) (ls2 := [_, _, _, _, _, _, _, _, _, _, _, _, _, _, _, _, _, _, _, _, _, _, _, _, _, _, _, _]) dL_isSo_569 (Nat.le_of_ble_eq_true rfl) rfl rfl ?_
  first | refine g_iinc1 (p0 := 574) (ls2 := [_, _, _, _, _, _, _, _, _, _, _, _, _, _, _, _, _, _, _, _, _, _, _, _, _, _, _, _]) dL_isSo_571 rfl rfl rfl ?_ | refine g_iinc (p0 := 574) (ls2 := [_, _, _, _, _, _, _, _, _, _, _, _, _, _, _, _, _, _, _, _, _, _, _, _, _, _, _, _]) dL_isSo_571 rfl rfl rfl rfl ?_
  refine g_goto (tgt := 465) dL_isSo_574 rfl ?_
  exact next
set_option maxRecDepth 20000 in
set_option maxHeartbeats 2000000 in
theorem iD31 {e k s L M fr tn ow dd j Mj : Nat} {g stt v14 v15 v16 v17 v18 : Int32} {σ : Sg} {Q : SP} (hB : XB σ e) (he : e + 7 ≤ 90000) (he2 : 82 ≤ e) (hj : j < s) (hs1 : s ≤ 60) (hk : k < 100) (hMj : Mj < 100) (hm : σ (e + 2) j = nI Mj) (hme : Mj = k) (h0 : 0 < j) (h1 : σ (e + 1) j = g) (hd : CM mL_doubt [ar 79, ai g] σ (Ret (nI 1) σ)) (next : WM mL_isSo Q 465 [some (ar 0), some (ar 79), some (ar 80), some (ar 81), some (ar (e + 0)), some (ar (e + 1)), some (ar (e + 2)), some (ar (e + 3)), some (ar (e + 4)), some (ar (e + 5)), some (ar (e + 6)), some (ai (nI L)), some (ai (nI M)), some (ai (-1000004)), some (ai v14), some (ai v15), some (ai v16), some (ai v17), some (ai v18), some (ai (nI 1)), some (ai (nI k)), some (ai (nI fr)), some (ai (nI tn)), some (ai (nI 0)), some (ai (nI ow)), some (ai (nI (dd + 1))), some (ai stt), some (ai (nI (j + 1)))] [] σ) : WM mL_isSo Q 534 [some (ar 0), some (ar 79), some (ar 80), some (ar 81), some (ar (e + 0)), some (ar (e + 1)), some (ar (e + 2)), some (ar (e + 3)), some (ar (e + 4)), some (ar (e + 5)), some (ar (e + 6)), some (ai (nI L)), some (ai (nI M)), some (ai (-1000004)), some (ai v14), some (ai v15), some (ai v16), some (ai v17), some (ai v18), some (ai (nI 1)), some (ai (nI k)), some (ai (nI fr)), some (ai (nI tn)), some (ai (nI 0)), some (ai (nI ow)), some (ai (nI dd)), some (ai stt), some (ai (nI j))] [] σ := by
  refine g_iload (p0 := 536) dL_isSo_534 rfl rfl ?_
  refine g_aload (p0 := 538) dL_isSo_536 rfl rfl ?_
  refine g_iload (p0 := 540) dL_isSo_538 rfl rfl ?_
  refine g_aldX (p0 := 541) dL_isSo_540 (by repeat (first | assumption | refine XB.up (by omega) ?_)) ⟨rfl, by decide⟩ (by omega) (by first | assumption | ((repeat (first | exact up_hit | (apply up_nv; omega) | (apply up_mv; omega))) <;> first | assumption | rfl)) rfl ?_
  refine g_iload (p0 := 543) dL_isSo_541 rfl rfl ?_
  first | ((with_reducible refine isN2 ?_); refine g_icmpN_ne (tgt := 567) (p1 := 546) dL_isSo_543 rfl (by omega) (by omega) rfl (fun c_543 => by exfalso; first | exact c_543 rfl | omega | contradiction) (fun c_543 => ?_)) | refine g_icmp_ne (tgt := 567) (p1 := 546) dL_isSo_543 rfl rfl (fun c_543 => by exfalso; first | exact c_543 rfl | omega | contradiction) (fun c_543 => ?_)
  refine g_iload (p0 := 548) dL_isSo_546 rfl rfl ?_
  first | ((with_reducible refine isN1 ?_); refine g_ifN_le (tgt := 567) (p1 := 551) dL_isSo_548 rfl (by omega) rfl (fun c_548 => by exfalso; first | exact c_548 rfl | omega | contradiction) (fun c_548 => ?_)) | refine g_if_le (tgt := 567) (p1 := 551) dL_isSo_548 rfl rfl (fun c_548 => by exfalso; first | exact c_548 rfl | omega | contradiction) (fun c_548 => ?_)
  refine g_aload_n (p0 := 552) (i := 1) dL_isSo_551 rfl rfl rfl ?_
  refine g_aload (p0 := 554) dL_isSo_552 rfl rfl ?_
  refine g_iload (p0 := 556) dL_isSo_554 rfl rfl ?_
  refine g_aldX (p0 := 557) dL_isSo_556 (by repeat (first | assumption | refine XB.up (by omega) ?_)) ⟨rfl, by decide⟩ (by omega) (by first | assumption | ((repeat (first | exact up_hit | (apply up_nv; omega) | (apply up_mv; omega))) <;> first | assumption | rfl)) rfl ?_
  refine g_cS2R (p0 := 560) (r1 := mL_doubt) dL_isSo_557 (Or.inl lL_82) vL_doubt (FITi rfl rfl) (Nat.le_of_ble_eq_true rfl) (hd) rfl ?_
  first | ((with_reducible refine isN1 ?_); refine g_ifN_eq (tgt := 567) (p1 := 563) dL_isSo_560 rfl (by omega) rfl (fun c_560 => by exfalso; first | exact c_560 rfl | omega | contradiction) (fun c_560 => ?_)) | refine g_if_eq (tgt := 567) (p1 := 563) dL_isSo_560 rfl rfl (fun c_560 => by exfalso; first | exact c_560 rfl | omega | contradiction) (fun c_560 => ?_)
  refine g_iconst (p0 := 564) (v := nI 1) dL_isSo_563 rfl rfl ?_
  refine g_goto (tgt := 568) dL_isSo_564 rfl ?_
  first | ((with_reducible refine isN2 ?_); refine g_iaddN (p0 := 569) dL_isSo_568 rfl ?_) | refine g_iadd (p0 := 569) dL_isSo_568 rfl ?_
  refine g_istore (p0 := 571) (i := 25) (ls2 := [_, _, _, _, _, _, _, _, _, _, _, _, _, _, _, _, _, _, _, _, _, _, _, _, _, _, _, _]) dL_isSo_569 (Nat.le_of_ble_eq_true rfl) rfl rfl ?_
  first | refine g_iinc1 (p0 := 574) (ls2 := [_, _, _, _, _, _, _, _, _, _, _, _, _, _, _, _, _, _, _, _, _, _, _, _, _, _, _, _]) dL_isSo_571 rfl rfl rfl ?_ | refine g_iinc (p0 := 574) (ls2 := [_, _, _, _, _, _, _, _, _, _, _, _, _, _, _, _, _, _, _, _, _, _, _, _, _, _, _, _]) dL_isSo_571 rfl rfl rfl rfl ?_
  refine g_goto (tgt := 465) dL_isSo_574 rfl ?_
  exact next
theorem fs_lt (c : Nat → Nat) : ∀ k m, fs c k m ≤ k
  | 0, _ => Nat.le_refl 0
  | k + 1, m => by
    have h := fs_lt c k m
    rw [fs]
    split <;> omega
set_option maxRecDepth 20000 in
set_option maxHeartbeats 2000000 in
theorem iD_loop {e s L M k fr tn : Nat} {v14 v15 v16 v17 v18 : Int32} {c d : Nat → Nat} {gp tk : Nat → Int32} {σ : Sg} {Q : SP} (hF : FA σ e s c d gp tk) (hk : k < Mc c s) (next : WM mL_isSo Q 577 [some (ar 0), some (ar 79), some (ar 80), some (ar 81), some (ar (e + 0)), some (ar (e + 1)), some (ar (e + 2)), some (ar (e + 3)), some (ar (e + 4)), some (ar (e + 5)), some (ar (e + 6)), some (ai (nI L)), some (ai (nI M)), some (ai (-1000004)), some (ai v14), some (ai v15), some (ai v16), some (ai v17), some (ai v18), some (ai (nI 1)), some (ai (nI k)), some (ai (nI fr)), some (ai (nI tn)), some (ai (nI 0)), some (ai (nI (pl c s k))), some (ai (nI (db c d s k))), some (ai (nI (fs c s k))), some (ai (nI s))] [] σ) : ∀ m j, j + m = s → WM mL_isSo Q 465 [some (ar 0), some (ar 79), some (ar 80), some (ar 81), some (ar (e + 0)), some (ar (e + 1)), some (ar (e + 2)), some (ar (e + 3)), some (ar (e + 4)), some (ar (e + 5)), some (ar (e + 6)), some (ai (nI L)), some (ai (nI M)), some (ai (-1000004)), some (ai v14), some (ai v15), some (ai v16), some (ai v17), some (ai v18), some (ai (nI 1)), some (ai (nI k)), some (ai (nI fr)), some (ai (nI tn)), some (ai (nI 0)), some (ai (nI (pl c j k))), some (ai (nI (db c d j k))), some (ai (stL c j k)), some (ai (nI j))] [] σ := by
  obtain ⟨⟨a1, a2, a3, a4, a5, a6, a7, a8, a9⟩, hK, hD, b4, b5, b6⟩ := id hF
  have he2 := a1.1
  have bLs := (Mc_le c s).2
  have bMs := (Mc_le c s).1
  intro m
  induction m with
  | zero =>
    intro j hj
    obtain rfl : j = s := by omega
    rw [stL, if_pos hk]
    refine g_iload (p0 := 467) dL_isSo_465 rfl rfl ?_
    refine g_aload_n (p0 := 468) (i := 1) dL_isSo_467 rfl rfl rfl ?_
    refine g_iconst (p0 := 469) (v := nI 3) dL_isSo_468 rfl rfl ?_
    first | ((with_reducible refine isN1 ?_); refine g_aldN (p0 := 470) dL_isSo_469 (by first | rfl | assumption | exact RW.s (by assumption) | exact TW.s (by assumption)) (by first | decide | assumption) (by omega) (by first | assumption | ((repeat (first | exact up_hit | (apply up_nv; omega) | (apply up_mv; omega))) <;> first | assumption | rfl)) rfl ?_) | refine g_ald (p0 := 470) dL_isSo_469 (by first | rfl | assumption | exact RW.s (by assumption) | exact TW.s (by assumption)) (by assumption) (by first | assumption | ((repeat (first | exact up_hit | (apply up_nv; omega) | (apply up_mv; omega))) <;> first | assumption | rfl)) rfl ?_
    first | ((with_reducible refine isN2 ?_); refine g_icmpN_ge (tgt := 577) (p1 := 473) dL_isSo_470 rfl (by omega) (by omega) rfl (fun c_470 => ?_) (fun c_470 => by exfalso; first | exact c_470 rfl | omega | contradiction)) | refine g_icmp_ge (tgt := 577) (p1 := 473) dL_isSo_470 rfl rfl (fun c_470 => ?_) (fun c_470 => by exfalso; first | exact c_470 rfl | omega | contradiction)
    exact next
  | succ m ih =>
    intro j hj
    obtain ⟨⟨h3, h80, hc, h1, hm, hlq⟩, h61, h63, h65, h67, h69, h71⟩ := hK j (by omega)
    have hx5 := a7 j
    have hdj := a9 j
    have bL := (Mc_le c (j + 1)).2
    have bM := (Mc_le c (j + 1)).1
    have hM1 := Mc_pos a6 j
    have hMj : Mc c (j + 1) = if c j = 5 then Mc c j + 1 else Mc c j := rfl
    have ihj := ih (j + 1) (by omega)
    by_cases hme : Mc c (j + 1) - 1 = k
    · have hD3 : ∀ w, w = db c d j k → WM mL_isSo Q 534 [some (ar 0), some (ar 79), some (ar 80), some (ar 81), some (ar (e + 0)), some (ar (e + 1)), some (ar (e + 2)), some (ar (e + 3)), some (ar (e + 4)), some (ar (e + 5)), some (ar (e + 6)), some (ai (nI L)), some (ai (nI M)), some (ai (-1000004)), some (ai v14), some (ai v15), some (ai v16), some (ai v17), some (ai v18), some (ai (nI 1)), some (ai (nI k)), some (ai (nI fr)), some (ai (nI tn)), some (ai (nI 0)), some (ai (nI (pl c (j + 1) k))), some (ai (nI w)), some (ai (stL c (j + 1) k)), some (ai (nI j))] [] σ := by
        intro w hw
        have e1 : db c d (j + 1) k = w + d j := by
          rw [hw, db, if_pos (show k + 1 = Mc c (j + 1) by omega)]
          by_cases hb : c j = 5 ∧ k = Mc c j
          · rw [if_pos hb, db_out c d j k (by omega)]
          · rw [if_neg hb]
        rw [e1] at ihj
        by_cases h0 : j = 0
        · have hd0 : d j = 0 := by rw [h0]; exact a8
          rw [hd0] at ihj
          exact iD3z a1 a2 he2 (by omega) a3 (by omega) (by omega) hm hme h0 ihj
        · have hd := hD j (by omega)
          rcases (show d j = 0 ∨ d j = 1 by omega) with hd1 | hd1
          · rw [hd1] at hd ihj
            exact iD30 a1 a2 he2 (by omega) a3 (by omega) (by omega) hm hme (by omega) h1 hd ihj
          · rw [hd1] at hd ihj
            exact iD31 a1 a2 he2 (by omega) a3 (by omega) (by omega) hm hme (by omega) h1 hd ihj
      have hD3 := hD3 _ rfl
      have hD2 : WM mL_isSo Q 505 [some (ar 0), some (ar 79), some (ar 80), some (ar 81), some (ar (e + 0)), some (ar (e + 1)), some (ar (e + 2)), some (ar (e + 3)), some (ar (e + 4)), some (ar (e + 5)), some (ar (e + 6)), some (ai (nI L)), some (ai (nI M)), some (ai (-1000004)), some (ai v14), some (ai v15), some (ai v16), some (ai v17), some (ai v18), some (ai (nI 1)), some (ai (nI k)), some (ai (nI fr)), some (ai (nI tn)), some (ai (nI 0)), some (ai (nI (pl c j k))), some (ai (nI (db c d j k))), some (ai (stL c (j + 1) k)), some (ai (nI j))] [] σ := by
        by_cases hx2 : c j = 2
        · have e1 : pl c (j + 1) k = pl c j k + 1 := by
            rw [if_neg (by omega)] at hMj
            rw [pl, if_neg (by omega), if_pos (by omega)]
          rw [e1] at hD3
          exact iD2y a1 a2 he2 (by omega) a3 (by omega) (by omega) hm hc hx5 hme hx2 hD3
        · have e1 : pl c (j + 1) k = pl c j k + 0 := by
            rw [pl]
            by_cases hb : c j = 5 ∧ k = Mc c j
            · rw [if_pos hb, pl_out c j k (by omega)]
            · rw [if_neg hb, if_neg (fun q => hx2 q.1)]; rfl
          rw [e1] at hD3
          exact iD2o a1 a2 he2 (by omega) a3 (by omega) (by omega) hm hc hx5 hme hx2 hD3
      by_cases hin : k < Mc c j
      · have e1 : stL c j k = nI (fs c j k) := by rw [stL, if_pos hin]
        have e2 : stL c (j + 1) k = nI (fs c j k) := by
          rw [stL, if_pos (by omega), fs, if_neg (by omega)]
        rw [e2] at hD2
        rw [e1]
        have hfs := fs_lt c j k
        exact iD1c a1 a2 he2 (by omega) a3 (by omega) (by omega) hm hc hx5 a5 (by omega) hD2
      · have h5 : c j = 5 := by
          by_cases h5 : c j = 5
          · exact h5
          · rw [if_neg h5] at hMj
            omega
        rw [if_pos h5] at hMj
        have e1 : stL c j k = -1 := by rw [stL, if_neg hin]
        have e2 : stL c (j + 1) k = nI j := by
          rw [stL, if_pos (by omega), fs, if_pos ⟨h5, by omega⟩]
        rw [e2] at hD2
        rw [e1]
        exact iD1b a1 a2 he2 (by omega) a3 (by omega) (by omega) hm hc hx5 a5 hme (by omega) hD2
    · have e3 : db c d (j + 1) k = db c d j k + 0 := by
        rw [db, if_neg (show ¬ k + 1 = Mc c (j + 1) by omega)]
        by_cases hb : c j = 5 ∧ k = Mc c j
        · rw [if_pos hb.1] at hMj
          exact absurd hb.2 (by omega)
        · rw [if_neg hb]
      have e2 : pl c (j + 1) k = pl c j k + 0 := by
        rw [pl]
        by_cases hb : c j = 5 ∧ k = Mc c j
        · rw [if_pos hb.1] at hMj
          exact absurd hb.2 (by omega)
        · rw [if_neg hb]
          by_cases h2 : c j = 2 ∧ k + 1 = Mc c j
          · rw [if_neg (by omega)] at hMj
            exact absurd h2.2 (by omega)
          · rw [if_neg h2]; rfl
      have e1 : stL c (j + 1) k = stL c j k := by
        by_cases hin : k < Mc c j
        · have hin2 : k < Mc c (j + 1) := by
            rw [hMj]
            split <;> omega
          rw [stL, stL, if_pos hin, if_pos hin2, fs, if_neg (by omega)]
        · have hin2 : ¬ k < Mc c (j + 1) := by
            rw [hMj] at hme ⊢
            split
            · rw [if_pos (by assumption)] at hme; omega
            · exact hin
          rw [stL, stL, if_neg hin, if_neg hin2]
      rw [e1, e2, e3] at ihj
      have hD3 := iD3n a1 a2 he2 (show j < s by omega) a3 (show k < 100 by omega) (by omega) hm hme ihj
      have hD2 := iD2n a1 a2 he2 (show j < s by omega) a3 (by omega) (by omega) hm hc hx5 hme hD3
      by_cases hin : k < Mc c j
      · have e1 : stL c j k = nI (fs c j k) := by rw [stL, if_pos hin]
        rw [e1] at hD2 ⊢
        have hfs := fs_lt c j k
        exact iD1c a1 a2 he2 (by omega) a3 (by omega) (by omega) hm hc hx5 a5 (by omega) hD2
      · have e1 : stL c j k = -1 := by rw [stL, if_neg hin]
        rw [e1] at hD2 ⊢
        exact iD1a a1 a2 he2 (by omega) a3 (by omega) (by omega) hm hc hx5 a5 hme hD2
