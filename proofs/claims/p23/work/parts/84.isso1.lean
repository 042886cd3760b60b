/-! isSo: strokes -/
theorem Mc_mono (c : Nat → Nat) (k : Nat) : ∀ n, Mc c k ≤ Mc c (k + n)
  | 0 => Nat.le_refl _
  | n + 1 => by
    have h := Mc_mono c k n
    rw [show Mc c (k + (n + 1)) = if c (k + n) = 5 then Mc c (k + n) + 1 else Mc c (k + n) from rfl]
    split <;> omega
/-- all that is known of the reading, class and law, where isSo looks -/
def FA (σ : Sg) (e s : Nat) (c d : Nat → Nat) (gp tk : Nat → Int32) : Prop :=
  (XB σ e ∧ e + 7 ≤ 90000 ∧ s ≤ 60 ∧ σ 1 2 = nI s ∧ σ 79 3 = nI s ∧ c 0 = 5 ∧ (∀ k, c k ≤ 5) ∧ d 0 = 0 ∧ ∀ k, d k ≤ 1) ∧
  (∀ k, k < s → (σ 3 k = tk k ∧ σ 80 k = tk k ∧ σ (e + 0) k = nI (c k) ∧ σ (e + 1) k = gp k ∧ σ (e + 2) k = nI (Mc c (k + 1) - 1) ∧ (c k ≠ 0 → σ (e + 3) k = nI (Lc c (k + 1) - 1) ∧ σ (e + 4) k = nI (gr c (k + 1) (Lc c (k + 1) - 1) - 1))) ∧
    (1 ≤ k → σ 61 k = gp k) ∧ σ 63 k = nI (c k) ∧ σ 65 k = nI (d k) ∧ σ 67 k = nI (Mc c (k + 1) - 1) ∧ σ 69 k = nI (ln c (k + 1) (Mc c (k + 1) - 1) - 1) ∧ σ 71 k = nI (gr c (k + 1) (Lc c (k + 1) - 1) - 1)) ∧
  (∀ k, 1 ≤ k → CM mL_doubt [ar 79, ai (gp k)] σ (Ret (nI (d k)) σ)) ∧
  (∀ l, l < Lc c s → σ (e + 5) l = nI (mo c s l) ∧ σ (e + 6) l = nI (gr c s l + 256 * o1 c s l + 65536 * o2 c s l) ∧ σ 36 l = nI (gr c s l) ∧ σ 38 l = nI (o1 c s l) ∧ σ 40 l = nI (o2 c s l) ∧ LV σ e (σ 42) l) ∧
  (σ 45 7 = nI (Mc c s) ∧ σ 34 5 = nI (Lc c s) ∧ σ 33 8 = nI (lo c s)) ∧
  ∀ m, m < Mc c s → σ 47 m = nI (fs c s m) ∧ σ 49 m = nI (fl c s m) ∧ σ 51 m = nI (ln c s m) ∧ σ 53 m = nI (pl c s m) ∧ σ 55 m = nI (db c d s m) ∧ σ 57 m = nI (uF (σ 42) (fl c s m) (ln c s m)) ∧ σ 59 m = sF (σ 42) (fl c s m) (ln c s m)
theorem FA_first {σ : Sg} {e s : Nat} {c d : Nat → Nat} {gp tk : Nat → Int32} (h : FA σ e s c d gp tk) {m : Nat} (hm : m < Mc c s) : CM mL_first [ar (e + 5), ai (nI (Lc c s)), ai (nI m)] σ (Ret (nI (fl c s m)) σ) := by
  obtain ⟨⟨a1, a2, a3, a4, a5, a6, a7, a8⟩, b, d1, b4, b5, b6⟩ := h
  have bL := (Mc_le c s).2
  have bM := (Mc_le c s).1
  have hf := fl_le c s m hm
  refine first_sp (fm := mo c s) a1 (by omega) (by omega) (fun l hl => ⟨(b4 l hl).1, ?_⟩) (by omega) (fun l hl => ?_) (fun hl => ?_)
  · have := mo_lt a6 s l hl
    omega
  · exact (mo_fl a6 s l m (by omega) hm).mpr hl
  · have := (mo_fl a6 s (fl c s m) m hl hm)
    omega
theorem FA_last {σ : Sg} {e s : Nat} {c d : Nat → Nat} {gp tk : Nat → Int32} (h : FA σ e s c d gp tk) {m : Nat} (hm : m = Mc c s) : CM mL_first [ar (e + 5), ai (nI (Lc c s)), ai (nI m)] σ (Ret (nI (Lc c s)) σ) := by
  obtain ⟨⟨a1, a2, a3, a4, a5, a6, a7, a8⟩, b, d1, b4, b5, b6⟩ := h
  have bL := (Mc_le c s).2
  have bM := (Mc_le c s).1
  refine first_sp (fm := mo c s) a1 (by omega) (by omega) (fun l hl => ⟨(b4 l hl).1, ?_⟩) (Nat.le_refl _) (fun l hl => ?_) (fun hl => absurd hl (by omega))
  · have := mo_lt a6 s l hl
    omega
  · have := mo_lt a6 s l hl
    omega
set_option maxRecDepth 20000 in
set_option maxHeartbeats 2000000 in
theorem iA_z {e k s L M o q w o' q' w' x : Nat} {g v14 v18 : Int32} {σ : Sg} {Q : SP} {x21 x22 x23 x24 x25 x26 x27 : Option AV} (hB : XB σ e) (he : e + 7 ≤ 90000) (he2 : 82 ≤ e) (hs : σ 79 3 = nI s) (hk : k < s) (hs1 : s ≤ 60) (hc : σ (e + 0) k = nI x) (hx5 : x ≤ 5) (hg : σ (e + 1) k = g) (h0 : k = 0) (hx : x = 5) (ho : o' = o + 0) (hq : q' = q + 0) (hw : w' = w + 0) (next : WM mL_isSo Q 201 [some (ar 0), some (ar 79), some (ar 80), some (ar 81), some (ar (e + 0)), some (ar (e + 1)), some (ar (e + 2)), some (ar (e + 3)), some (ar (e + 4)), some (ar (e + 5)), some (ar (e + 6)), some (ai (nI L)), some (ai (nI M)), some (ai (-1000004)), some (ai v14), some (ai (nI o')), some (ai (nI q')), some (ai (nI w')), some (ai v18), some (ai (nI 1)), some (ai (nI k)), some (ai (nI 1)), some (ai (nI 0)), x23, x24, x25, x26, x27] [] σ) : WM mL_isSo Q 108 [some (ar 0), some (ar 79), some (ar 80), some (ar 81), some (ar (e + 0)), some (ar (e + 1)), some (ar (e + 2)), some (ar (e + 3)), some (ar (e + 4)), some (ar (e + 5)), some (ar (e + 6)), some (ai (nI L)), some (ai (nI M)), some (ai (-1000004)), some (ai v14), some (ai (nI o)), some (ai (nI q)), some (ai (nI w)), some (ai v18), some (ai (nI 1)), some (ai (nI k)), x21, x22, x23, x24, x25, x26, x27] [] σ := by
  refine g_iload (p0 := 110) dL_isSo_108 rfl rfl ?_
  refine g_aload_n (p0 := 111) (i := 1) dL_isSo_110 rfl rfl rfl ?_
  refine g_iconst (p0 := 112) (v := nI 3) dL_isSo_111 rfl rfl ?_
  first | ((with_reducible refine isN1 ?_); refine g_aldN (p0 := 113) dL_isSo_112 (by first | rfl | assumption | exact RW.s (by assumption) | exact TW.s (by assumption)) (by first | decide | assumption) (by omega) (by first | assumption | ((repeat (first | exact up_hit | (apply up_nv; omega) | (apply up_mv; omega))) <;> first | assumption | rfl)) rfl ?_) | refine g_ald (p0 := 113) dL_isSo_112 (by first | rfl | assumption | exact RW.s (by assumption) | exact TW.s (by assumption)) (by assumption) (by first | assumption | ((repeat (first | exact up_hit | (apply up_nv; omega) | (apply up_mv; omega))) <;> first | assumption | rfl)) rfl ?_
  first | ((with_reducible refine isN2 ?_); refine g_icmpN_ge (tgt := 411) (p1 := 116) dL_isSo_113 rfl (by omega) (by omega) rfl (fun c_113 => by exfalso; first | exact c_113 rfl | omega | contradiction) (fun c_113 => ?_)) | refine g_icmp_ge (tgt := 411) (p1 := 116) dL_isSo_113 rfl rfl (fun c_113 => by exfalso; first | exact c_113 rfl | omega | contradiction) (fun c_113 => ?_)
  refine g_iload (p0 := 118) dL_isSo_116 rfl rfl ?_
  first | ((with_reducible refine isN1 ?_); refine g_ifN_eq (tgt := 411) (p1 := 121) dL_isSo_118 rfl (by omega) rfl (fun c_118 => by exfalso; first | exact c_118 rfl | omega | contradiction) (fun c_118 => ?_)) | refine g_if_eq (tgt := 411) (p1 := 121) dL_isSo_118 rfl rfl (fun c_118 => by exfalso; first | exact c_118 rfl | omega | contradiction) (fun c_118 => ?_)
  refine g_iload (p0 := 123) dL_isSo_121 rfl rfl ?_
  first | ((with_reducible refine isN1 ?_); refine g_ifN_ne (tgt := 130) (p1 := 126) dL_isSo_123 rfl (by omega) rfl (fun c_123 => by exfalso; first | exact c_123 rfl | omega | contradiction) (fun c_123 => ?_)) | refine g_if_ne (tgt := 130) (p1 := 126) dL_isSo_123 rfl rfl (fun c_123 => by exfalso; first | exact c_123 rfl | omega | contradiction) (fun c_123 => ?_)
  refine g_iconst (p0 := 127) (v := nI 1) dL_isSo_126 rfl rfl ?_
  refine g_goto (tgt := 131) dL_isSo_127 rfl ?_
  refine g_istore (p0 := 133) (i := 21) (ls2 := [_, _, _, _, _, _, _, _, _, _, _, _, _, _, _, _, _, _, _, _, _, _, _, _, _, _, _, _]) dL_isSo_131 (Nat.le_of_ble_eq_true rfl) rfl rfl ?_
  refine g_iload (p0 := 135) dL_isSo_133 rfl rfl ?_
  first | ((with_reducible refine isN1 ?_); refine g_ifN_ne (tgt := 154) (p1 := 138) dL_isSo_135 rfl (by omega) rfl (fun c_135 => ?_) (fun c_135 => by exfalso; first | exact c_135 rfl | omega | contradiction)) | refine g_if_ne (tgt := 154) (p1 := 138) dL_isSo_135 rfl rfl (fun c_135 => ?_) (fun c_135 => by exfalso; first | exact c_135 rfl | omega | contradiction)
  refine g_iconst (p0 := 155) (v := nI 0) dL_isSo_154 rfl rfl ?_
  refine g_istore (p0 := 157) (i := 22) (ls2 := [_, _, _, _, _, _, _, _, _, _, _, _, _, _, _, _, _, _, _, _, _, _, _, _, _, _, _, _]) dL_isSo_155 (Nat.le_of_ble_eq_true rfl) rfl rfl ?_
  refine g_iload (p0 := 159) dL_isSo_157 rfl rfl ?_
  refine g_iload (p0 := 161) dL_isSo_159 rfl rfl ?_
  first | ((with_reducible refine isN2 ?_); refine g_iaddN (p0 := 162) dL_isSo_161 rfl ?_) | refine g_iadd (p0 := 162) dL_isSo_161 rfl ?_
  refine g_istore (p0 := 164) (i := 17) (ls2 := [_, _, _, _, _, _, _, _, _, _, _, _, _, _, _, _, _, _, _, _, _, _, _, _, _, _, _, _]) dL_isSo_162 (Nat.le_of_ble_eq_true rfl) rfl rfl ?_
  refine g_iload (p0 := 166) dL_isSo_164 rfl rfl ?_
  refine g_aload (p0 := 168) dL_isSo_166 rfl rfl ?_
  refine g_iload (p0 := 170) dL_isSo_168 rfl rfl ?_
  refine g_aldX (p0 := 171) dL_isSo_170 (by repeat (first | assumption | refine XB.up (by omega) ?_)) ⟨rfl, by decide⟩ (by omega) (by first | assumption | ((repeat (first | exact up_hit | (apply up_nv; omega) | (apply up_mv; omega))) <;> first | assumption | rfl)) rfl ?_
  first | ((with_reducible refine isN1 ?_); refine g_ifN_ne (tgt := 178) (p1 := 174) dL_isSo_171 rfl (by omega) rfl (fun c_171 => ?_) (fun c_171 => by exfalso; first | exact c_171 rfl | omega | contradiction)) | refine g_if_ne (tgt := 178) (p1 := 174) dL_isSo_171 rfl rfl (fun c_171 => ?_) (fun c_171 => by exfalso; first | exact c_171 rfl | omega | contradiction)
  refine g_iconst (p0 := 179) (v := nI 0) dL_isSo_178 rfl rfl ?_
  first | ((with_reducible refine isN2 ?_); refine g_iaddN (p0 := 180) dL_isSo_179 rfl ?_) | refine g_iadd (p0 := 180) dL_isSo_179 rfl ?_
  refine g_istore (p0 := 182) (i := 15) (ls2 := [_, _, _, _, _, _, _, _, _, _, _, _, _, _, _, _, _, _, _, _, _, _, _, _, _, _, _, _]) dL_isSo_180 (Nat.le_of_ble_eq_true rfl) rfl rfl ?_
  refine g_iload (p0 := 184) dL_isSo_182 rfl rfl ?_
  refine g_aload (p0 := 186) dL_isSo_184 rfl rfl ?_
  refine g_iload (p0 := 188) dL_isSo_186 rfl rfl ?_
  refine g_aldX (p0 := 189) dL_isSo_188 (by repeat (first | assumption | refine XB.up (by omega) ?_)) ⟨rfl, by decide⟩ (by omega) (by first | assumption | ((repeat (first | exact up_hit | (apply up_nv; omega) | (apply up_mv; omega))) <;> first | assumption | rfl)) rfl ?_
  refine g_iconst (p0 := 190) (v := nI 2) dL_isSo_189 rfl rfl ?_
  first | ((with_reducible refine isN2 ?_); refine g_icmpN_ne (tgt := 197) (p1 := 193) dL_isSo_190 rfl (by omega) (by omega) rfl (fun c_190 => ?_) (fun c_190 => by exfalso; first | exact c_190 rfl | omega | contradiction)) | refine g_icmp_ne (tgt := 197) (p1 := 193) dL_isSo_190 rfl rfl (fun c_190 => ?_) (fun c_190 => by exfalso; first | exact c_190 rfl | omega | contradiction)
  refine g_iconst (p0 := 198) (v := nI 0) dL_isSo_197 rfl rfl ?_
  first | ((with_reducible refine isN2 ?_); refine g_iaddN (p0 := 199) dL_isSo_198 rfl ?_) | refine g_iadd (p0 := 199) dL_isSo_198 rfl ?_
  refine g_istore (p0 := 201) (i := 16) (ls2 := [_, _, _, _, _, _, _, _, _, _, _, _, _, _, _, _, _, _, _, _, _, _, _, _, _, _, _, _]) dL_isSo_199 (Nat.le_of_ble_eq_true rfl) rfl rfl ?_
  subst ho
  subst hq
  subst hw
  exact next
set_option maxRecDepth 20000 in
set_option maxHeartbeats 2000000 in
theorem iA_00 {e k s L M o q w o' q' w' x : Nat} {g v14 v18 : Int32} {σ : Sg} {Q : SP} {x21 x22 x23 x24 x25 x26 x27 : Option AV} (hB : XB σ e) (he : e + 7 ≤ 90000) (he2 : 82 ≤ e) (hs : σ 79 3 = nI s) (hk : k < s) (hs1 : s ≤ 60) (hc : σ (e + 0) k = nI x) (hx5 : x ≤ 5) (hg : σ (e + 1) k = g) (h0 : 0 < k) (hd : CM mL_doubt [ar 79, ai g] σ (Ret (nI 0) σ)) (hx : x = 0) (ho : o' = o + 1) (hq : q' = q + 0) (hw : w' = w + 0) (next : WM mL_isSo Q 201 [some (ar 0), some (ar 79), some (ar 80), some (ar 81), some (ar (e + 0)), some (ar (e + 1)), some (ar (e + 2)), some (ar (e + 3)), some (ar (e + 4)), some (ar (e + 5)), some (ar (e + 6)), some (ai (nI L)), some (ai (nI M)), some (ai (-1000004)), some (ai v14), some (ai (nI o')), some (ai (nI q')), some (ai (nI w')), some (ai v18), some (ai (nI 1)), some (ai (nI k)), some (ai (nI 0)), some (ai (nI 0)), x23, x24, x25, x26, x27] [] σ) : WM mL_isSo Q 108 [some (ar 0), some (ar 79), some (ar 80), some (ar 81), some (ar (e + 0)), some (ar (e + 1)), some (ar (e + 2)), some (ar (e + 3)), some (ar (e + 4)), some (ar (e + 5)), some (ar (e + 6)), some (ai (nI L)), some (ai (nI M)), some (ai (-1000004)), some (ai v14), some (ai (nI o)), some (ai (nI q)), some (ai (nI w)), some (ai v18), some (ai (nI 1)), some (ai (nI k)), x21, x22, x23, x24, x25, x26, x27] [] σ := by
  refine g_iload (p0 := 110) dL_isSo_108 rfl rfl ?_
  refine g_aload_n (p0 := 111) (i := 1) dL_isSo_110 rfl rfl rfl ?_
  refine g_iconst (p0 := 112) (v := nI 3) dL_isSo_111 rfl rfl ?_
  first | ((with_reducible refine isN1 ?_); refine g_aldN (p0 := 113) dL_isSo_112 (by first | rfl | assumption | exact RW.s (by assumption) | exact TW.s (by assumption)) (by first | decide | assumption) (by omega) (by first | assumption | ((repeat (first | exact up_hit | (apply up_nv; omega) | (apply up_mv; omega))) <;> first | assumption | rfl)) rfl ?_) | refine g_ald (p0 := 113) dL_isSo_112 (by first | rfl | assumption | exact RW.s (by assumption) | exact TW.s (by assumption)) (by assumption) (by first | assumption | ((repeat (first | exact up_hit | (apply up_nv; omega) | (apply up_mv; omega))) <;> first | assumption | rfl)) rfl ?_
  first | ((with_reducible refine isN2 ?_); refine g_icmpN_ge (tgt := 411) (p1 := 116) dL_isSo_113 rfl (by omega) (by omega) rfl (fun c_113 => by exfalso; first | exact c_113 rfl | omega | contradiction) (fun c_113 => ?_)) | refine g_icmp_ge (tgt := 411) (p1 := 116) dL_isSo_113 rfl rfl (fun c_113 => by exfalso; first | exact c_113 rfl | omega | contradiction) (fun c_113 => ?_)
  refine g_iload (p0 := 118) dL_isSo_116 rfl rfl ?_
  first | ((with_reducible refine isN1 ?_); refine g_ifN_eq (tgt := 411) (p1 := 121) dL_isSo_118 rfl (by omega) rfl (fun c_118 => by exfalso; first | exact c_118 rfl | omega | contradiction) (fun c_118 => ?_)) | refine g_if_eq (tgt := 411) (p1 := 121) dL_isSo_118 rfl rfl (fun c_118 => by exfalso; first | exact c_118 rfl | omega | contradiction) (fun c_118 => ?_)
  refine g_iload (p0 := 123) dL_isSo_121 rfl rfl ?_
  first | ((with_reducible refine isN1 ?_); refine g_ifN_ne (tgt := 130) (p1 := 126) dL_isSo_123 rfl (by omega) rfl (fun c_123 => ?_) (fun c_123 => by exfalso; first | exact c_123 rfl | omega | contradiction)) | refine g_if_ne (tgt := 130) (p1 := 126) dL_isSo_123 rfl rfl (fun c_123 => ?_) (fun c_123 => by exfalso; first | exact c_123 rfl | omega | contradiction)
  refine g_iconst (p0 := 131) (v := nI 0) dL_isSo_130 rfl rfl ?_
  refine g_istore (p0 := 133) (i := 21) (ls2 := [_, _, _, _, _, _, _, _, _, _, _, _, _, _, _, _, _, _, _, _, _, _, _, _, _, _, _, _]) dL_isSo_131 (Nat.le_of_ble_eq_true rfl) rfl rfl ?_
  refine g_iload (p0 := 135) dL_isSo_133 rfl rfl ?_
  first | ((with_reducible refine isN1 ?_); refine g_ifN_ne (tgt := 154) (p1 := 138) dL_isSo_135 rfl (by omega) rfl (fun c_135 => by exfalso; first | exact c_135 rfl | omega | contradiction) (fun c_135 => ?_)) | refine g_if_ne (tgt := 154) (p1 := 138) dL_isSo_135 rfl rfl (fun c_135 => by exfalso; first | exact c_135 rfl | omega | contradiction) (fun c_135 => ?_)
  refine g_aload_n (p0 := 139) (i := 1) dL_isSo_138 rfl rfl rfl ?_
  refine g_aload (p0 := 141) dL_isSo_139 rfl rfl ?_
  refine g_iload (p0 := 143) dL_isSo_141 rfl rfl ?_
  refine g_aldX (p0 := 144) dL_isSo_143 (by repeat (first | assumption | refine XB.up (by omega) ?_)) ⟨rfl, by decide⟩ (by omega) (by first | assumption | ((repeat (first | exact up_hit | (apply up_nv; omega) | (apply up_mv; omega))) <;> first | assumption | rfl)) rfl ?_
  refine g_cS2R (p0 := 147) (r1 := mL_doubt) dL_isSo_144 (Or.inl lL_82) vL_doubt (FITi rfl rfl) (Nat.le_of_ble_eq_true rfl) (hd) rfl ?_
  first | ((with_reducible refine isN1 ?_); refine g_ifN_eq (tgt := 154) (p1 := 150) dL_isSo_147 rfl (by omega) rfl (fun c_147 => ?_) (fun c_147 => by exfalso; first | exact c_147 rfl | omega | contradiction)) | refine g_if_eq (tgt := 154) (p1 := 150) dL_isSo_147 rfl rfl (fun c_147 => ?_) (fun c_147 => by exfalso; first | exact c_147 rfl | omega | contradiction)
  refine g_iconst (p0 := 155) (v := nI 0) dL_isSo_154 rfl rfl ?_
  refine g_istore (p0 := 157) (i := 22) (ls2 := [_, _, _, _, _, _, _, _, _, _, _, _, _, _, _, _, _, _, _, _, _, _, _, _, _, _, _, _]) dL_isSo_155 (Nat.le_of_ble_eq_true rfl) rfl rfl ?_
  refine g_iload (p0 := 159) dL_isSo_157 rfl rfl ?_
  refine g_iload (p0 := 161) dL_isSo_159 rfl rfl ?_
  first | ((with_reducible refine isN2 ?_); refine g_iaddN (p0 := 162) dL_isSo_161 rfl ?_) | refine g_iadd (p0 := 162) dL_isSo_161 rfl ?_
  refine g_istore (p0 := 164) (i := 17) (ls2 := [_, _, _, _, _, _, _, _, _, _, _, _, _, _, _, _, _, _, _, _, _, _, _, _, _, _, _, _]) dL_isSo_162 (Nat.le_of_ble_eq_true rfl) rfl rfl ?_
  refine g_iload (p0 := 166) dL_isSo_164 rfl rfl ?_
  refine g_aload (p0 := 168) dL_isSo_166 rfl rfl ?_
  refine g_iload (p0 := 170) dL_isSo_168 rfl rfl ?_
  refine g_aldX (p0 := 171) dL_isSo_170 (by repeat (first | assumption | refine XB.up (by omega) ?_)) ⟨rfl, by decide⟩ (by omega) (by first | assumption | ((repeat (first | exact up_hit | (apply up_nv; omega) | (apply up_mv; omega))) <;> first | assumption | rfl)) rfl ?_
  first | ((with_reducible refine isN1 ?_); refine g_ifN_ne (tgt := 178) (p1 := 174) dL_isSo_171 rfl (by omega) rfl (fun c_171 => by exfalso; first | exact c_171 rfl | omega | contradiction) (fun c_171 => ?_)) | refine g_if_ne (tgt := 178) (p1 := 174) dL_isSo_171 rfl rfl (fun c_171 => by exfalso; first | exact c_171 rfl | omega | contradiction) (fun c_171 => ?_)
  refine g_iconst (p0 := 175) (v := nI 1) dL_isSo_174 rfl rfl ?_
  refine g_goto (tgt := 179) dL_isSo_175 rfl ?_
  first | ((with_reducible refine isN2 ?_); refine g_iaddN (p0 := 180) dL_isSo_179 rfl ?_) | refine g_iadd (p0 := 180) dL_isSo_179 rfl ?_
  refine g_istore (p0 := 182) (i := 15) (ls2 := [_, _, _, _, _, _, _, _, _, _, _, _, _, _, _, _, _, _, _, _, _, _, _, _, _, _, _, _]) dL_isSo_180 (Nat.le_of_ble_eq_true rfl) rfl rfl ?_
  refine g_iload (p0 := 184) dL_isSo_182 rfl rfl ?_
  refine g_aload (p0 := 186) dL_isSo_184 rfl rfl ?_
  refine g_iload (p0 := 188) dL_isSo_186 rfl rfl ?_
  refine g_aldX (p0 := 189) dL_isSo_188 (by repeat (first | assumption | refine XB.up (by omega) ?_)) ⟨rfl, by decide⟩ (by omega) (by first | assumption | ((repeat (first | exact up_hit | (apply up_nv; omega) | (apply up_mv; omega))) <;> first | assumption | rfl)) rfl ?_
  refine g_iconst (p0 := 190) (v := nI 2) dL_isSo_189 rfl rfl ?_
  first | ((with_reducible refine isN2 ?_); refine g_icmpN_ne (tgt := 197) (p1 := 193) dL_isSo_190 rfl (by omega) (by omega) rfl (fun c_190 => ?_) (fun c_190 => by exfalso; first | exact c_190 rfl | omega | contradiction)) | refine g_icmp_ne (tgt := 197) (p1 := 193) dL_isSo_190 rfl rfl (fun c_190 => ?_) (fun c_190 => by exfalso; first | exact c_190 rfl | omega | contradiction)
  refine g_iconst (p0 := 198) (v := nI 0) dL_isSo_197 rfl rfl ?_
  first | ((with_reducible refine isN2 ?_); refine g_iaddN (p0 := 199) dL_isSo_198 rfl ?_) | refine g_iadd (p0 := 199) dL_isSo_198 rfl ?_
  refine g_istore (p0 := 201) (i := 16) (ls2 := [_, _, _, _, _, _, _, _, _, _, _, _, _, _, _, _, _, _, _, _, _, _, _, _, _, _, _, _]) dL_isSo_199 (Nat.le_of_ble_eq_true rfl) rfl rfl ?_
  subst ho
  subst hq
  subst hw
  exact next
set_option maxRecDepth 20000 in
set_option maxHeartbeats 2000000 in
theorem iA_02 {e k s L M o q w o' q' w' x : Nat} {g v14 v18 : Int32} {σ : Sg} {Q : SP} {x21 x22 x23 x24 x25 x26 x27 : Option AV} (hB : XB σ e) (he : e + 7 ≤ 90000) (he2 : 82 ≤ e) (hs : σ 79 3 = nI s) (hk : k < s) (hs1 : s ≤ 60) (hc : σ (e + 0) k = nI x) (hx5 : x ≤ 5) (hg : σ (e + 1) k = g) (h0 : 0 < k) (hd : CM mL_doubt [ar 79, ai g] σ (Ret (nI 0) σ)) (hx : x = 2) (ho : o' = o + 0) (hq : q' = q + 1) (hw : w' = w + 0) (next : WM mL_isSo Q 201 [some (ar 0), some (ar 79), some (ar 80), some (ar 81), some (ar (e + 0)), some (ar (e + 1)), some (ar (e + 2)), some (ar (e + 3)), some (ar (e + 4)), some (ar (e + 5)), some (ar (e + 6)), some (ai (nI L)), some (ai (nI M)), some (ai (-1000004)), some (ai v14), some (ai (nI o')), some (ai (nI q')), some (ai (nI w')), some (ai v18), some (ai (nI 1)), some (ai (nI k)), some (ai (nI 0)), some (ai (nI 0)), x23, x24, x25, x26, x27] [] σ) : WM mL_isSo Q 108 [some (ar 0), some (ar 79), some (ar 80), some (ar 81), some (ar (e + 0)), some (ar (e + 1)), some (ar (e + 2)), some (ar (e + 3)), some (ar (e + 4)), some (ar (e + 5)), some (ar (e + 6)), some (ai (nI L)), some (ai (nI M)), some (ai (-1000004)), some (ai v14), some (ai (nI o)), some (ai (nI q)), some (ai (nI w)), some (ai v18), some (ai (nI 1)), some (ai (nI k)), x21, x22, x23, x24, x25, x26, x27] [] σ := by
  refine g_iload (p0 := 110) dL_isSo_108 rfl rfl ?_
  refine g_aload_n (p0 := 111) (i := 1) dL_isSo_110 rfl rfl rfl ?_
  refine g_iconst (p0 := 112) (v := nI 3) dL_isSo_111 rfl rfl ?_
  first | ((with_reducible refine isN1 ?_); refine g_aldN (p0 := 113) dL_isSo_112 (by first | rfl | assumption | exact RW.s (by assumption) | exact TW.s (by assumption)) (by first | decide | assumption) (by omega) (by first | assumption | ((repeat (first | exact up_hit | (apply up_nv; omega) | (apply up_mv; omega))) <;> first | assumption | rfl)) rfl ?_) | refine g_ald (p0 := 113) dL_isSo_112 (by first | rfl | assumption | exact RW.s (by assumption) | exact TW.s (by assumption)) (by assumption) (by first | assumption | ((repeat (first | exact up_hit | (apply up_nv; omega) | (apply up_mv; omega))) <;> first | assumption | rfl)) rfl ?_
  first | ((with_reducible refine isN2 ?_); refine g_icmpN_ge (tgt := 411) (p1 := 116) dL_isSo_113 rfl (by omega) (by omega) rfl (fun c_113 => by exfalso; first | exact c_113 rfl | omega | contradiction) (fun c_113 => ?_)) | refine g_icmp_ge (tgt := 411) (p1 := 116) dL_isSo_113 rfl rfl (fun c_113 => by exfalso; first | exact c_113 rfl | omega | contradiction) (fun c_113 => ?_)
  refine g_iload (p0 := 118) dL_isSo_116 rfl rfl ?_
  first | ((with_reducible refine isN1 ?_); refine g_ifN_eq (tgt := 411) (p1 := 121) dL_isSo_118 rfl (by omega) rfl (fun c_118 => by exfalso; first | exact c_118 rfl | omega | contradiction) (fun c_118 => ?_)) | refine g_if_eq (tgt := 411) (p1 := 121) dL_isSo_118 rfl rfl (fun c_118 => by exfalso; first | exact c_118 rfl | omega | contradiction) (fun c_118 => ?_)
  refine g_iload (p0 := 123) dL_isSo_121 rfl rfl ?_
  first | ((with_reducible refine isN1 ?_); refine g_ifN_ne (tgt := 130) (p1 := 126) dL_isSo_123 rfl (by omega) rfl (fun c_123 => ?_) (fun c_123 => by exfalso; first | exact c_123 rfl | omega | contradiction)) | refine g_if_ne (tgt := 130) (p1 := 126) dL_isSo_123 rfl rfl (fun c_123 => ?_) (fun c_123 => by exfalso; first | exact c_123 rfl | omega | contradiction)
  refine g_iconst (p0 := 131) (v := nI 0) dL_isSo_130 rfl rfl ?_
  refine g_istore (p0 := 133) (i := 21) (ls2 := [_, _, _, _, _, _, _, _, _, _, _, _, _, _, _, _, _, _, _, _, _, _, _, _, _, _, _, _]) dL_isSo_131 (Nat.le_of_ble_eq_true rfl) rfl rfl ?_
  refine g_iload (p0 := 135) dL_isSo_133 rfl rfl ?_
  first | ((with_reducible refine isN1 ?_); refine g_ifN_ne (tgt := 154) (p1 := 138) dL_isSo_135 rfl (by omega) rfl (fun c_135 => by exfalso; first | exact c_135 rfl | omega | contradiction) (fun c_135 => ?_)) | refine g_if_ne (tgt := 154) (p1 := 138) dL_isSo_135 rfl rfl (fun c_135 => by exfalso; first | exact c_135 rfl | omega | contradiction) (fun c_135 => ?_)
  refine g_aload_n (p0 := 139) (i := 1) dL_isSo_138 rfl rfl rfl ?_
  refine g_aload (p0 := 141) dL_isSo_139 rfl rfl ?_
  refine g_iload (p0 := 143) dL_isSo_141 rfl rfl ?_
  refine g_aldX (p0 := 144) dL_isSo_143 (by repeat (first | assumption | refine XB.up (by omega) ?_)) ⟨rfl, by decide⟩ (by omega) (by first | assumption | ((repeat (first | exact up_hit | (apply up_nv; omega) | (apply up_mv; omega))) <;> first | assumption | rfl)) rfl ?_
  refine g_cS2R (p0 := 147) (r1 := mL_doubt) dL_isSo_144 (Or.inl lL_82) vL_doubt (FITi rfl rfl) (Nat.le_of_ble_eq_true rfl) (hd) rfl ?_
  first | ((with_reducible refine isN1 ?_); refine g_ifN_eq (tgt := 154) (p1 := 150) dL_isSo_147 rfl (by omega) rfl (fun c_147 => ?_) (fun c_147 => by exfalso; first | exact c_147 rfl | omega | contradiction)) | refine g_if_eq (tgt := 154) (p1 := 150) dL_isSo_147 rfl rfl (fun c_147 => ?_) (fun c_147 => by exfalso; first | exact c_147 rfl | omega | contradiction)
  refine g_iconst (p0 := 155) (v := nI 0) dL_isSo_154 rfl rfl ?_
  refine g_istore (p0 := 157) (i := 22) (ls2 := [_, _, _, _, _, _, _, _, _, _, _, _, _, _, _, _, _, _, _, _, _, _, _, _, _, _, _, _]) dL_isSo_155 (Nat.le_of_ble_eq_true rfl) rfl rfl ?_
  refine g_iload (p0 := 159) dL_isSo_157 rfl rfl ?_
  refine g_iload (p0 := 161) dL_isSo_159 rfl rfl ?_
  first | ((with_reducible refine isN2 ?_); refine g_iaddN (p0 := 162) dL_isSo_161 rfl ?_) | refine g_iadd (p0 := 162) dL_isSo_161 rfl ?_
  refine g_istore (p0 := 164) (i := 17) (ls2 := [_, _, _, _, _, _, _, _, _, _, _, _, _, _, _, _, _, _, _, _, _, _, _, _, _, _, _, _]) dL_isSo_162 (Nat.le_of_ble_eq_true rfl) rfl rfl ?_
  refine g_iload (p0 := 166) dL_isSo_164 rfl rfl ?_
  refine g_aload (p0 := 168) dL_isSo_166 rfl rfl ?_
  refine g_iload (p0 := 170) dL_isSo_168 rfl rfl ?_
  refine g_aldX (p0 := 171) dL_isSo_170 (by repeat (first | assumption | refine XB.up (by omega) ?_)) ⟨rfl, by decide⟩ (by omega) (by first | assumption | ((repeat (first | exact up_hit | (apply up_nv; omega) | (apply up_mv; omega))) <;> first | assumption | rfl)) rfl ?_
  first | ((with_reducible refine isN1 ?_); refine g_ifN_ne (tgt := 178) (p1 := 174) dL_isSo_171 rfl (by omega) rfl (fun c_171 => ?_) (fun c_171 => by exfalso; first | exact c_171 rfl | omega | contradiction)) | refine g_if_ne (tgt := 178) (p1 := 174) dL_isSo_171 rfl rfl (fun c_171 => ?_) (fun c_171 => by exfalso; first | exact c_171 rfl | omega | contradiction)
  refine g_iconst (p0 := 179) (v := nI 0) dL_isSo_178 rfl rfl ?_
  first | ((with_reducible refine isN2 ?_); refine g_iaddN (p0 := 180) dL_isSo_179 rfl ?_) | refine g_iadd (p0 := 180) dL_isSo_179 rfl ?_
  refine g_istore (p0 := 182) (i := 15) (ls2 := [_, _, _, _, _, _, _, _, _, _, _, _, _, _, _, _, _, _, _, _, _, _, _, _, _, _, _, _]) dL_isSo_180 (Nat.le_of_ble_eq_true rfl) rfl rfl ?_
  refine g_iload (p0 := 184) dL_isSo_182 rfl rfl ?_
  refine g_aload (p0 := 186) dL_isSo_184 rfl rfl ?_
  refine g_iload (p0 := 188) dL_isSo_186 rfl rfl ?_
  refine g_aldX (p0 := 189) dL_isSo_188 (by repeat (first | assumption | refine XB.up (by omega) ?_)) ⟨rfl, by decide⟩ (by omega) (by first | assumption | ((repeat (first | exact up_hit | (apply up_nv; omega) | (apply up_mv; omega))) <;> first | assumption | rfl)) rfl ?_
  refine g_iconst (p0 := 190) (v := nI 2) dL_isSo_189 rfl rfl ?_
  first | ((with_reducible refine isN2 ?_); refine g_icmpN_ne (tgt := 197) (p1 := 193) dL_isSo_190 rfl (by omega) (by omega) rfl (fun c_190 => by exfalso; first | exact c_190 rfl | omega | contradiction) (fun c_190 => ?_)) | refine g_icmp_ne (tgt := 197) (p1 := 193) dL_isSo_190 rfl rfl (fun c_190 => by exfalso; first | exact c_190 rfl | omega | contradiction) (fun c_190 => ?_)
  refine g_iconst (p0 := 194) (v := nI 1) dL_isSo_193 rfl rfl ?_
  refine g_goto (tgt := 198) dL_isSo_194 rfl ?_
  first | ((with_reducible refine isN2 ?_); refine g_iaddN (p0 := 199) dL_isSo_198 rfl ?_) | refine g_iadd (p0 := 199) dL_isSo_198 rfl ?_
  refine g_istore (p0 := 201) (i := 16) (ls2 := [_, _, _, _, _, _, _, _, _, _, _, _, _, _, _, _, _, _, _, _, _, _, _, _, _, _, _, _]) dL_isSo_199 (Nat.le_of_ble_eq_true rfl) rfl rfl ?_
  subst ho
  subst hq
  subst hw
  exact next
set_option maxRecDepth 20000 in
set_option maxHeartbeats 2000000 in
theorem iA_0n {e k s L M o q w o' q' w' x : Nat} {g v14 v18 : Int32} {σ : Sg} {Q : SP} {x21 x22 x23 x24 x25 x26 x27 : Option AV} (hB : XB σ e) (he : e + 7 ≤ 90000) (he2 : 82 ≤ e) (hs : σ 79 3 = nI s) (hk : k < s) (hs1 : s ≤ 60) (hc : σ (e + 0) k = nI x) (hx5 : x ≤ 5) (hg : σ (e + 1) k = g) (h0 : 0 < k) (hd : CM mL_doubt [ar 79, ai g] σ (Ret (nI 0) σ)) (hx0 : ¬ x = 0) (hx2 : ¬ x = 2) (ho : o' = o + 0) (hq : q' = q + 0) (hw : w' = w + 0) (next : WM mL_isSo Q 201 [some (ar 0), some (ar 79), some (ar 80), some (ar 81), some (ar (e + 0)), some (ar (e + 1)), some (ar (e + 2)), some (ar (e + 3)), some (ar (e + 4)), some (ar (e + 5)), some (ar (e + 6)), some (ai (nI L)), some (ai (nI M)), some (ai (-1000004)), some (ai v14), some (ai (nI o')), some (ai (nI q')), some (ai (nI w')), some (ai v18), some (ai (nI 1)), some (ai (nI k)), some (ai (nI 0)), some (ai (nI 0)), x23, x24, x25, x26, x27] [] σ) : WM mL_isSo Q 108 [some (ar 0), some (ar 79), some (ar 80), some (ar 81), some (ar (e + 0)), some (ar (e + 1)), some (ar (e + 2)), some (ar (e + 3)), some (ar (e + 4)), some (ar (e + 5)), some (ar (e + 6)), some (ai (nI L)), some (ai (nI M)), some (ai (-1000004)), some (ai v14), some (ai (nI o)), some (ai (nI q)), some (ai (nI w)), some (ai v18), some (ai (nI 1)), some (ai (nI k)), x21, x22, x23, x24, x25, x26, x27] [] σ := by
  refine g_iload (p0 := 110) dL_isSo_108 rfl rfl ?_
  refine g_aload_n (p0 := 111) (i := 1) dL_isSo_110 rfl rfl rfl ?_
  refine g_iconst (p0 := 112) (v := nI 3) dL_isSo_111 rfl rfl ?_
  first | ((with_reducible refine isN1 ?_); refine g_aldN (p0 := 113) dL_isSo_112 (by first | rfl | assumption | exact RW.s (by assumption) | exact TW.s (by assumption)) (by first | decide | assumption) (by omega) (by first | assumption | ((repeat (first | exact up_hit | (apply up_nv; omega) | (apply up_mv; omega))) <;> first | assumption | rfl)) rfl ?_) | refine g_ald (p0 := 113) dL_isSo_112 (by first | rfl | assumption | exact RW.s (by assumption) | exact TW.s (by assumption)) (by assumption) (by first | assumption | ((repeat (first | exact up_hit | (apply up_nv; omega) | (apply up_mv; omega))) <;> first | assumption | rfl)) rfl ?_
  first | ((with_reducible refine isN2 ?_); refine g_icmpN_ge (tgt := 411) (p1 := 116) dL_isSo_113 rfl (by omega) (by omega) rfl (fun c_113 => by exfalso; first | exact c_113 rfl | omega | contradiction) (fun c_113 => ?_)) | refine g_icmp_ge (tgt := 411) (p1 := 116) dL_isSo_113 rfl rfl (fun c_113 => by exfalso; first | exact c_113 rfl | omega | contradiction) (fun c_113 => ?_)
  refine g_iload (p0 := 118) dL_isSo_116 rfl rfl ?_
  first | ((with_reducible refine isN1 ?_); refine g_ifN_eq (tgt := 411) (p1 := 121) dL_isSo_118 rfl (by omega) rfl (fun c_118 => by exfalso; first | exact c_118 rfl | omega | contradiction) (fun c_118 => ?_)) | refine g_if_eq (tgt := 411) (p1 := 121) dL_isSo_118 rfl rfl (fun c_118 => by exfalso; first | exact c_118 rfl | omega | contradiction) (fun c_118 => ?_)
  refine g_iload (p0 := 123) dL_isSo_121 rfl rfl ?_
  first | ((with_reducible refine isN1 ?_); refine g_ifN_ne (tgt := 130) (p1 := 126) dL_isSo_123 rfl (by omega) rfl (fun c_123 => ?_) (fun c_123 => by exfalso; first | exact c_123 rfl | omega | contradiction)) | refine g_if_ne (tgt := 130) (p1 := 126) dL_isSo_123 rfl rfl (fun c_123 => ?_) (fun c_123 => by exfalso; first | exact c_123 rfl | omega | contradiction)
  refine g_iconst (p0 := 131) (v := nI 0) dL_isSo_130 rfl rfl ?_
  refine g_istore (p0 := 133) (i := 21) (ls2 := [_, _, _, _, _, _, _, _, _, _, _, _, _, _, _, _, _, _, _, _, _, _, _, _, _, _, _, _]) dL_isSo_131 (Nat.le_of_ble_eq_true rfl) rfl rfl ?_
  refine g_iload (p0 := 135) dL_isSo_133 rfl rfl ?_
  first | ((with_reducible refine isN1 ?_); refine g_ifN_ne (tgt := 154) (p1 := 138) dL_isSo_135 rfl (by omega) rfl (fun c_135 => by exfalso; first | exact c_135 rfl | omega | contradiction) (fun c_135 => ?_)) | refine g_if_ne (tgt := 154) (p1 := 138) dL_isSo_135 rfl rfl (fun c_135 => by exfalso; first | exact c_135 rfl | omega | contradiction) (fun c_135 => ?_)
  refine g_aload_n (p0 := 139) (i := 1) dL_isSo_138 rfl rfl rfl ?_
  refine g_aload (p0 := 141) dL_isSo_139 rfl rfl ?_
  refine g_iload (p0 := 143) dL_isSo_141 rfl rfl ?_
  refine g_aldX (p0 := 144) dL_isSo_143 (by repeat (first | assumption | refine XB.up (by omega) ?_)) ⟨rfl, by decide⟩ (by omega) (by first | assumption | ((repeat (first | exact up_hit | (apply up_nv; omega) | (apply up_mv; omega))) <;> first | assumption | rfl)) rfl ?_
  refine g_cS2R (p0 := 147) (r1 := mL_doubt) dL_isSo_144 (Or.inl lL_82) vL_doubt (FITi rfl rfl) (Nat.le_of_ble_eq_true rfl) (hd) rfl ?_
  first | ((with_reducible refine isN1 ?_); refine g_ifN_eq (tgt := 154) (p1 := 150) dL_isSo_147 rfl (by omega) rfl (fun c_147 => ?_) (fun c_147 => by exfalso; first | exact c_147 rfl | omega | contradiction)) | refine g_if_eq (tgt := 154) (p1 := 150) dL_isSo_147 rfl rfl (fun c_147 => ?_) (fun c_147 => by exfalso; first | exact c_147 rfl | omega | contradiction)
  refine g_iconst (p0 := 155) (v := nI 0) dL_isSo_154 rfl rfl ?_
  refine g_istore (p0 := 157) (i := 22) (ls2 := [_, _, _, _, _, _, _, _, _, _, _, _, _, _, _, _, _, _, _, _, _, _, _, _, _, _, _, _]) dL_isSo_155 (Nat.le_of_ble_eq_true rfl) rfl rfl ?_
  refine g_iload (p0 := 159) dL_isSo_157 rfl rfl ?_
  refine g_iload (p0 := 161) dL_isSo_159 rfl rfl ?_
  first | ((with_reducible refine isN2 ?_); refine g_iaddN (p0 := 162) dL_isSo_161 rfl ?_) | refine g_iadd (p0 := 162) dL_isSo_161 rfl ?_
  refine g_istore (p0 := 164) (i := 17) (ls2 := [_, _, _, _, _, _, _, _, _, _, _, _, _, _, _, _, _, _, _, _, _, _, _, _, _, _, _, _]) dL_isSo_162 (Nat.le_of_ble_eq_true rfl) rfl rfl ?_
  refine g_iload (p0 := 166) dL_isSo_164 rfl rfl ?_
  refine g_aload (p0 := 168) dL_isSo_166 rfl rfl ?_
  refine g_iload (p0 := 170) dL_isSo_168 rfl rfl ?_
  refine g_aldX (p0 := 171) dL_isSo_170 (by repeat (first | assumption | refine XB.up (by omega) ?_)) ⟨rfl, by decide⟩ (by omega) (by first | assumption | ((repeat (first | exact up_hit | (apply up_nv; omega) | (apply up_mv; omega))) <;> first | assumption | rfl)) rfl ?_
  first | ((with_reducible refine isN1 ?_); refine g_ifN_ne (tgt := 178) (p1 := 174) dL_isSo_171 rfl (by omega) rfl (fun c_171 => ?_) (fun c_171 => by exfalso; first | exact c_171 rfl | omega | contradiction)) | refine g_if_ne (tgt := 178) (p1 := 174) dL_isSo_171 rfl rfl (fun c_171 => ?_) (fun c_171 => by exfalso; first | exact c_171 rfl | omega | contradiction)
  refine g_iconst (p0 := 179) (v := nI 0) dL_isSo_178 rfl rfl ?_
  first | ((with_reducible refine isN2 ?_); refine g_iaddN (p0 := 180) dL_isSo_179 rfl ?_) | refine g_iadd (p0 := 180) dL_isSo_179 rfl ?_
  refine g_istore (p0 := 182) (i := 15) (ls2 := [_, _, _, _, _, _, _, _, _, _, _, _, _, _, _, _, _, _, _, _, _, _, _, _, _, _, _, _]) dL_isSo_180 (Nat.le_of_ble_eq_true rfl) rfl rfl ?_
  refine g_iload (p0 := 184) dL_isSo_182 rfl rfl ?_
  refine g_aload (p0 := 186) dL_isSo_184 rfl rfl ?_
  refine g_iload (p0 := 188) dL_isSo_186 rfl rfl ?_
  refine g_aldX (p0 := 189) dL_isSo_188 (by repeat (first | assumption | refine XB.up (by omega) ?_)) ⟨rfl, by decide⟩ (by omega) (by first | assumption | ((repeat (first | exact up_hit | (apply up_nv; omega) | (apply up_mv; omega))) <;> first | assumption | rfl)) rfl ?_
  refine g_iconst (p0 := 190) (v := nI 2) dL_isSo_189 rfl rfl ?_
  first | ((with_reducible refine isN2 ?_); refine g_icmpN_ne (tgt := 197) (p1 := 193) dL_isSo_190 rfl (by omega) (by omega) rfl (fun c_190 => ?_) (fun c_190 => by exfalso; first | exact c_190 rfl | omega | contradiction)) | refine g_icmp_ne (tgt := 197) (p1 := 193) dL_isSo_190 rfl rfl (fun c_190 => ?_) (fun c_190 => by exfalso; first | exact c_190 rfl | omega | contradiction)
  refine g_iconst (p0 := 198) (v := nI 0) dL_isSo_197 rfl rfl ?_
  first | ((with_reducible refine isN2 ?_); refine g_iaddN (p0 := 199) dL_isSo_198 rfl ?_) | refine g_iadd (p0 := 199) dL_isSo_198 rfl ?_
  refine g_istore (p0 := 201) (i := 16) (ls2 := [_, _, _, _, _, _, _, _, _, _, _, _, _, _, _, _, _, _, _, _, _, _, _, _, _, _, _, _]) dL_isSo_199 (Nat.le_of_ble_eq_true rfl) rfl rfl ?_
  subst ho
  subst hq
  subst hw
  exact next
set_option maxRecDepth 20000 in
set_option maxHeartbeats 2000000 in
theorem iA_10 {e k s L M o q w o' q' w' x : Nat} {g v14 v18 : Int32} {σ : Sg} {Q : SP} {x21 x22 x23 x24 x25 x26 x27 : Option AV} (hB : XB σ e) (he : e + 7 ≤ 90000) (he2 : 82 ≤ e) (hs : σ 79 3 = nI s) (hk : k < s) (hs1 : s ≤ 60) (hc : σ (e + 0) k = nI x) (hx5 : x ≤ 5) (hg : σ (e + 1) k = g) (h0 : 0 < k) (hd : CM mL_doubt [ar 79, ai g] σ (Ret (nI 1) σ)) (hx : x = 0) (ho : o' = o + 1) (hq : q' = q + 0) (hw : w' = w + 1) (next : WM mL_isSo Q 201 [some (ar 0), some (ar 79), some (ar 80), some (ar 81), some (ar (e + 0)), some (ar (e + 1)), some (ar (e + 2)), some (ar (e + 3)), some (ar (e + 4)), some (ar (e + 5)), some (ar (e + 6)), some (ai (nI L)), some (ai (nI M)), some (ai (-1000004)), some (ai v14), some (ai (nI o')), some (ai (nI q')), some (ai (nI w')), some (ai v18), some (ai (nI 1)), some (ai (nI k)), some (ai (nI 0)), some (ai (nI 1)), x23, x24, x25, x26, x27] [] σ) : WM mL_isSo Q 108 [some (ar 0), some (ar 79), some (ar 80), some (ar 81), some (ar (e + 0)), some (ar (e + 1)), some (ar (e + 2)), some (ar (e + 3)), some (ar (e + 4)), some (ar (e + 5)), some (ar (e + 6)), some (ai (nI L)), some (ai (nI M)), some (ai (-1000004)), some (ai v14), some (ai (nI o)), some (ai (nI q)), some (ai (nI w)), some (ai v18), some (ai (nI 1)), some (ai (nI k)), x21, x22, x23, x24, x25, x26, x27] [] σ := by
  refine g_iload (p0 := 110) dL_isSo_108 rfl rfl ?_
  refine g_aload_n (p0 := 111) (i := 1) dL_isSo_110 rfl rfl rfl ?_
  refine g_iconst (p0 := 112) (v := nI 3) dL_isSo_111 rfl rfl ?_
  first | ((with_reducible refine isN1 ?_); refine g_aldN (p0 := 113) dL_isSo_112 (by first | rfl | assumption | exact RW.s (by assumption) | exact TW.s (by assumption)) (by first | decide | assumption) (by omega) (by first | assumption | ((repeat (first | exact up_hit | (apply up_nv; omega) | (apply up_mv; omega))) <;> first | assumption | rfl)) rfl ?_) | refine g_ald (p0 := 113) dL_isSo_112 (by first | rfl | assumption | exact RW.s (by assumption) | exact TW.s (by assumption)) (by assumption) (by first | assumption | ((repeat (first | exact up_hit | (apply up_nv; omega) | (apply up_mv; omega))) <;> first | assumption | rfl)) rfl ?_
  first | ((with_reducible refine isN2 ?_); refine g_icmpN_ge (tgt := 411) (p1 := 116) dL_isSo_113 rfl (by omega) (by omega) rfl (fun c_113 => by exfalso; first | exact c_113 rfl | omega | contradiction) (fun c_113 => ?_)) | refine g_icmp_ge (tgt := 411) (p1 := 116) dL_isSo_113 rfl rfl (fun c_113 => by exfalso; first | exact c_113 rfl | omega | contradiction) (fun c_113 => ?_)
  refine g_iload (p0 := 118) dL_isSo_116 rfl rfl ?_
  first | ((with_reducible refine isN1 ?_); refine g_ifN_eq (tgt := 411) (p1 := 121) dL_isSo_118 rfl (by omega) rfl (fun c_118 => by exfalso; first | exact c_118 rfl | omega | contradiction) (fun c_118 => ?_)) | refine g_if_eq (tgt := 411) (p1 := 121) dL_isSo_118 rfl rfl (fun c_118 => by exfalso; first | exact c_118 rfl | omega | contradiction) (fun c_118 => ?_)
  refine g_iload (p0 := 123) dL_isSo_121 rfl rfl ?_
  first | ((with_reducible refine isN1 ?_); refine g_ifN_ne (tgt := 130) (p1 := 126) dL_isSo_123 rfl (by omega) rfl (fun c_123 => ?_) (fun c_123 => by exfalso; first | exact c_123 rfl | omega | contradiction)) | refine g_if_ne (tgt := 130) (p1 := 126) dL_isSo_123 rfl rfl (fun c_123 => ?_) (fun c_123 => by exfalso; first | exact c_123 rfl | omega | contradiction)
  refine g_iconst (p0 := 131) (v := nI 0) dL_isSo_130 rfl rfl ?_
  refine g_istore (p0 := 133) (i := 21) (ls2 := [_, _, _, _, _, _, _, _, _, _, _, _, _, _, _, _, _, _, _, _, _, _, _, _, _, _, _, _]) dL_isSo_131 (Nat.le_of_ble_eq_true rfl) rfl rfl ?_
  refine g_iload (p0 := 135) dL_isSo_133 rfl rfl ?_
  first | ((with_reducible refine isN1 ?_); refine g_ifN_ne (tgt := 154) (p1 := 138) dL_isSo_135 rfl (by omega) rfl (fun c_135 => by exfalso; first | exact c_135 rfl | omega | contradiction) (fun c_135 => ?_)) | refine g_if_ne (tgt := 154) (p1 := 138) dL_isSo_135 rfl rfl (fun c_135 => by exfalso; first | exact c_135 rfl | omega | contradiction) (fun c_135 => ?_)
  refine g_aload_n (p0 := 139) (i := 1) dL_isSo_138 rfl rfl rfl ?_
  refine g_aload (p0 := 141) dL_isSo_139 rfl rfl ?_
  refine g_iload (p0 := 143) dL_isSo_141 rfl rfl ?_
  refine g_aldX (p0 := 144) dL_isSo_143 (by repeat (first | assumption | refine XB.up (by omega) ?_)) ⟨rfl, by decide⟩ (by omega) (by first | assumption | ((repeat (first | exact up_hit | (apply up_nv; omega) | (apply up_mv; omega))) <;> first | assumption | rfl)) rfl ?_
  refine g_cS2R (p0 := 147) (r1 := mL_doubt) dL_isSo_144 (Or.inl lL_82) vL_doubt (FITi rfl rfl) (Nat.le_of_ble_eq_true rfl) (hd) rfl ?_
  first | ((with_reducible refine isN1 ?_); refine g_ifN_eq (tgt := 154) (p1 := 150) dL_isSo_147 rfl (by omega) rfl (fun c_147 => by exfalso; first | exact c_147 rfl | omega | contradiction) (fun c_147 => ?_)) | refine g_if_eq (tgt := 154) (p1 := 150) dL_isSo_147 rfl rfl (fun c_147 => by exfalso; first | exact c_147 rfl | omega | contradiction) (fun c_147 => ?_)
  refine g_iconst (p0 := 151) (v := nI 1) dL_isSo_150 rfl rfl ?_
  refine g_goto (tgt := 155) dL_isSo_151 rfl ?_
  refine g_istore (p0 := 157) (i := 22) (ls2 := [_, _, _, _, _, _, _, _, _, _, _, _, _, _, _, _, _, _, _, _, _, _, _, _, _, _, _, _]) dL_isSo_155 (Nat.le_of_ble_eq_true rfl) rfl rfl ?_
  refine g_iload (p0 := 159) dL_isSo_157 rfl rfl ?_
  refine g_iload (p0 := 161) dL_isSo_159 rfl rfl ?_
  first | ((with_reducible refine isN2 ?_); refine g_iaddN (p0 := 162) dL_isSo_161 rfl ?_) | refine g_iadd (p0 := 162) dL_isSo_161 rfl ?_
  refine g_istore (p0 := 164) (i := 17) (ls2 := [_, _, _, _, _, _, _, _, _, _, _, _, _, _, _, _, _, _, _, _, _, _, _, _, _, _, _, _]) dL_isSo_162 (Nat.le_of_ble_eq_true rfl) rfl rfl ?_
  refine g_iload (p0 := 166) dL_isSo_164 rfl rfl ?_
  refine g_aload (p0 := 168) dL_isSo_166 rfl rfl ?_
  refine g_iload (p0 := 170) dL_isSo_168 rfl rfl ?_
  refine g_aldX (p0 := 171) dL_isSo_170 (by repeat (first | assumption | refine XB.up (by omega) ?_)) ⟨rfl, by decide⟩ (by omega) (by first | assumption | ((repeat (first | exact up_hit | (apply up_nv; omega) | (apply up_mv; omega))) <;> first | assumption | rfl)) rfl ?_
  first | ((with_reducible refine isN1 ?_); refine g_ifN_ne (tgt := 178) (p1 := 174) dL_isSo_171 rfl (by omega) rfl (fun c_171 => by exfalso; first | exact c_171 rfl | omega | contradiction) (fun c_171 => ?_)) | refine g_if_ne (tgt := 178) (p1 := 174) dL_isSo_171 rfl rfl (fun c_171 => by exfalso; first | exact c_171 rfl | omega | contradiction) (fun c_171 => ?_)
  refine g_iconst (p0 := 175) (v := nI 1) dL_isSo_174 rfl rfl ?_
  refine g_goto (tgt := 179) dL_isSo_175 rfl ?_
  first | ((with_reducible refine isN2 ?_); refine g_iaddN (p0 := 180) dL_isSo_179 rfl ?_) | refine g_iadd (p0 := 180) dL_isSo_179 rfl ?_
  refine g_istore (p0 := 182) (i := 15) (ls2 := [_, _, _, _, _, _, _, _, _, _, _, _, _, _, _, _, _, _, _, _, _, _, _, _, _, _, _, _]) dL_isSo_180 (Nat.le_of_ble_eq_true rfl) rfl rfl ?_
  refine g_iload (p0 := 184) dL_isSo_182 rfl rfl ?_
  refine g_aload (p0 := 186) dL_isSo_184 rfl rfl ?_
  refine g_iload (p0 := 188) dL_isSo_186 rfl rfl ?_
  refine g_aldX (p0 := 189) dL_isSo_188 (by repeat (first | assumption | refine XB.up (by omega) ?_)) ⟨rfl, by decide⟩ (by omega) (by first | assumption | ((repeat (first | exact up_hit | (apply up_nv; omega) | (apply up_mv; omega))) <;> first | assumption | rfl)) rfl ?_
  refine g_iconst (p0 := 190) (v := nI 2) dL_isSo_189 rfl rfl ?_
  first | ((with_reducible refine isN2 ?_); refine g_icmpN_ne (tgt := 197) (p1 := 193) dL_isSo_190 rfl (by omega) (by omega) rfl (fun c_190 => ?_) (fun c_190 => by exfalso; first | exact c_190 rfl | omega | contradiction)) | refine g_icmp_ne (tgt := 197) (p1 := 193) dL_isSo_190 rfl rfl (fun c_190 => ?_) (fun c_190 => by exfalso; first | exact c_190 rfl | omega | contradiction)
  refine g_iconst (p0 := 198) (v := nI 0) dL_isSo_197 rfl rfl ?_
  first | ((with_reducible refine isN2 ?_); refine g_iaddN (p0 := 199) dL_isSo_198 rfl ?_) | refine g_iadd (p0 := 199) dL_isSo_198 rfl ?_
  refine g_istore (p0 := 201) (i := 16) (ls2 := [_, _, _, _, _, _, _, _, _, _, _, _, _, _, _, _, _, _, _, _, _, _, _, _, _, _, _, _]) dL_isSo_199 (Nat.le_of_ble_eq_true rfl) rfl rfl ?_
  subst ho
  subst hq
  subst hw
  exact next
set_option maxRecDepth 20000 in
set_option maxHeartbeats 2000000 in
theorem iA_12 {e k s L M o q w o' q' w' x : Nat} {g v14 v18 : Int32} {σ : Sg} {Q : SP} {x21 x22 x23 x24 x25 x26 x27 : Option AV} (hB : XB σ e) (he : e + 7 ≤ 90000) (he2 : 82 ≤ e) (hs : σ 79 3 = nI s) (hk : k < s) (hs1 : s ≤ 60) (hc : σ (e + 0) k = nI x) (hx5 : x ≤ 5) (hg : σ (e + 1) k = g) (h0 : 0 < k) (hd : CM mL_doubt [ar 79, ai g] σ (Ret (nI 1) σ)) (hx : x = 2) (ho : o' = o + 0) (hq : q' = q + 1) (hw : w' = w + 1) (next : WM mL_isSo Q 201 [some (ar 0), some (ar 79), some (ar 80), some (ar 81), some (ar (e + 0)), some (ar (e + 1)), some (ar (e + 2)), some (ar (e + 3)), some (ar (e + 4)), some (ar (e + 5)), some (ar (e + 6)), some (ai (nI L)), some (ai (nI M)), some (ai (-1000004)), some (ai v14), some (ai (nI o')), some (ai (nI q')), some (ai (nI w')), some (ai v18), some (ai (nI 1)), some (ai (nI k)), some (ai (nI 0)), some (ai (nI 1)), x23, x24, x25, x26, x27] [] σ) : WM mL_isSo Q 108 [some (ar 0), some (ar 79), some (ar 80), some (ar 81), some (ar (e + 0)), some (ar (e + 1)), some (ar (e + 2)), some (ar (e + 3)), some (ar (e + 4)), some (ar (e + 5)), some (ar (e + 6)), some (ai (nI L)), some (ai (nI M)), some (ai (-1000004)), some (ai v14), some (ai (nI o)), some (ai (nI q)), some (ai (nI w)), some (ai v18), some (ai (nI 1)), some (ai (nI k)), x21, x22, x23, x24, x25, x26, x27] [] σ := by
  refine g_iload (p0 := 110) dL_isSo_108 rfl rfl ?_
  refine g_aload_n (p0 := 111) (i := 1) dL_isSo_110 rfl rfl rfl ?_
  refine g_iconst (p0 := 112) (v := nI 3) dL_isSo_111 rfl rfl ?_
  first | ((with_reducible refine isN1 ?_); refine g_aldN (p0 := 113) dL_isSo_112 (by first | rfl | assumption | exact RW.s (by assumption) | exact TW.s (by assumption)) (by first | decide | assumption) (by omega) (by first | assumption | ((repeat (first | exact up_hit | (apply up_nv; omega) | (apply up_mv; omega))) <;> first | assumption | rfl)) rfl ?_) | refine g_ald (p0 := 113) dL_isSo_112 (by first | rfl | assumption | exact RW.s (by assumption) | exact TW.s (by assumption)) (by assumption) (by first | assumption | ((repeat (first | exact up_hit | (apply up_nv; omega) | (apply up_mv; omega))) <;> first | assumption | rfl)) rfl ?_
  first | ((with_reducible refine isN2 ?_); refine g_icmpN_ge (tgt := 411) (p1 := 116) dL_isSo_113 rfl (by omega) (by omega) rfl (fun c_113 => by exfalso; first | exact c_113 rfl | omega | contradiction) (fun c_113 => ?_)) | refine g_icmp_ge (tgt := 411) (p1 := 116) dL_isSo_113 rfl rfl (fun c_113 => by exfalso; first | exact c_113 rfl | omega | contradiction) (fun c_113 => ?_)
  refine g_iload (p0 := 118) dL_isSo_116 rfl rfl ?_
  first | ((with_reducible refine isN1 ?_); refine g_ifN_eq (tgt := 411) (p1 := 121) dL_isSo_118 rfl (by omega) rfl (fun c_118 => by exfalso; first | exact c_118 rfl | omega | contradiction) (fun c_118 => ?_)) | refine g_if_eq (tgt := 411) (p1 := 121) dL_isSo_118 rfl rfl (fun c_118 => by exfalso; first | exact c_118 rfl | omega | contradiction) (fun c_118 => ?_)
  refine g_iload (p0 := 123) dL_isSo_121 rfl rfl ?_
  first | ((with_reducible refine isN1 ?_); refine g_ifN_ne (tgt := 130) (p1 := 126) dL_isSo_123 rfl (by omega) rfl (fun c_123 => ?_) (fun c_123 => by exfalso; first | exact c_123 rfl | omega | contradiction)) | refine g_if_ne (tgt := 130) (p1 := 126) dL_isSo_123 rfl rfl (fun c_123 => ?_) (fun c_123 => by exfalso; first | exact c_123 rfl | omega | contradiction)
  refine g_iconst (p0 := 131) (v := nI 0) dL_isSo_130 rfl rfl ?_
  refine g_istore (p0 := 133) (i := 21) (ls2 := [_, _, _, _, _, _, _, _, _, _, _, _, _, _, _, _, _, _, _, _, _, _, _, _, _, _, _, _]) dL_isSo_131 (Nat.le_of_ble_eq_true rfl) rfl rfl ?_
  refine g_iload (p0 := 135) dL_isSo_133 rfl rfl ?_
  first | ((with_reducible refine isN1 ?_); refine g_ifN_ne (tgt := 154) (p1 := 138) dL_isSo_135 rfl (by omega) rfl (fun c_135 => by exfalso; first | exact c_135 rfl | omega | contradiction) (fun c_135 => ?_)) | refine g_if_ne (tgt := 154) (p1 := 138) dL_isSo_135 rfl rfl (fun c_135 => by exfalso; first | exact c_135 rfl | omega | contradiction) (fun c_135 => ?_)
  refine g_aload_n (p0 := 139) (i := 1) dL_isSo_138 rfl rfl rfl ?_
  refine g_aload (p0 := 141) dL_isSo_139 rfl rfl ?_
  refine g_iload (p0 := 143) dL_isSo_141 rfl rfl ?_
  refine g_aldX (p0 := 144) dL_isSo_143 (by repeat (first | assumption | refine XB.up (by omega) ?_)) ⟨rfl, by decide⟩ (by omega) (by first | assumption | ((repeat (first | exact up_hit | (apply up_nv; omega) | (apply up_mv; omega))) <;> first | assumption | rfl)) rfl ?_
  refine g_cS2R (p0 := 147) (r1 := mL_doubt) dL_isSo_144 (Or.inl lL_82) vL_doubt (FITi rfl rfl) (Nat.le_of_ble_eq_true rfl) (hd) rfl ?_
  first | ((with_reducible refine isN1 ?_); refine g_ifN_eq (tgt := 154) (p1 := 150) dL_isSo_147 rfl (by omega) rfl (fun c_147 => by exfalso; first | exact c_147 rfl | omega | contradiction) (fun c_147 => ?_)) | refine g_if_eq (tgt := 154) (p1 := 150) dL_isSo_147 rfl rfl (fun c_147 => by exfalso; first | exact c_147 rfl | omega | contradiction) (fun c_147 => ?_)
  refine g_iconst (p0 := 151) (v := nI 1) dL_isSo_150 rfl rfl ?_
  refine g_goto (tgt := 155) dL_isSo_151 rfl ?_
  refine g_istore (p0 := 157) (i := 22) (ls2 := [_, _, _, _, _, _, _, _, _, _, _, _, _, _, _, _, _, _, _, _, _, _, _, _, _, _, _, _]) dL_isSo_155 (Nat.le_of_ble_eq_true rfl) rfl rfl ?_
  refine g_iload (p0 := 159) dL_isSo_157 rfl rfl ?_
  refine g_iload (p0 := 161) dL_isSo_159 rfl rfl ?_
  first | ((with_reducible refine isN2 ?_); refine g_iaddN (p0 := 162) dL_isSo_161 rfl ?_) | refine g_iadd (p0 := 162) dL_isSo_161 rfl ?_
  refine g_istore (p0 := 164) (i := 17) (ls2 := [_, _, _, _, _, _, _, _, _, _, _, _, _, _, _, _, _, _, _, _, _, _, _, _, _, _, _, _]) dL_isSo_162 (Nat.le_of_ble_eq_true rfl) rfl rfl ?_
  refine g_iload (p0 := 166) dL_isSo_164 rfl rfl ?_
  refine g_aload (p0 := 168) dL_isSo_166 rfl rfl ?_
  refine g_iload (p0 := 170) dL_isSo_168 rfl rfl ?_
  refine g_aldX (p0 := 171) dL_isSo_170 (by repeat (first | assumption | refine XB.up (by omega) ?_)) ⟨rfl, by decide⟩ (by omega) (by first | assumption | ((repeat (first | exact up_hit | (apply up_nv; omega) | (apply up_mv; omega))) <;> first | assumption | rfl)) rfl ?_
  first | ((with_reducible refine isN1 ?_); refine g_ifN_ne (tgt := 178) (p1 := 174) dL_isSo_171 rfl (by omega) rfl (fun c_171 => ?_) (fun c_171 => by exfalso; first | exact c_171 rfl | omega | contradiction)) | refine g_if_ne (tgt := 178) (p1 := 174) dL_isSo_171 rfl rfl (fun c_171 => ?_) (fun c_171 => by exfalso; first | exact c_171 rfl | omega | contradiction)
  refine g_iconst (p0 := 179) (v := nI 0) dL_isSo_178 rfl rfl ?_
  first | ((with_reducible refine isN2 ?_); refine g_iaddN (p0 := 180) dL_isSo_179 rfl ?_) | refine g_iadd (p0 := 180) dL_isSo_179 rfl ?_
  refine g_istore (p0 := 182) (i := 15) (ls2 := [_, _, _, _, _, _, _, _, _, _, _, _, _, _, _, _, _, _, _, _, _, _, _, _, _, _, _, _]) dL_isSo_180 (Nat.le_of_ble_eq_true rfl) rfl rfl ?_
  refine g_iload (p0 := 184) dL_isSo_182 rfl rfl ?_
  refine g_aload (p0 := 186) dL_isSo_184 rfl rfl ?_
  refine g_iload (p0 := 188) dL_isSo_186 rfl rfl ?_
  refine g_aldX (p0 := 189) dL_isSo_188 (by repeat (first | assumption | refine XB.up (by omega) ?_)) ⟨rfl, by decide⟩ (by omega) (by first | assumption | ((repeat (first | exact up_hit | (apply up_nv; omega) | (apply up_mv; omega))) <;> first | assumption | rfl)) rfl ?_
  refine g_iconst (p0 := 190) (v := nI 2) dL_isSo_189 rfl rfl ?_
  first | ((with_reducible refine isN2 ?_); refine g_icmpN_ne (tgt := 197) (p1 := 193) dL_isSo_190 rfl (by omega) (by omega) rfl (fun c_190 => by exfalso; first | exact c_190 rfl | omega | contradiction) (fun c_190 => ?_)) | refine g_icmp_ne (tgt := 197) (p1 := 193) dL_isSo_190 rfl rfl (fun c_190 => by exfalso; first | exact c_190 rfl | omega | contradiction) (fun c_190 => ?_)
  refine g_iconst (p0 := 194) (v := nI 1) dL_isSo_193 rfl rfl ?_
  refine g_goto (tgt := 198) dL_isSo_194 rfl ?_
  first | ((with_reducible refine isN2 ?_); refine g_iaddN (p0 := 199) dL_isSo_198 rfl ?_) | refine g_iadd (p0 := 199) dL_isSo_198 rfl ?_
  refine g_istore (p0 := 201) (i := 16) (ls2 := [_, _, _, _, _, _, _, _, _, _, _, _, _, _, _, _, _, _, _, _, _, _, _, _, _, _, _, _]) dL_isSo_199 (Nat.le_of_ble_eq_true rfl) rfl rfl ?_
  subst ho
  subst hq
  subst hw
  exact next
set_option maxRecDepth 20000 in
set_option maxHeartbeats 2000000 in
theorem iA_1n {e k s L M o q w o' q' w' x : Nat} {g v14 v18 : Int32} {σ : Sg} {Q : SP} {x21 x22 x23 x24 x25 x26 x27 : Option AV} (hB : XB σ e) (he : e + 7 ≤ 90000) (he2 : 82 ≤ e) (hs : σ 79 3 = nI s) (hk : k < s) (hs1 : s ≤ 60) (hc : σ (e + 0) k = nI x) (hx5 : x ≤ 5) (hg : σ (e + 1) k = g) (h0 : 0 < k) (hd : CM mL_doubt [ar 79, ai g] σ (Ret (nI 1) σ)) (hx0 : ¬ x = 0) (hx2 : ¬ x = 2) (ho : o' = o + 0) (hq : q' = q + 0) (hw : w' = w + 1) (next : WM mL_isSo Q 201 [some (ar 0), some (ar 79), some (ar 80), some (ar 81), some (ar (e + 0)), some (ar (e + 1)), some (ar (e + 2)), some (ar (e + 3)), some (ar (e + 4)), some (ar (e + 5)), some (ar (e + 6)), some (ai (nI L)), some (ai (nI M)), some (ai (-1000004)), some (ai v14), some (ai (nI o')), some (ai (nI q')), some (ai (nI w')), some (ai v18), some (ai (nI 1)), some (ai (nI k)), some (ai (nI 0)), some (ai (nI 1)), x23, x24, x25, x26, x27] [] σ) : WM mL_isSo Q 108 [some (ar 0), some (ar 79), some (ar 80), some (ar 81), some (ar (e + 0)), some (ar (e + 1)), some (ar (e + 2)), some (ar (e + 3)), some (ar (e + 4)), some (ar (e + 5)), some (ar (e + 6)), some (ai (nI L)), some (ai (nI M)), some (ai (-1000004)), some (ai v14), some (ai (nI o)), some (ai (nI q)), some (ai (nI w)), some (ai v18), some (ai (nI 1)), some (ai (nI k)), x21, x22, x23, x24, x25, x26, x27] [] σ := by
  refine g_iload (p0 := 110) dL_isSo_108 rfl rfl ?_
  refine g_aload_n (p0 := 111) (i := 1) dL_isSo_110 rfl rfl rfl ?_
  refine g_iconst (p0 := 112) (v := nI 3) dL_isSo_111 rfl rfl ?_
  first | ((with_reducible refine isN1 ?_); refine g_aldN (p0 := 113) dL_isSo_112 (by first | rfl | assumption | exact RW.s (by assumption) | exact TW.s (by assumption)) (by first | decide | assumption) (by omega) (by first | assumption | ((repeat (first | exact up_hit | (apply up_nv; omega) | (apply up_mv; omega))) <;> first | assumption | rfl)) rfl ?_) | refine g_ald (p0 := 113) dL_isSo_112 (by first | rfl | assumption | exact RW.s (by assumption) | exact TW.s (by assumption)) (by assumption) (by first | assumption | ((repeat (first | exact up_hit | (apply up_nv; omega) | (apply up_mv; omega))) <;> first | assumption | rfl)) rfl ?_
  first | ((with_reducible refine isN2 ?_); refine g_icmpN_ge (tgt := 411) (p1 := 116) dL_isSo_113 rfl (by omega) (by omega) rfl (fun c_113 => by exfalso; first | exact c_113 rfl | omega | contradiction) (fun c_113 => ?_)) | refine g_icmp_ge (tgt := 411) (p1 := 116) dL_isSo_113 rfl rfl (fun c_113 => by exfalso; first | exact c_113 rfl | omega | contradiction) (fun c_113 => ?_)
  refine g_iload (p0 := 118) dL_isSo_116 rfl rfl ?_
  first | ((with_reducible refine isN1 ?_); refine g_ifN_eq (tgt := 411) (p1 := 121) dL_isSo_118 rfl (by omega) rfl (fun c_118 => by exfalso; first | exact c_118 rfl | omega | contradiction) (fun c_118 => ?_)) | refine g_if_eq (tgt := 411) (p1 := 121) dL_isSo_118 rfl rfl (fun c_118 => by exfalso; first | exact c_118 rfl | omega | contradiction) (fun c_118 => ?_)
  refine g_iload (p0 := 123) dL_isSo_121 rfl rfl ?_
  first | ((with_reducible refine isN1 ?_); refine g_ifN_ne (tgt := 130) (p1 := 126) dL_isSo_123 rfl (by omega) rfl (fun c_123 => ?_) (fun c_123 => by exfalso; first | exact c_123 rfl | omega | contradiction)) | refine g_if_ne (tgt := 130) (p1 := 126) dL_isSo_123 rfl rfl (fun c_123 => ?_) (fun c_123 => by exfalso; first | exact c_123 rfl | omega | contradiction)
  refine g_iconst (p0 := 131) (v := nI 0) dL_isSo_130 rfl rfl ?_
  refine g_istore (p0 := 133) (i := 21) (ls2 := [_, _, _, _, _, _, _, _, _, _, _, _, _, _, _, _, _, _, _, _, _, _, _, _, _, _, _, _]) dL_isSo_131 (Nat.le_of_ble_eq_true rfl) rfl rfl ?_
  refine g_iload (p0 := 135) dL_isSo_133 rfl rfl ?_
  first | ((with_reducible refine isN1 ?_); refine g_ifN_ne (tgt := 154) (p1 := 138) dL_isSo_135 rfl (by omega) rfl (fun c_135 => by exfalso; first | exact c_135 rfl | omega | contradiction) (fun c_135 => ?_)) | refine g_if_ne (tgt := 154) (p1 := 138) dL_isSo_135 rfl rfl (fun c_135 => by exfalso; first | exact c_135 rfl | omega | contradiction) (fun c_135 => ?_)
  refine g_aload_n (p0 := 139) (i := 1) dL_isSo_138 rfl rfl rfl ?_
  refine g_aload (p0 := 141) dL_isSo_139 rfl rfl ?_
  refine g_iload (p0 := 143) dL_isSo_141 rfl rfl ?_
  refine g_aldX (p0 := 144) dL_isSo_143 (by repeat (first | assumption | refine XB.up (by omega) ?_)) ⟨rfl, by decide⟩ (by omega) (by first | assumption | ((repeat (first | exact up_hit | (apply up_nv; omega) | (apply up_mv; omega))) <;> first | assumption | rfl)) rfl ?_
  refine g_cS2R (p0 := 147) (r1 := mL_doubt) dL_isSo_144 (Or.inl lL_82) vL_doubt (FITi rfl rfl) (Nat.le_of_ble_eq_true rfl) (hd) rfl ?_
  first | ((with_reducible refine isN1 ?_); refine g_ifN_eq (tgt := 154) (p1 := 150) dL_isSo_147 rfl (by omega) rfl (fun c_147 => by exfalso; first | exact c_147 rfl | omega | contradiction) (fun c_147 => ?_)) | refine g_if_eq (tgt := 154) (p1 := 150) dL_isSo_147 rfl rfl (fun c_147 => by exfalso; first | exact c_147 rfl | omega | contradiction) (fun c_147 => ?_)
  refine g_iconst (p0 := 151) (v := nI 1) dL_isSo_150 rfl rfl ?_
  refine g_goto (tgt := 155) dL_isSo_151 rfl ?_
  refine g_istore (p0 := 157) (i := 22) (ls2 := [_, _, _, _, _, _, _, _, _, _, _, _, _, _, _, _, _, _, _, _, _, _, _, _, _, _, _, _]) dL_isSo_155 (Nat.le_of_ble_eq_true rfl) rfl rfl ?_
  refine g_iload (p0 := 159) dL_isSo_157 rfl rfl ?_
  refine g_iload (p0 := 161) dL_isSo_159 rfl rfl ?_
  first | ((with_reducible refine isN2 ?_); refine g_iaddN (p0 := 162) dL_isSo_161 rfl ?_) | refine g_iadd (p0 := 162) dL_isSo_161 rfl ?_
  refine g_istore (p0 := 164) (i := 17) (ls2 := [_, _, _, _, _, _, _, _, _, _, _, _, _, _, _, _, _, _, _, _, _, _, _, _, _, _, _, _]) dL_isSo_162 (Nat.le_of_ble_eq_true rfl) rfl rfl ?_
  refine g_iload (p0 := 166) dL_isSo_164 rfl rfl ?_
  refine g_aload (p0 := 168) dL_isSo_166 rfl rfl ?_
  refine g_iload (p0 := 170) dL_isSo_168 rfl rfl ?_
  refine g_aldX (p0 := 171) dL_isSo_170 (by repeat (first | assumption | refine XB.up (by omega) ?_)) ⟨rfl, by decide⟩ (by omega) (by first | assumption | ((repeat (first | exact up_hit | (apply up_nv; omega) | (apply up_mv; omega))) <;> first | assumption | rfl)) rfl ?_
  first | ((with_reducible refine isN1 ?_); refine g_ifN_ne (tgt := 178) (p1 := 174) dL_isSo_171 rfl (by omega) rfl (fun c_171 => ?_) (fun c_171 => by exfalso; first | exact c_171 rfl | omega | contradiction)) | refine g_if_ne (tgt := 178) (p1 := 174) dL_isSo_171 rfl rfl (fun c_171 => ?_) (fun c_171 => by exfalso; first | exact c_171 rfl | omega | contradiction)
  refine g_iconst (p0 := 179) (v := nI 0) dL_isSo_178 rfl rfl ?_
  first | ((with_reducible refine isN2 ?_); refine g_iaddN (p0 := 180) dL_isSo_179 rfl ?_) | refine g_iadd (p0 := 180) dL_isSo_179 rfl ?_
  refine g_istore (p0 := 182) (i := 15) (ls2 := [_, _, _, _, _, _, _, _, _, _, _, _, _, _, _, _, _, _, _, _, _, _, _, _, _, _, _, _]) dL_isSo_180 (Nat.le_of_ble_eq_true rfl) rfl rfl ?_
  refine g_iload (p0 := 184) dL_isSo_182 rfl rfl ?_
  refine g_aload (p0 := 186) dL_isSo_184 rfl rfl ?_
  refine g_iload (p0 := 188) dL_isSo_186 rfl rfl ?_
  refine g_aldX (p0 := 189) dL_isSo_188 (by repeat (first | assumption | refine XB.up (by omega) ?_)) ⟨rfl, by decide⟩ (by omega) (by first | assumption | ((repeat (first | exact up_hit | (apply up_nv; omega) | (apply up_mv; omega))) <;> first | assumption | rfl)) rfl ?_
  refine g_iconst (p0 := 190) (v := nI 2) dL_isSo_189 rfl rfl ?_
  first | ((with_reducible refine isN2 ?_); refine g_icmpN_ne (tgt := 197) (p1 := 193) dL_isSo_190 rfl (by omega) (by omega) rfl (fun c_190 => ?_) (fun c_190 => by exfalso; first | exact c_190 rfl | omega | contradiction)) | refine g_icmp_ne (tgt := 197) (p1 := 193) dL_isSo_190 rfl rfl (fun c_190 => ?_) (fun c_190 => by exfalso; first | exact c_190 rfl | omega | contradiction)
  refine g_iconst (p0 := 198) (v := nI 0) dL_isSo_197 rfl rfl ?_
  first | ((with_reducible refine isN2 ?_); refine g_iaddN (p0 := 199) dL_isSo_198 rfl ?_) | refine g_iadd (p0 := 199) dL_isSo_198 rfl ?_
  refine g_istore (p0 := 201) (i := 16) (ls2 := [_, _, _, _, _, _, _, _, _, _, _, _, _, _, _, _, _, _, _, _, _, _, _, _, _, _, _, _]) dL_isSo_199 (Nat.le_of_ble_eq_true rfl) rfl rfl ?_
  subst ho
  subst hq
  subst hw
  exact next
set_option maxRecDepth 20000 in
set_option maxHeartbeats 2000000 in
theorem iB_z {e k s L M o q w x dk Mk : Nat} {tv gv v14 v18 : Int32} {σ : Sg} {Q : SP} {x23 x24 x25 x26 x27 : Option AV} (hB : XB σ e) (he : e + 7 ≤ 90000) (he2 : 82 ≤ e) (hk : k < s) (hs1 : s ≤ 60) (hs12 : σ 1 2 = nI s) (h3 : σ 3 k = tv) (h80 : σ 80 k = tv) (hc : σ (e + 0) k = nI x) (hx5 : x ≤ 5) (h1 : σ (e + 1) k = gv) (hm : σ (e + 2) k = nI Mk) (h63 : σ 63 k = nI x) (h65 : σ 65 k = nI dk) (hdk : dk ≤ 1) (hMk : Mk < 100) (hx0 : 0 < x) {Lk gk fq : Nat} (hl : σ (e + 3) k = nI Lk) (hq : σ (e + 4) k = nI gk) (h67 : σ 67 k = nI Mk) (h69 : σ 69 k = nI (Lk - fq)) (h71 : σ 71 k = nI gk) (hqL : fq ≤ Lk) (hLk : Lk < 100) (hgk : gk < 100) (hfirst : CM mL_first [ar (e + 5), ai (nI L), ai (nI Mk)] σ (Ret (nI fq) σ)) (h0 : k = 0) (next : WM mL_isSo Q 108 [some (ar 0), some (ar 79), some (ar 80), some (ar 81), some (ar (e + 0)), some (ar (e + 1)), some (ar (e + 2)), some (ar (e + 3)), some (ar (e + 4)), some (ar (e + 5)), some (ar (e + 6)), some (ai (nI L)), some (ai (nI M)), some (ai (-1000004)), some (ai v14), some (ai (nI o)), some (ai (nI q)), some (ai (nI w)), some (ai v18), some (ai (nI 1)), some (ai (nI (k + 1))), some (ai (nI 1)), some (ai (nI dk)), x23, x24, x25, x26, x27] [] σ) : WM mL_isSo Q 201 [some (ar 0), some (ar 79), some (ar 80), some (ar 81), some (ar (e + 0)), some (ar (e + 1)), some (ar (e + 2)), some (ar (e + 3)), some (ar (e + 4)), some (ar (e + 5)), some (ar (e + 6)), some (ai (nI L)), some (ai (nI M)), some (ai (-1000004)), some (ai v14), some (ai (nI o)), some (ai (nI q)), some (ai (nI w)), some (ai v18), some (ai (nI 1)), some (ai (nI k)), some (ai (nI 1)), some (ai (nI dk)), x23, x24, x25, x26, x27] [] σ := by
  refine g_aload_n (p0 := 202) (i := 0) dL_isSo_201 rfl rfl rfl ?_
  refine g_iload (p0 := 204) dL_isSo_202 rfl rfl ?_
  refine g_iconst (p0 := 205) (v := nI 0) dL_isSo_204 rfl rfl ?_
  refine g_cV2R (p0 := 208) (r1 := mX9_strokeOf) dL_isSo_205 lL_86 vX9_strokeOf (by first | rfl | assumption | exact RW.s (by assumption) | exact TW.s (by assumption)) ⟨_, _, rfl⟩ (FITi rfl rfl) (Nat.le_of_ble_eq_true rfl) (sO_c0 hs12 (by omega) hk h3) rfl ?_
  refine g_aload_n (p0 := 209) (i := 2) dL_isSo_208 rfl rfl rfl ?_
  refine g_iload (p0 := 211) dL_isSo_209 rfl rfl ?_
  first | ((with_reducible refine isN1 ?_); refine g_aldN (p0 := 212) dL_isSo_211 (by first | rfl | assumption | exact RW.s (by assumption) | exact TW.s (by assumption)) (by first | decide | assumption) (by omega) (by first | assumption | ((repeat (first | exact up_hit | (apply up_nv; omega) | (apply up_mv; omega))) <;> first | assumption | rfl)) rfl ?_) | refine g_ald (p0 := 212) dL_isSo_211 (by first | rfl | assumption | exact RW.s (by assumption) | exact TW.s (by assumption)) (by assumption) (by first | assumption | ((repeat (first | exact up_hit | (apply up_nv; omega) | (apply up_mv; omega))) <;> first | assumption | rfl)) rfl ?_
  first | ((with_reducible refine isN2 ?_); refine g_icmpN_ne (tgt := 402) (p1 := 215) dL_isSo_212 rfl (by omega) (by omega) rfl (fun c_212 => by exfalso; first | exact c_212 rfl | omega | contradiction) (fun c_212 => ?_)) | refine g_icmp_ne (tgt := 402) (p1 := 215) dL_isSo_212 rfl rfl (fun c_212 => by exfalso; first | exact c_212 rfl | omega | contradiction) (fun c_212 => ?_)
  refine g_aload_n (p0 := 216) (i := 0) dL_isSo_215 rfl rfl rfl ?_
  refine g_iload (p0 := 218) dL_isSo_216 rfl rfl ?_
  refine g_iconst (p0 := 219) (v := nI 1) dL_isSo_218 rfl rfl ?_
  refine g_cV2R (p0 := 222) (r1 := mX9_strokeOf) dL_isSo_219 lL_86 vX9_strokeOf (by first | rfl | assumption | exact RW.s (by assumption) | exact TW.s (by assumption)) ⟨_, _, rfl⟩ (FITi rfl rfl) (Nat.le_of_ble_eq_true rfl) (sO_c1z hs12 (by omega) hk h0) rfl ?_
  refine g_iload (p0 := 224) dL_isSo_222 rfl rfl ?_
  first | ((with_reducible refine isN1 ?_); refine g_ifN_eq (tgt := 232) (p1 := 227) dL_isSo_224 rfl (by omega) rfl (fun c_224 => by exfalso; first | exact c_224 rfl | omega | contradiction) (fun c_224 => ?_)) | refine g_if_eq (tgt := 232) (p1 := 227) dL_isSo_224 rfl rfl (fun c_224 => by exfalso; first | exact c_224 rfl | omega | contradiction) (fun c_224 => ?_)
  refine g_iload (p0 := 229) dL_isSo_227 rfl rfl ?_
  refine g_goto (tgt := 237) dL_isSo_229 rfl ?_
  first | ((with_reducible refine isN2 ?_); refine g_icmpN_ne (tgt := 402) (p1 := 240) dL_isSo_237 rfl (by omega) (by omega) rfl (fun c_237 => by exfalso; first | exact c_237 rfl | omega | contradiction) (fun c_237 => ?_)) | refine g_icmp_ne (tgt := 402) (p1 := 240) dL_isSo_237 rfl rfl (fun c_237 => by exfalso; first | exact c_237 rfl | omega | contradiction) (fun c_237 => ?_)
  refine g_aload_n (p0 := 241) (i := 0) dL_isSo_240 rfl rfl rfl ?_
  refine g_iload (p0 := 243) dL_isSo_241 rfl rfl ?_
  refine g_iconst (p0 := 244) (v := nI 2) dL_isSo_243 rfl rfl ?_
  refine g_cV2R (p0 := 247) (r1 := mX9_strokeOf) dL_isSo_244 lL_86 vX9_strokeOf (by first | rfl | assumption | exact RW.s (by assumption) | exact TW.s (by assumption)) ⟨_, _, rfl⟩ (FITi rfl rfl) (Nat.le_of_ble_eq_true rfl) (sO_c2z hs12 (by omega) hk h0) rfl ?_
  refine g_iload (p0 := 249) dL_isSo_247 rfl rfl ?_
  first | ((with_reducible refine isN1 ?_); refine g_ifN_eq (tgt := 257) (p1 := 252) dL_isSo_249 rfl (by omega) rfl (fun c_249 => by exfalso; first | exact c_249 rfl | omega | contradiction) (fun c_249 => ?_)) | refine g_if_eq (tgt := 257) (p1 := 252) dL_isSo_249 rfl rfl (fun c_249 => by exfalso; first | exact c_249 rfl | omega | contradiction) (fun c_249 => ?_)
  refine g_iload (p0 := 254) dL_isSo_252 rfl rfl ?_
  refine g_goto (tgt := 262) dL_isSo_254 rfl ?_
  first | ((with_reducible refine isN2 ?_); refine g_icmpN_ne (tgt := 402) (p1 := 265) dL_isSo_262 rfl (by omega) (by omega) rfl (fun c_262 => by exfalso; first | exact c_262 rfl | omega | contradiction) (fun c_262 => ?_)) | refine g_icmp_ne (tgt := 402) (p1 := 265) dL_isSo_262 rfl rfl (fun c_262 => by exfalso; first | exact c_262 rfl | omega | contradiction) (fun c_262 => ?_)
  refine g_aload_n (p0 := 266) (i := 0) dL_isSo_265 rfl rfl rfl ?_
  refine g_iload (p0 := 268) dL_isSo_266 rfl rfl ?_
  refine g_iconst (p0 := 269) (v := nI 3) dL_isSo_268 rfl rfl ?_
  refine g_cV2R (p0 := 272) (r1 := mX9_strokeOf) dL_isSo_269 lL_86 vX9_strokeOf (by first | rfl | assumption | exact RW.s (by assumption) | exact TW.s (by assumption)) ⟨_, _, rfl⟩ (FITi rfl rfl) (Nat.le_of_ble_eq_true rfl) (sO_c3z hs12 (by omega) hk h0) rfl ?_
  refine g_iload (p0 := 274) dL_isSo_272 rfl rfl ?_
  first | ((with_reducible refine isN1 ?_); refine g_ifN_eq (tgt := 282) (p1 := 277) dL_isSo_274 rfl (by omega) rfl (fun c_274 => by exfalso; first | exact c_274 rfl | omega | contradiction) (fun c_274 => ?_)) | refine g_if_eq (tgt := 282) (p1 := 277) dL_isSo_274 rfl rfl (fun c_274 => by exfalso; first | exact c_274 rfl | omega | contradiction) (fun c_274 => ?_)
  refine g_iload (p0 := 279) dL_isSo_277 rfl rfl ?_
  refine g_goto (tgt := 284) dL_isSo_279 rfl ?_
  first | ((with_reducible refine isN2 ?_); refine g_icmpN_ne (tgt := 402) (p1 := 287) dL_isSo_284 rfl (by omega) (by omega) rfl (fun c_284 => by exfalso; first | exact c_284 rfl | omega | contradiction) (fun c_284 => ?_)) | refine g_icmp_ne (tgt := 402) (p1 := 287) dL_isSo_284 rfl rfl (fun c_284 => by exfalso; first | exact c_284 rfl | omega | contradiction) (fun c_284 => ?_)
  refine g_aload_n (p0 := 288) (i := 0) dL_isSo_287 rfl rfl rfl ?_
  refine g_iload (p0 := 290) dL_isSo_288 rfl rfl ?_
  refine g_iconst (p0 := 291) (v := nI 4) dL_isSo_290 rfl rfl ?_
  refine g_cV2R (p0 := 294) (r1 := mX9_strokeOf) dL_isSo_291 lL_86 vX9_strokeOf (by first | rfl | assumption | exact RW.s (by assumption) | exact TW.s (by assumption)) ⟨_, _, rfl⟩ (FITi rfl rfl) (Nat.le_of_ble_eq_true rfl) (sO_c4 hs12 (by omega) hk h63 hx0 hx5 h67) rfl ?_
  refine g_aload (p0 := 296) dL_isSo_294 rfl rfl ?_
  refine g_iload (p0 := 298) dL_isSo_296 rfl rfl ?_
  refine g_aldX (p0 := 299) dL_isSo_298 (by repeat (first | assumption | refine XB.up (by omega) ?_)) ⟨rfl, by decide⟩ (by omega) (by first | assumption | ((repeat (first | exact up_hit | (apply up_nv; omega) | (apply up_mv; omega))) <;> first | assumption | rfl)) rfl ?_
  first | ((with_reducible refine isN1 ?_); refine g_ifN_ne (tgt := 307) (p1 := 302) dL_isSo_299 rfl (by omega) rfl (fun c_299 => ?_) (fun c_299 => by exfalso; first | exact c_299 rfl | omega | contradiction)) | refine g_if_ne (tgt := 307) (p1 := 302) dL_isSo_299 rfl rfl (fun c_299 => ?_) (fun c_299 => by exfalso; first | exact c_299 rfl | omega | contradiction)
  refine g_aload (p0 := 309) dL_isSo_307 rfl rfl ?_
  refine g_iload (p0 := 311) dL_isSo_309 rfl rfl ?_
  refine g_aldX (p0 := 312) dL_isSo_311 (by repeat (first | assumption | refine XB.up (by omega) ?_)) ⟨rfl, by decide⟩ (by omega) (by first | assumption | ((repeat (first | exact up_hit | (apply up_nv; omega) | (apply up_mv; omega))) <;> first | assumption | rfl)) rfl ?_
  first | ((with_reducible refine isN2 ?_); refine g_icmpN_ne (tgt := 402) (p1 := 315) dL_isSo_312 rfl (by omega) (by omega) rfl (fun c_312 => by exfalso; first | exact c_312 rfl | omega | contradiction) (fun c_312 => ?_)) | refine g_icmp_ne (tgt := 402) (p1 := 315) dL_isSo_312 rfl rfl (fun c_312 => by exfalso; first | exact c_312 rfl | omega | contradiction) (fun c_312 => ?_)
  refine g_aload_n (p0 := 316) (i := 0) dL_isSo_315 rfl rfl rfl ?_
  refine g_iload (p0 := 318) dL_isSo_316 rfl rfl ?_
  refine g_iconst (p0 := 319) (v := nI 5) dL_isSo_318 rfl rfl ?_
  refine g_cV2R (p0 := 322) (r1 := mX9_strokeOf) dL_isSo_319 lL_86 vX9_strokeOf (by first | rfl | assumption | exact RW.s (by assumption) | exact TW.s (by assumption)) ⟨_, _, rfl⟩ (FITi rfl rfl) (Nat.le_of_ble_eq_true rfl) (sO_c5 hs12 (by omega) hk h63 hx0 hx5 h69) rfl ?_
  refine g_aload (p0 := 324) dL_isSo_322 rfl rfl ?_
  refine g_iload (p0 := 326) dL_isSo_324 rfl rfl ?_
  refine g_aldX (p0 := 327) dL_isSo_326 (by repeat (first | assumption | refine XB.up (by omega) ?_)) ⟨rfl, by decide⟩ (by omega) (by first | assumption | ((repeat (first | exact up_hit | (apply up_nv; omega) | (apply up_mv; omega))) <;> first | assumption | rfl)) rfl ?_
  first | ((with_reducible refine isN1 ?_); refine g_ifN_ne (tgt := 335) (p1 := 330) dL_isSo_327 rfl (by omega) rfl (fun c_327 => ?_) (fun c_327 => by exfalso; first | exact c_327 rfl | omega | contradiction)) | refine g_if_ne (tgt := 335) (p1 := 330) dL_isSo_327 rfl rfl (fun c_327 => ?_) (fun c_327 => by exfalso; first | exact c_327 rfl | omega | contradiction)
  refine g_aload (p0 := 337) dL_isSo_335 rfl rfl ?_
  refine g_iload (p0 := 339) dL_isSo_337 rfl rfl ?_
  refine g_aldX (p0 := 340) dL_isSo_339 (by repeat (first | assumption | refine XB.up (by omega) ?_)) ⟨rfl, by decide⟩ (by omega) (by first | assumption | ((repeat (first | exact up_hit | (apply up_nv; omega) | (apply up_mv; omega))) <;> first | assumption | rfl)) rfl ?_
  refine g_aload (p0 := 342) dL_isSo_340 rfl rfl ?_
  refine g_iload (p0 := 344) dL_isSo_342 rfl rfl ?_
  refine g_aload (p0 := 346) dL_isSo_344 rfl rfl ?_
  refine g_iload (p0 := 348) dL_isSo_346 rfl rfl ?_
  refine g_aldX (p0 := 349) dL_isSo_348 (by repeat (first | assumption | refine XB.up (by omega) ?_)) ⟨rfl, by decide⟩ (by omega) (by first | assumption | ((repeat (first | exact up_hit | (apply up_nv; omega) | (apply up_mv; omega))) <;> first | assumption | rfl)) rfl ?_
  refine g_cS3R (p0 := 352) (r1 := mL_first) dL_isSo_349 (Or.inl lL_89) vL_first (FITi rfl rfl) (Nat.le_of_ble_eq_true rfl) (hfirst) rfl ?_
  first | ((with_reducible refine isN2 ?_); refine g_isubN (p0 := 353) dL_isSo_352 (by omega) rfl ?_) | refine g_isub (p0 := 353) dL_isSo_352 rfl ?_
  first | ((with_reducible refine isN2 ?_); refine g_icmpN_ne (tgt := 402) (p1 := 356) dL_isSo_353 rfl (by omega) (by omega) rfl (fun c_353 => by exfalso; first | exact c_353 rfl | omega | contradiction) (fun c_353 => ?_)) | refine g_icmp_ne (tgt := 402) (p1 := 356) dL_isSo_353 rfl rfl (fun c_353 => by exfalso; first | exact c_353 rfl | omega | contradiction) (fun c_353 => ?_)
  refine g_aload_n (p0 := 357) (i := 0) dL_isSo_356 rfl rfl rfl ?_
  refine g_iload (p0 := 359) dL_isSo_357 rfl rfl ?_
  refine g_bipush (p0 := 361) (v := nI 6) dL_isSo_359 (by decide) rfl ?_
  refine g_cV2R (p0 := 364) (r1 := mX9_strokeOf) dL_isSo_361 lL_86 vX9_strokeOf (by first | rfl | assumption | exact RW.s (by assumption) | exact TW.s (by assumption)) ⟨_, _, rfl⟩ (FITi rfl rfl) (Nat.le_of_ble_eq_true rfl) (sO_c6 hs12 (by omega) hk h63 hx0 hx5 h71) rfl ?_
  refine g_aload (p0 := 366) dL_isSo_364 rfl rfl ?_
  refine g_iload (p0 := 368) dL_isSo_366 rfl rfl ?_
  refine g_aldX (p0 := 369) dL_isSo_368 (by repeat (first | assumption | refine XB.up (by omega) ?_)) ⟨rfl, by decide⟩ (by omega) (by first | assumption | ((repeat (first | exact up_hit | (apply up_nv; omega) | (apply up_mv; omega))) <;> first | assumption | rfl)) rfl ?_
  first | ((with_reducible refine isN1 ?_); refine g_ifN_ne (tgt := 377) (p1 := 372) dL_isSo_369 rfl (by omega) rfl (fun c_369 => ?_) (fun c_369 => by exfalso; first | exact c_369 rfl | omega | contradiction)) | refine g_if_ne (tgt := 377) (p1 := 372) dL_isSo_369 rfl rfl (fun c_369 => ?_) (fun c_369 => by exfalso; first | exact c_369 rfl | omega | contradiction)
  refine g_aload (p0 := 379) dL_isSo_377 rfl rfl ?_
  refine g_iload (p0 := 381) dL_isSo_379 rfl rfl ?_
  refine g_aldX (p0 := 382) dL_isSo_381 (by repeat (first | assumption | refine XB.up (by omega) ?_)) ⟨rfl, by decide⟩ (by omega) (by first | assumption | ((repeat (first | exact up_hit | (apply up_nv; omega) | (apply up_mv; omega))) <;> first | assumption | rfl)) rfl ?_
  first | ((with_reducible refine isN2 ?_); refine g_icmpN_ne (tgt := 402) (p1 := 385) dL_isSo_382 rfl (by omega) (by omega) rfl (fun c_382 => by exfalso; first | exact c_382 rfl | omega | contradiction) (fun c_382 => ?_)) | refine g_icmp_ne (tgt := 402) (p1 := 385) dL_isSo_382 rfl rfl (fun c_382 => by exfalso; first | exact c_382 rfl | omega | contradiction) (fun c_382 => ?_)
  refine g_aload_n (p0 := 386) (i := 0) dL_isSo_385 rfl rfl rfl ?_
  refine g_iload (p0 := 388) dL_isSo_386 rfl rfl ?_
  refine g_bipush (p0 := 390) (v := nI 7) dL_isSo_388 (by decide) rfl ?_
  refine g_cV2R (p0 := 393) (r1 := mX9_strokeOf) dL_isSo_390 lL_86 vX9_strokeOf (by first | rfl | assumption | exact RW.s (by assumption) | exact TW.s (by assumption)) ⟨_, _, rfl⟩ (FITi rfl rfl) (Nat.le_of_ble_eq_true rfl) (sO_cc hs12 (by omega) hk (j := 7) (by decide) (by decide)) rfl ?_
  refine g_ldc (p0 := 395) dL_isSo_393 qL_51 rfl ?_
  first | ((with_reducible refine isN2 ?_); refine g_icmpN_ne (tgt := 402) (p1 := 398) dL_isSo_395 rfl (by omega) (by omega) rfl (fun c_395 => by exfalso; first | exact c_395 rfl | omega | contradiction) (fun c_395 => ?_)) | refine g_icmp_ne (tgt := 402) (p1 := 398) dL_isSo_395 rfl rfl (fun c_395 => by exfalso; first | exact c_395 rfl | omega | contradiction) (fun c_395 => ?_)
  refine g_iconst (p0 := 399) (v := nI 1) dL_isSo_398 rfl rfl ?_
  refine g_goto (tgt := 403) dL_isSo_399 rfl ?_
  refine g_istore (p0 := 405) (i := 19) (ls2 := [_, _, _, _, _, _, _, _, _, _, _, _, _, _, _, _, _, _, _, _, _, _, _, _, _, _, _, _]) dL_isSo_403 (Nat.le_of_ble_eq_true rfl) rfl rfl ?_
  first | refine g_iinc1 (p0 := 408) (ls2 := [_, _, _, _, _, _, _, _, _, _, _, _, _, _, _, _, _, _, _, _, _, _, _, _, _, _, _, _]) dL_isSo_405 rfl rfl rfl ?_ | refine g_iinc (p0 := 408) (ls2 := [_, _, _, _, _, _, _, _, _, _, _, _, _, _, _, _, _, _, _, _, _, _, _, _, _, _, _, _]) dL_isSo_405 rfl rfl rfl rfl ?_
  refine g_goto (tgt := 108) dL_isSo_408 rfl ?_
  exact next
set_option maxRecDepth 20000 in
set_option maxHeartbeats 2000000 in
theorem iB_n {e k s L M o q w x dk Mk : Nat} {tv gv v14 v18 : Int32} {σ : Sg} {Q : SP} {x23 x24 x25 x26 x27 : Option AV} (hB : XB σ e) (he : e + 7 ≤ 90000) (he2 : 82 ≤ e) (hk : k < s) (hs1 : s ≤ 60) (hs12 : σ 1 2 = nI s) (h3 : σ 3 k = tv) (h80 : σ 80 k = tv) (hc : σ (e + 0) k = nI x) (hx5 : x ≤ 5) (h1 : σ (e + 1) k = gv) (hm : σ (e + 2) k = nI Mk) (h63 : σ 63 k = nI x) (h65 : σ 65 k = nI dk) (hdk : dk ≤ 1) (hMk : Mk < 100) (hx : x = 0) (h0 : ¬ k = 0) (h61 : σ 61 k = gv) (next : WM mL_isSo Q 108 [some (ar 0), some (ar 79), some (ar 80), some (ar 81), some (ar (e + 0)), some (ar (e + 1)), some (ar (e + 2)), some (ar (e + 3)), some (ar (e + 4)), some (ar (e + 5)), some (ar (e + 6)), some (ai (nI L)), some (ai (nI M)), some (ai (-1000004)), some (ai v14), some (ai (nI o)), some (ai (nI q)), some (ai (nI w)), some (ai v18), some (ai (nI 1)), some (ai (nI (k + 1))), some (ai (nI 0)), some (ai (nI dk)), x23, x24, x25, x26, x27] [] σ) : WM mL_isSo Q 201 [some (ar 0), some (ar 79), some (ar 80), some (ar 81), some (ar (e + 0)), some (ar (e + 1)), some (ar (e + 2)), some (ar (e + 3)), some (ar (e + 4)), some (ar (e + 5)), some (ar (e + 6)), some (ai (nI L)), some (ai (nI M)), some (ai (-1000004)), some (ai v14), some (ai (nI o)), some (ai (nI q)), some (ai (nI w)), some (ai v18), some (ai (nI 1)), some (ai (nI k)), some (ai (nI 0)), some (ai (nI dk)), x23, x24, x25, x26, x27] [] σ := by
  subst hx
  refine g_aload_n (p0 := 202) (i := 0) dL_isSo_201 rfl rfl rfl ?_
  refine g_iload (p0 := 204) dL_isSo_202 rfl rfl ?_
  refine g_iconst (p0 := 205) (v := nI 0) dL_isSo_204 rfl rfl ?_
  refine g_cV2R (p0 := 208) (r1 := mX9_strokeOf) dL_isSo_205 lL_86 vX9_strokeOf (by first | rfl | assumption | exact RW.s (by assumption) | exact TW.s (by assumption)) ⟨_, _, rfl⟩ (FITi rfl rfl) (Nat.le_of_ble_eq_true rfl) (sO_c0 hs12 (by omega) hk h3) rfl ?_
  refine g_aload_n (p0 := 209) (i := 2) dL_isSo_208 rfl rfl rfl ?_
  refine g_iload (p0 := 211) dL_isSo_209 rfl rfl ?_
  first | ((with_reducible refine isN1 ?_); refine g_aldN (p0 := 212) dL_isSo_211 (by first | rfl | assumption | exact RW.s (by assumption) | exact TW.s (by assumption)) (by first | decide | assumption) (by omega) (by first | assumption | ((repeat (first | exact up_hit | (apply up_nv; omega) | (apply up_mv; omega))) <;> first | assumption | rfl)) rfl ?_) | refine g_ald (p0 := 212) dL_isSo_211 (by first | rfl | assumption | exact RW.s (by assumption) | exact TW.s (by assumption)) (by assumption) (by first | assumption | ((repeat (first | exact up_hit | (apply up_nv; omega) | (apply up_mv; omega))) <;> first | assumption | rfl)) rfl ?_
  first | ((with_reducible refine isN2 ?_); refine g_icmpN_ne (tgt := 402) (p1 := 215) dL_isSo_212 rfl (by omega) (by omega) rfl (fun c_212 => by exfalso; first | exact c_212 rfl | omega | contradiction) (fun c_212 => ?_)) | refine g_icmp_ne (tgt := 402) (p1 := 215) dL_isSo_212 rfl rfl (fun c_212 => by exfalso; first | exact c_212 rfl | omega | contradiction) (fun c_212 => ?_)
  refine g_aload_n (p0 := 216) (i := 0) dL_isSo_215 rfl rfl rfl ?_
  refine g_iload (p0 := 218) dL_isSo_216 rfl rfl ?_
  refine g_iconst (p0 := 219) (v := nI 1) dL_isSo_218 rfl rfl ?_
  refine g_cV2R (p0 := 222) (r1 := mX9_strokeOf) dL_isSo_219 lL_86 vX9_strokeOf (by first | rfl | assumption | exact RW.s (by assumption) | exact TW.s (by assumption)) ⟨_, _, rfl⟩ (FITi rfl rfl) (Nat.le_of_ble_eq_true rfl) (sO_c1 hs12 (by omega) hk h0 h61) rfl ?_
  refine g_iload (p0 := 224) dL_isSo_222 rfl rfl ?_
  first | ((with_reducible refine isN1 ?_); refine g_ifN_eq (tgt := 232) (p1 := 227) dL_isSo_224 rfl (by omega) rfl (fun c_224 => ?_) (fun c_224 => by exfalso; first | exact c_224 rfl | omega | contradiction)) | refine g_if_eq (tgt := 232) (p1 := 227) dL_isSo_224 rfl rfl (fun c_224 => ?_) (fun c_224 => by exfalso; first | exact c_224 rfl | omega | contradiction)
  refine g_aload (p0 := 234) dL_isSo_232 rfl rfl ?_
  refine g_iload (p0 := 236) dL_isSo_234 rfl rfl ?_
  refine g_aldX (p0 := 237) dL_isSo_236 (by repeat (first | assumption | refine XB.up (by omega) ?_)) ⟨rfl, by decide⟩ (by omega) (by first | assumption | ((repeat (first | exact up_hit | (apply up_nv; omega) | (apply up_mv; omega))) <;> first | assumption | rfl)) rfl ?_
  first | ((with_reducible refine isN2 ?_); refine g_icmpN_ne (tgt := 402) (p1 := 240) dL_isSo_237 rfl (by omega) (by omega) rfl (fun c_237 => by exfalso; first | exact c_237 rfl | omega | contradiction) (fun c_237 => ?_)) | refine g_icmp_ne (tgt := 402) (p1 := 240) dL_isSo_237 rfl rfl (fun c_237 => by exfalso; first | exact c_237 rfl | omega | contradiction) (fun c_237 => ?_)
  refine g_aload_n (p0 := 241) (i := 0) dL_isSo_240 rfl rfl rfl ?_
  refine g_iload (p0 := 243) dL_isSo_241 rfl rfl ?_
  refine g_iconst (p0 := 244) (v := nI 2) dL_isSo_243 rfl rfl ?_
  refine g_cV2R (p0 := 247) (r1 := mX9_strokeOf) dL_isSo_244 lL_86 vX9_strokeOf (by first | rfl | assumption | exact RW.s (by assumption) | exact TW.s (by assumption)) ⟨_, _, rfl⟩ (FITi rfl rfl) (Nat.le_of_ble_eq_true rfl) (sO_c2 hs12 (by omega) hk h0 h63) rfl ?_
  refine g_iload (p0 := 249) dL_isSo_247 rfl rfl ?_
  first | ((with_reducible refine isN1 ?_); refine g_ifN_eq (tgt := 257) (p1 := 252) dL_isSo_249 rfl (by omega) rfl (fun c_249 => ?_) (fun c_249 => by exfalso; first | exact c_249 rfl | omega | contradiction)) | refine g_if_eq (tgt := 257) (p1 := 252) dL_isSo_249 rfl rfl (fun c_249 => ?_) (fun c_249 => by exfalso; first | exact c_249 rfl | omega | contradiction)
  refine g_aload (p0 := 259) dL_isSo_257 rfl rfl ?_
  refine g_iload (p0 := 261) dL_isSo_259 rfl rfl ?_
  refine g_aldX (p0 := 262) dL_isSo_261 (by repeat (first | assumption | refine XB.up (by omega) ?_)) ⟨rfl, by decide⟩ (by omega) (by first | assumption | ((repeat (first | exact up_hit | (apply up_nv; omega) | (apply up_mv; omega))) <;> first | assumption | rfl)) rfl ?_
  first | ((with_reducible refine isN2 ?_); refine g_icmpN_ne (tgt := 402) (p1 := 265) dL_isSo_262 rfl (by omega) (by omega) rfl (fun c_262 => by exfalso; first | exact c_262 rfl | omega | contradiction) (fun c_262 => ?_)) | refine g_icmp_ne (tgt := 402) (p1 := 265) dL_isSo_262 rfl rfl (fun c_262 => by exfalso; first | exact c_262 rfl | omega | contradiction) (fun c_262 => ?_)
  refine g_aload_n (p0 := 266) (i := 0) dL_isSo_265 rfl rfl rfl ?_
  refine g_iload (p0 := 268) dL_isSo_266 rfl rfl ?_
  refine g_iconst (p0 := 269) (v := nI 3) dL_isSo_268 rfl rfl ?_
  refine g_cV2R (p0 := 272) (r1 := mX9_strokeOf) dL_isSo_269 lL_86 vX9_strokeOf (by first | rfl | assumption | exact RW.s (by assumption) | exact TW.s (by assumption)) ⟨_, _, rfl⟩ (FITi rfl rfl) (Nat.le_of_ble_eq_true rfl) (sO_c3 hs12 (by omega) hk h0 h65) rfl ?_
  refine g_iload (p0 := 274) dL_isSo_272 rfl rfl ?_
  first | ((with_reducible refine isN1 ?_); refine g_ifN_eq (tgt := 282) (p1 := 277) dL_isSo_274 rfl (by omega) rfl (fun c_274 => ?_) (fun c_274 => by exfalso; first | exact c_274 rfl | omega | contradiction)) | refine g_if_eq (tgt := 282) (p1 := 277) dL_isSo_274 rfl rfl (fun c_274 => ?_) (fun c_274 => by exfalso; first | exact c_274 rfl | omega | contradiction)
  refine g_iload (p0 := 284) dL_isSo_282 rfl rfl ?_
  first | ((with_reducible refine isN2 ?_); refine g_icmpN_ne (tgt := 402) (p1 := 287) dL_isSo_284 rfl (by omega) (by omega) rfl (fun c_284 => by exfalso; first | exact c_284 rfl | omega | contradiction) (fun c_284 => ?_)) | refine g_icmp_ne (tgt := 402) (p1 := 287) dL_isSo_284 rfl rfl (fun c_284 => by exfalso; first | exact c_284 rfl | omega | contradiction) (fun c_284 => ?_)
  refine g_aload_n (p0 := 288) (i := 0) dL_isSo_287 rfl rfl rfl ?_
  refine g_iload (p0 := 290) dL_isSo_288 rfl rfl ?_
  refine g_iconst (p0 := 291) (v := nI 4) dL_isSo_290 rfl rfl ?_
  refine g_cV2R (p0 := 294) (r1 := mX9_strokeOf) dL_isSo_291 lL_86 vX9_strokeOf (by first | rfl | assumption | exact RW.s (by assumption) | exact TW.s (by assumption)) ⟨_, _, rfl⟩ (FITi rfl rfl) (Nat.le_of_ble_eq_true rfl) (sO_c4z hs12 (by omega) hk h63) rfl ?_
  refine g_aload (p0 := 296) dL_isSo_294 rfl rfl ?_
  refine g_iload (p0 := 298) dL_isSo_296 rfl rfl ?_
  refine g_aldX (p0 := 299) dL_isSo_298 (by repeat (first | assumption | refine XB.up (by omega) ?_)) ⟨rfl, by decide⟩ (by omega) (by first | assumption | ((repeat (first | exact up_hit | (apply up_nv; omega) | (apply up_mv; omega))) <;> first | assumption | rfl)) rfl ?_
  first | ((with_reducible refine isN1 ?_); refine g_ifN_ne (tgt := 307) (p1 := 302) dL_isSo_299 rfl (by omega) rfl (fun c_299 => by exfalso; first | exact c_299 rfl | omega | contradiction) (fun c_299 => ?_)) | refine g_if_ne (tgt := 307) (p1 := 302) dL_isSo_299 rfl rfl (fun c_299 => by exfalso; first | exact c_299 rfl | omega | contradiction) (fun c_299 => ?_)
  refine g_iload (p0 := 304) dL_isSo_302 rfl rfl ?_
  refine g_goto (tgt := 312) dL_isSo_304 rfl ?_
  first | ((with_reducible refine isN2 ?_); refine g_icmpN_ne (tgt := 402) (p1 := 315) dL_isSo_312 rfl (by omega) (by omega) rfl (fun c_312 => by exfalso; first | exact c_312 rfl | omega | contradiction) (fun c_312 => ?_)) | refine g_icmp_ne (tgt := 402) (p1 := 315) dL_isSo_312 rfl rfl (fun c_312 => by exfalso; first | exact c_312 rfl | omega | contradiction) (fun c_312 => ?_)
  refine g_aload_n (p0 := 316) (i := 0) dL_isSo_315 rfl rfl rfl ?_
  refine g_iload (p0 := 318) dL_isSo_316 rfl rfl ?_
  refine g_iconst (p0 := 319) (v := nI 5) dL_isSo_318 rfl rfl ?_
  refine g_cV2R (p0 := 322) (r1 := mX9_strokeOf) dL_isSo_319 lL_86 vX9_strokeOf (by first | rfl | assumption | exact RW.s (by assumption) | exact TW.s (by assumption)) ⟨_, _, rfl⟩ (FITi rfl rfl) (Nat.le_of_ble_eq_true rfl) (sO_c5z hs12 (by omega) hk h63) rfl ?_
  refine g_aload (p0 := 324) dL_isSo_322 rfl rfl ?_
  refine g_iload (p0 := 326) dL_isSo_324 rfl rfl ?_
  refine g_aldX (p0 := 327) dL_isSo_326 (by repeat (first | assumption | refine XB.up (by omega) ?_)) ⟨rfl, by decide⟩ (by omega) (by first | assumption | ((repeat (first | exact up_hit | (apply up_nv; omega) | (apply up_mv; omega))) <;> first | assumption | rfl)) rfl ?_
  first | ((with_reducible refine isN1 ?_); refine g_ifN_ne (tgt := 335) (p1 := 330) dL_isSo_327 rfl (by omega) rfl (fun c_327 => by exfalso; first | exact c_327 rfl | omega | contradiction) (fun c_327 => ?_)) | refine g_if_ne (tgt := 335) (p1 := 330) dL_isSo_327 rfl rfl (fun c_327 => by exfalso; first | exact c_327 rfl | omega | contradiction) (fun c_327 => ?_)
  refine g_iload (p0 := 332) dL_isSo_330 rfl rfl ?_
  refine g_goto (tgt := 353) dL_isSo_332 rfl ?_
  first | ((with_reducible refine isN2 ?_); refine g_icmpN_ne (tgt := 402) (p1 := 356) dL_isSo_353 rfl (by omega) (by omega) rfl (fun c_353 => by exfalso; first | exact c_353 rfl | omega | contradiction) (fun c_353 => ?_)) | refine g_icmp_ne (tgt := 402) (p1 := 356) dL_isSo_353 rfl rfl (fun c_353 => by exfalso; first | exact c_353 rfl | omega | contradiction) (fun c_353 => ?_)
  refine g_aload_n (p0 := 357) (i := 0) dL_isSo_356 rfl rfl rfl ?_
  refine g_iload (p0 := 359) dL_isSo_357 rfl rfl ?_
  refine g_bipush (p0 := 361) (v := nI 6) dL_isSo_359 (by decide) rfl ?_
  refine g_cV2R (p0 := 364) (r1 := mX9_strokeOf) dL_isSo_361 lL_86 vX9_strokeOf (by first | rfl | assumption | exact RW.s (by assumption) | exact TW.s (by assumption)) ⟨_, _, rfl⟩ (FITi rfl rfl) (Nat.le_of_ble_eq_true rfl) (sO_c6z hs12 (by omega) hk h63) rfl ?_
  refine g_aload (p0 := 366) dL_isSo_364 rfl rfl ?_
  refine g_iload (p0 := 368) dL_isSo_366 rfl rfl ?_
  refine g_aldX (p0 := 369) dL_isSo_368 (by repeat (first | assumption | refine XB.up (by omega) ?_)) ⟨rfl, by decide⟩ (by omega) (by first | assumption | ((repeat (first | exact up_hit | (apply up_nv; omega) | (apply up_mv; omega))) <;> first | assumption | rfl)) rfl ?_
  first | ((with_reducible refine isN1 ?_); refine g_ifN_ne (tgt := 377) (p1 := 372) dL_isSo_369 rfl (by omega) rfl (fun c_369 => by exfalso; first | exact c_369 rfl | omega | contradiction) (fun c_369 => ?_)) | refine g_if_ne (tgt := 377) (p1 := 372) dL_isSo_369 rfl rfl (fun c_369 => by exfalso; first | exact c_369 rfl | omega | contradiction) (fun c_369 => ?_)
  refine g_iload (p0 := 374) dL_isSo_372 rfl rfl ?_
  refine g_goto (tgt := 382) dL_isSo_374 rfl ?_
  first | ((with_reducible refine isN2 ?_); refine g_icmpN_ne (tgt := 402) (p1 := 385) dL_isSo_382 rfl (by omega) (by omega) rfl (fun c_382 => by exfalso; first | exact c_382 rfl | omega | contradiction) (fun c_382 => ?_)) | refine g_icmp_ne (tgt := 402) (p1 := 385) dL_isSo_382 rfl rfl (fun c_382 => by exfalso; first | exact c_382 rfl | omega | contradiction) (fun c_382 => ?_)
  refine g_aload_n (p0 := 386) (i := 0) dL_isSo_385 rfl rfl rfl ?_
  refine g_iload (p0 := 388) dL_isSo_386 rfl rfl ?_
  refine g_bipush (p0 := 390) (v := nI 7) dL_isSo_388 (by decide) rfl ?_
  refine g_cV2R (p0 := 393) (r1 := mX9_strokeOf) dL_isSo_390 lL_86 vX9_strokeOf (by first | rfl | assumption | exact RW.s (by assumption) | exact TW.s (by assumption)) ⟨_, _, rfl⟩ (FITi rfl rfl) (Nat.le_of_ble_eq_true rfl) (sO_cc hs12 (by omega) hk (j := 7) (by decide) (by decide)) rfl ?_
  refine g_ldc (p0 := 395) dL_isSo_393 qL_51 rfl ?_
  first | ((with_reducible refine isN2 ?_); refine g_icmpN_ne (tgt := 402) (p1 := 398) dL_isSo_395 rfl (by omega) (by omega) rfl (fun c_395 => by exfalso; first | exact c_395 rfl | omega | contradiction) (fun c_395 => ?_)) | refine g_icmp_ne (tgt := 402) (p1 := 398) dL_isSo_395 rfl rfl (fun c_395 => by exfalso; first | exact c_395 rfl | omega | contradiction) (fun c_395 => ?_)
  refine g_iconst (p0 := 399) (v := nI 1) dL_isSo_398 rfl rfl ?_
  refine g_goto (tgt := 403) dL_isSo_399 rfl ?_
  refine g_istore (p0 := 405) (i := 19) (ls2 := [_, _, _, _, _, _, _, _, _, _, _, _, _, _, _, _, _, _, _, _, _, _, _, _, _, _, _, _]) dL_isSo_403 (Nat.le_of_ble_eq_true rfl) rfl rfl ?_
  first | refine g_iinc1 (p0 := 408) (ls2 := [_, _, _, _, _, _, _, _, _, _, _, _, _, _, _, _, _, _, _, _, _, _, _, _, _, _, _, _]) dL_isSo_405 rfl rfl rfl ?_ | refine g_iinc (p0 := 408) (ls2 := [_, _, _, _, _, _, _, _, _, _, _, _, _, _, _, _, _, _, _, _, _, _, _, _, _, _, _, _]) dL_isSo_405 rfl rfl rfl rfl ?_
  refine g_goto (tgt := 108) dL_isSo_408 rfl ?_
  exact next
set_option maxRecDepth 20000 in
set_option maxHeartbeats 2000000 in
theorem iB_p {e k s L M o q w x dk Mk : Nat} {tv gv v14 v18 : Int32} {σ : Sg} {Q : SP} {x23 x24 x25 x26 x27 : Option AV} (hB : XB σ e) (he : e + 7 ≤ 90000) (he2 : 82 ≤ e) (hk : k < s) (hs1 : s ≤ 60) (hs12 : σ 1 2 = nI s) (h3 : σ 3 k = tv) (h80 : σ 80 k = tv) (hc : σ (e + 0) k = nI x) (hx5 : x ≤ 5) (h1 : σ (e + 1) k = gv) (hm : σ (e + 2) k = nI Mk) (h63 : σ 63 k = nI x) (h65 : σ 65 k = nI dk) (hdk : dk ≤ 1) (hMk : Mk < 100) (hx0 : 0 < x) {Lk gk fq : Nat} (hl : σ (e + 3) k = nI Lk) (hq : σ (e + 4) k = nI gk) (h67 : σ 67 k = nI Mk) (h69 : σ 69 k = nI (Lk - fq)) (h71 : σ 71 k = nI gk) (hqL : fq ≤ Lk) (hLk : Lk < 100) (hgk : gk < 100) (hfirst : CM mL_first [ar (e + 5), ai (nI L), ai (nI Mk)] σ (Ret (nI fq) σ)) (h0 : ¬ k = 0) (h61 : σ 61 k = gv) (next : WM mL_isSo Q 108 [some (ar 0), some (ar 79), some (ar 80), some (ar 81), some (ar (e + 0)), some (ar (e + 1)), some (ar (e + 2)), some (ar (e + 3)), some (ar (e + 4)), some (ar (e + 5)), some (ar (e + 6)), some (ai (nI L)), some (ai (nI M)), some (ai (-1000004)), some (ai v14), some (ai (nI o)), some (ai (nI q)), some (ai (nI w)), some (ai v18), some (ai (nI 1)), some (ai (nI (k + 1))), some (ai (nI 0)), some (ai (nI dk)), x23, x24, x25, x26, x27] [] σ) : WM mL_isSo Q 201 [some (ar 0), some (ar 79), some (ar 80), some (ar 81), some (ar (e + 0)), some (ar (e + 1)), some (ar (e + 2)), some (ar (e + 3)), some (ar (e + 4)), some (ar (e + 5)), some (ar (e + 6)), some (ai (nI L)), some (ai (nI M)), some (ai (-1000004)), some (ai v14), some (ai (nI o)), some (ai (nI q)), some (ai (nI w)), some (ai v18), some (ai (nI 1)), some (ai (nI k)), some (ai (nI 0)), some (ai (nI dk)), x23, x24, x25, x26, x27] [] σ := by
  refine g_aload_n (p0 := 202) (i := 0) dL_isSo_201 rfl rfl rfl ?_
  refine g_iload (p0 := 204) dL_isSo_202 rfl rfl ?_
  refine g_iconst (p0 := 205) (v := nI 0) dL_isSo_204 rfl rfl ?_
  refine g_cV2R (p0 := 208) (r1 := mX9_strokeOf) dL_isSo_205 lL_86 vX9_strokeOf (by first | rfl | assumption | exact RW.s (by assumption) | exact TW.s (by assumption)) ⟨_, _, rfl⟩ (FITi rfl rfl) (Nat.le_of_ble_eq_true rfl) (sO_c0 hs12 (by omega) hk h3) rfl ?_
  refine g_aload_n (p0 := 209) (i := 2) dL_isSo_208 rfl rfl rfl ?_
  refine g_iload (p0 := 211) dL_isSo_209 rfl rfl ?_
  first | ((with_reducible refine isN1 ?_); refine g_aldN (p0 := 212) dL_isSo_211 (by first | rfl | assumption | exact RW.s (by assumption) | exact TW.s (by assumption)) (by first | decide | assumption) (by omega) (by first | assumption | ((repeat (first | exact up_hit | (apply up_nv; omega) | (apply up_mv; omega))) <;> first | assumption | rfl)) rfl ?_) | refine g_ald (p0 := 212) dL_isSo_211 (by first | rfl | assumption | exact RW.s (by assumption) | exact TW.s (by assumption)) (by assumption) (by first | assumption | ((repeat (first | exact up_hit | (apply up_nv; omega) | (apply up_mv; omega))) <;> first | assumption | rfl)) rfl ?_
  first | ((with_reducible refine isN2 ?_); refine g_icmpN_ne (tgt := 402) (p1 := 215) dL_isSo_212 rfl (by omega) (by omega) rfl (fun c_212 => by exfalso; first | exact c_212 rfl | omega | contradiction) (fun c_212 => ?_)) | refine g_icmp_ne (tgt := 402) (p1 := 215) dL_isSo_212 rfl rfl (fun c_212 => by exfalso; first | exact c_212 rfl | omega | contradiction) (fun c_212 => ?_)
  refine g_aload_n (p0 := 216) (i := 0) dL_isSo_215 rfl rfl rfl ?_
  refine g_iload (p0 := 218) dL_isSo_216 rfl rfl ?_
  refine g_iconst (p0 := 219) (v := nI 1) dL_isSo_218 rfl rfl ?_
  refine g_cV2R (p0 := 222) (r1 := mX9_strokeOf) dL_isSo_219 lL_86 vX9_strokeOf (by first | rfl | assumption | exact RW.s (by assumption) | exact TW.s (by assumption)) ⟨_, _, rfl⟩ (FITi rfl rfl) (Nat.le_of_ble_eq_true rfl) (sO_c1 hs12 (by omega) hk h0 h61) rfl ?_
  refine g_iload (p0 := 224) dL_isSo_222 rfl rfl ?_
  first | ((with_reducible refine isN1 ?_); refine g_ifN_eq (tgt := 232) (p1 := 227) dL_isSo_224 rfl (by omega) rfl (fun c_224 => ?_) (fun c_224 => by exfalso; first | exact c_224 rfl | omega | contradiction)) | refine g_if_eq (tgt := 232) (p1 := 227) dL_isSo_224 rfl rfl (fun c_224 => ?_) (fun c_224 => by exfalso; first | exact c_224 rfl | omega | contradiction)
  refine g_aload (p0 := 234) dL_isSo_232 rfl rfl ?_
  refine g_iload (p0 := 236) dL_isSo_234 rfl rfl ?_
  refine g_aldX (p0 := 237) dL_isSo_236 (by repeat (first | assumption | refine XB.up (by omega) ?_)) ⟨rfl, by decide⟩ (by omega) (by first | assumption | ((repeat (first | exact up_hit | (apply up_nv; omega) | (apply up_mv; omega))) <;> first | assumption | rfl)) rfl ?_
  first | ((with_reducible refine isN2 ?_); refine g_icmpN_ne (tgt := 402) (p1 := 240) dL_isSo_237 rfl (by omega) (by omega) rfl (fun c_237 => by exfalso; first | exact c_237 rfl | omega | contradiction) (fun c_237 => ?_)) | refine g_icmp_ne (tgt := 402) (p1 := 240) dL_isSo_237 rfl rfl (fun c_237 => by exfalso; first | exact c_237 rfl | omega | contradiction) (fun c_237 => ?_)
  refine g_aload_n (p0 := 241) (i := 0) dL_isSo_240 rfl rfl rfl ?_
  refine g_iload (p0 := 243) dL_isSo_241 rfl rfl ?_
  refine g_iconst (p0 := 244) (v := nI 2) dL_isSo_243 rfl rfl ?_
  refine g_cV2R (p0 := 247) (r1 := mX9_strokeOf) dL_isSo_244 lL_86 vX9_strokeOf (by first | rfl | assumption | exact RW.s (by assumption) | exact TW.s (by assumption)) ⟨_, _, rfl⟩ (FITi rfl rfl) (Nat.le_of_ble_eq_true rfl) (sO_c2 hs12 (by omega) hk h0 h63) rfl ?_
  refine g_iload (p0 := 249) dL_isSo_247 rfl rfl ?_
  first | ((with_reducible refine isN1 ?_); refine g_ifN_eq (tgt := 257) (p1 := 252) dL_isSo_249 rfl (by omega) rfl (fun c_249 => ?_) (fun c_249 => by exfalso; first | exact c_249 rfl | omega | contradiction)) | refine g_if_eq (tgt := 257) (p1 := 252) dL_isSo_249 rfl rfl (fun c_249 => ?_) (fun c_249 => by exfalso; first | exact c_249 rfl | omega | contradiction)
  refine g_aload (p0 := 259) dL_isSo_257 rfl rfl ?_
  refine g_iload (p0 := 261) dL_isSo_259 rfl rfl ?_
  refine g_aldX (p0 := 262) dL_isSo_261 (by repeat (first | assumption | refine XB.up (by omega) ?_)) ⟨rfl, by decide⟩ (by omega) (by first | assumption | ((repeat (first | exact up_hit | (apply up_nv; omega) | (apply up_mv; omega))) <;> first | assumption | rfl)) rfl ?_
  first | ((with_reducible refine isN2 ?_); refine g_icmpN_ne (tgt := 402) (p1 := 265) dL_isSo_262 rfl (by omega) (by omega) rfl (fun c_262 => by exfalso; first | exact c_262 rfl | omega | contradiction) (fun c_262 => ?_)) | refine g_icmp_ne (tgt := 402) (p1 := 265) dL_isSo_262 rfl rfl (fun c_262 => by exfalso; first | exact c_262 rfl | omega | contradiction) (fun c_262 => ?_)
  refine g_aload_n (p0 := 266) (i := 0) dL_isSo_265 rfl rfl rfl ?_
  refine g_iload (p0 := 268) dL_isSo_266 rfl rfl ?_
  refine g_iconst (p0 := 269) (v := nI 3) dL_isSo_268 rfl rfl ?_
  refine g_cV2R (p0 := 272) (r1 := mX9_strokeOf) dL_isSo_269 lL_86 vX9_strokeOf (by first | rfl | assumption | exact RW.s (by assumption) | exact TW.s (by assumption)) ⟨_, _, rfl⟩ (FITi rfl rfl) (Nat.le_of_ble_eq_true rfl) (sO_c3 hs12 (by omega) hk h0 h65) rfl ?_
  refine g_iload (p0 := 274) dL_isSo_272 rfl rfl ?_
  first | ((with_reducible refine isN1 ?_); refine g_ifN_eq (tgt := 282) (p1 := 277) dL_isSo_274 rfl (by omega) rfl (fun c_274 => ?_) (fun c_274 => by exfalso; first | exact c_274 rfl | omega | contradiction)) | refine g_if_eq (tgt := 282) (p1 := 277) dL_isSo_274 rfl rfl (fun c_274 => ?_) (fun c_274 => by exfalso; first | exact c_274 rfl | omega | contradiction)
  refine g_iload (p0 := 284) dL_isSo_282 rfl rfl ?_
  first | ((with_reducible refine isN2 ?_); refine g_icmpN_ne (tgt := 402) (p1 := 287) dL_isSo_284 rfl (by omega) (by omega) rfl (fun c_284 => by exfalso; first | exact c_284 rfl | omega | contradiction) (fun c_284 => ?_)) | refine g_icmp_ne (tgt := 402) (p1 := 287) dL_isSo_284 rfl rfl (fun c_284 => by exfalso; first | exact c_284 rfl | omega | contradiction) (fun c_284 => ?_)
  refine g_aload_n (p0 := 288) (i := 0) dL_isSo_287 rfl rfl rfl ?_
  refine g_iload (p0 := 290) dL_isSo_288 rfl rfl ?_
  refine g_iconst (p0 := 291) (v := nI 4) dL_isSo_290 rfl rfl ?_
  refine g_cV2R (p0 := 294) (r1 := mX9_strokeOf) dL_isSo_291 lL_86 vX9_strokeOf (by first | rfl | assumption | exact RW.s (by assumption) | exact TW.s (by assumption)) ⟨_, _, rfl⟩ (FITi rfl rfl) (Nat.le_of_ble_eq_true rfl) (sO_c4 hs12 (by omega) hk h63 hx0 hx5 h67) rfl ?_
  refine g_aload (p0 := 296) dL_isSo_294 rfl rfl ?_
  refine g_iload (p0 := 298) dL_isSo_296 rfl rfl ?_
  refine g_aldX (p0 := 299) dL_isSo_298 (by repeat (first | assumption | refine XB.up (by omega) ?_)) ⟨rfl, by decide⟩ (by omega) (by first | assumption | ((repeat (first | exact up_hit | (apply up_nv; omega) | (apply up_mv; omega))) <;> first | assumption | rfl)) rfl ?_
  first | ((with_reducible refine isN1 ?_); refine g_ifN_ne (tgt := 307) (p1 := 302) dL_isSo_299 rfl (by omega) rfl (fun c_299 => ?_) (fun c_299 => by exfalso; first | exact c_299 rfl | omega | contradiction)) | refine g_if_ne (tgt := 307) (p1 := 302) dL_isSo_299 rfl rfl (fun c_299 => ?_) (fun c_299 => by exfalso; first | exact c_299 rfl | omega | contradiction)
  refine g_aload (p0 := 309) dL_isSo_307 rfl rfl ?_
  refine g_iload (p0 := 311) dL_isSo_309 rfl rfl ?_
  refine g_aldX (p0 := 312) dL_isSo_311 (by repeat (first | assumption | refine XB.up (by omega) ?_)) ⟨rfl, by decide⟩ (by omega) (by first | assumption | ((repeat (first | exact up_hit | (apply up_nv; omega) | (apply up_mv; omega))) <;> first | assumption | rfl)) rfl ?_
  first | ((with_reducible refine isN2 ?_); refine g_icmpN_ne (tgt := 402) (p1 := 315) dL_isSo_312 rfl (by omega) (by omega) rfl (fun c_312 => by exfalso; first | exact c_312 rfl | omega | contradiction) (fun c_312 => ?_)) | refine g_icmp_ne (tgt := 402) (p1 := 315) dL_isSo_312 rfl rfl (fun c_312 => by exfalso; first | exact c_312 rfl | omega | contradiction) (fun c_312 => ?_)
  refine g_aload_n (p0 := 316) (i := 0) dL_isSo_315 rfl rfl rfl ?_
  refine g_iload (p0 := 318) dL_isSo_316 rfl rfl ?_
  refine g_iconst (p0 := 319) (v := nI 5) dL_isSo_318 rfl rfl ?_
  refine g_cV2R (p0 := 322) (r1 := mX9_strokeOf) dL_isSo_319 lL_86 vX9_strokeOf (by first | rfl | assumption | exact RW.s (by assumption) | exact TW.s (by assumption)) ⟨_, _, rfl⟩ (FITi rfl rfl) (Nat.le_of_ble_eq_true rfl) (sO_c5 hs12 (by omega) hk h63 hx0 hx5 h69) rfl ?_
  refine g_aload (p0 := 324) dL_isSo_322 rfl rfl ?_
  refine g_iload (p0 := 326) dL_isSo_324 rfl rfl ?_
  refine g_aldX (p0 := 327) dL_isSo_326 (by repeat (first | assumption | refine XB.up (by omega) ?_)) ⟨rfl, by decide⟩ (by omega) (by first | assumption | ((repeat (first | exact up_hit | (apply up_nv; omega) | (apply up_mv; omega))) <;> first | assumption | rfl)) rfl ?_
  first | ((with_reducible refine isN1 ?_); refine g_ifN_ne (tgt := 335) (p1 := 330) dL_isSo_327 rfl (by omega) rfl (fun c_327 => ?_) (fun c_327 => by exfalso; first | exact c_327 rfl | omega | contradiction)) | refine g_if_ne (tgt := 335) (p1 := 330) dL_isSo_327 rfl rfl (fun c_327 => ?_) (fun c_327 => by exfalso; first | exact c_327 rfl | omega | contradiction)
  refine g_aload (p0 := 337) dL_isSo_335 rfl rfl ?_
  refine g_iload (p0 := 339) dL_isSo_337 rfl rfl ?_
  refine g_aldX (p0 := 340) dL_isSo_339 (by repeat (first | assumption | refine XB.up (by omega) ?_)) ⟨rfl, by decide⟩ (by omega) (by first | assumption | ((repeat (first | exact up_hit | (apply up_nv; omega) | (apply up_mv; omega))) <;> first | assumption | rfl)) rfl ?_
  refine g_aload (p0 := 342) dL_isSo_340 rfl rfl ?_
  refine g_iload (p0 := 344) dL_isSo_342 rfl rfl ?_
  refine g_aload (p0 := 346) dL_isSo_344 rfl rfl ?_
  refine g_iload (p0 := 348) dL_isSo_346 rfl rfl ?_
  refine g_aldX (p0 := 349) dL_isSo_348 (by repeat (first | assumption | refine XB.up (by omega) ?_)) ⟨rfl, by decide⟩ (by omega) (by first | assumption | ((repeat (first | exact up_hit | (apply up_nv; omega) | (apply up_mv; omega))) <;> first | assumption | rfl)) rfl ?_
  refine g_cS3R (p0 := 352) (r1 := mL_first) dL_isSo_349 (Or.inl lL_89) vL_first (FITi rfl rfl) (Nat.le_of_ble_eq_true rfl) (hfirst) rfl ?_
  first | ((with_reducible refine isN2 ?_); refine g_isubN (p0 := 353) dL_isSo_352 (by omega) rfl ?_) | refine g_isub (p0 := 353) dL_isSo_352 rfl ?_
  first | ((with_reducible refine isN2 ?_); refine g_icmpN_ne (tgt := 402) (p1 := 356) dL_isSo_353 rfl (by omega) (by omega) rfl (fun c_353 => by exfalso; first | exact c_353 rfl | omega | contradiction) (fun c_353 => ?_)) | refine g_icmp_ne (tgt := 402) (p1 := 356) dL_isSo_353 rfl rfl (fun c_353 => by exfalso; first | exact c_353 rfl | omega | contradiction) (fun c_353 => ?_)
  refine g_aload_n (p0 := 357) (i := 0) dL_isSo_356 rfl rfl rfl ?_
  refine g_iload (p0 := 359) dL_isSo_357 rfl rfl ?_
  refine g_bipush (p0 := 361) (v := nI 6) dL_isSo_359 (by decide) rfl ?_
  refine g_cV2R (p0 := 364) (r1 := mX9_strokeOf) dL_isSo_361 lL_86 vX9_strokeOf (by first | rfl | assumption | exact RW.s (by assumption) | exact TW.s (by assumption)) ⟨_, _, rfl⟩ (FITi rfl rfl) (Nat.le_of_ble_eq_true rfl) (sO_c6 hs12 (by omega) hk h63 hx0 hx5 h71) rfl ?_
  refine g_aload (p0 := 366) dL_isSo_364 rfl rfl ?_
  refine g_iload (p0 := 368) dL_isSo_366 rfl rfl ?_
  refine g_aldX (p0 := 369) dL_isSo_368 (by repeat (first | assumption | refine XB.up (by omega) ?_)) ⟨rfl, by decide⟩ (by omega) (by first | assumption | ((repeat (first | exact up_hit | (apply up_nv; omega) | (apply up_mv; omega))) <;> first | assumption | rfl)) rfl ?_
  first | ((with_reducible refine isN1 ?_); refine g_ifN_ne (tgt := 377) (p1 := 372) dL_isSo_369 rfl (by omega) rfl (fun c_369 => ?_) (fun c_369 => by exfalso; first | exact c_369 rfl | omega | contradiction)) | refine g_if_ne (tgt := 377) (p1 := 372) dL_isSo_369 rfl rfl (fun c_369 => ?_) (fun c_369 => by exfalso; first | exact c_369 rfl | omega | contradiction)
  refine g_aload (p0 := 379) dL_isSo_377 rfl rfl ?_
  refine g_iload (p0 := 381) dL_isSo_379 rfl rfl ?_
  refine g_aldX (p0 := 382) dL_isSo_381 (by repeat (first | assumption | refine XB.up (by omega) ?_)) ⟨rfl, by decide⟩ (by omega) (by first | assumption | ((repeat (first | exact up_hit | (apply up_nv; omega) | (apply up_mv; omega))) <;> first | assumption | rfl)) rfl ?_
  first | ((with_reducible refine isN2 ?_); refine g_icmpN_ne (tgt := 402) (p1 := 385) dL_isSo_382 rfl (by omega) (by omega) rfl (fun c_382 => by exfalso; first | exact c_382 rfl | omega | contradiction) (fun c_382 => ?_)) | refine g_icmp_ne (tgt := 402) (p1 := 385) dL_isSo_382 rfl rfl (fun c_382 => by exfalso; first | exact c_382 rfl | omega | contradiction) (fun c_382 => ?_)
  refine g_aload_n (p0 := 386) (i := 0) dL_isSo_385 rfl rfl rfl ?_
  refine g_iload (p0 := 388) dL_isSo_386 rfl rfl ?_
  refine g_bipush (p0 := 390) (v := nI 7) dL_isSo_388 (by decide) rfl ?_
  refine g_cV2R (p0 := 393) (r1 := mX9_strokeOf) dL_isSo_390 lL_86 vX9_strokeOf (by first | rfl | assumption | exact RW.s (by assumption) | exact TW.s (by assumption)) ⟨_, _, rfl⟩ (FITi rfl rfl) (Nat.le_of_ble_eq_true rfl) (sO_cc hs12 (by omega) hk (j := 7) (by decide) (by decide)) rfl ?_
  refine g_ldc (p0 := 395) dL_isSo_393 qL_51 rfl ?_
  first | ((with_reducible refine isN2 ?_); refine g_icmpN_ne (tgt := 402) (p1 := 398) dL_isSo_395 rfl (by omega) (by omega) rfl (fun c_395 => by exfalso; first | exact c_395 rfl | omega | contradiction) (fun c_395 => ?_)) | refine g_icmp_ne (tgt := 402) (p1 := 398) dL_isSo_395 rfl rfl (fun c_395 => by exfalso; first | exact c_395 rfl | omega | contradiction) (fun c_395 => ?_)
  refine g_iconst (p0 := 399) (v := nI 1) dL_isSo_398 rfl rfl ?_
  refine g_goto (tgt := 403) dL_isSo_399 rfl ?_
  refine g_istore (p0 := 405) (i := 19) (ls2 := [_, _, _, _, _, _, _, _, _, _, _, _, _, _, _, _, _, _, _, _, _, _, _, _, _, _, _, _]) dL_isSo_403 (Nat.le_of_ble_eq_true rfl) rfl rfl ?_
  first | refine g_iinc1 (p0 := 408) (ls2 := [_, _, _, _, _, _, _, _, _, _, _, _, _, _, _, _, _, _, _, _, _, _, _, _, _, _, _, _]) dL_isSo_405 rfl rfl rfl ?_ | refine g_iinc (p0 := 408) (ls2 := [_, _, _, _, _, _, _, _, _, _, _, _, _, _, _, _, _, _, _, _, _, _, _, _, _, _, _, _]) dL_isSo_405 rfl rfl rfl rfl ?_
  refine g_goto (tgt := 108) dL_isSo_408 rfl ?_
  exact next
set_option maxRecDepth 20000 in
set_option maxHeartbeats 2000000 in
theorem i1_loop {e s M : Nat} {v14 v18 : Int32} {c d : Nat → Nat} {gp tk : Nat → Int32} {σ : Sg} {Q : SP} {x23 x24 x25 x26 x27 : Option AV} (hF : FA σ e s c d gp tk) (next : ∀ x21 x22, WM mL_isSo Q 411 [some (ar 0), some (ar 79), some (ar 80), some (ar 81), some (ar (e + 0)), some (ar (e + 1)), some (ar (e + 2)), some (ar (e + 3)), some (ar (e + 4)), some (ar (e + 5)), some (ar (e + 6)), some (ai (nI (Lc c s))), some (ai (nI M)), some (ai (-1000004)), some (ai v14), some (ai (nI (lo c s))), some (ai (nI (p2 c s))), some (ai (nI (dsm d s))), some (ai v18), some (ai (nI 1)), some (ai (nI s)), x21, x22, x23, x24, x25, x26, x27] [] σ) : ∀ m k, k + m = s → ∀ x21 x22, WM mL_isSo Q 108 [some (ar 0), some (ar 79), some (ar 80), some (ar 81), some (ar (e + 0)), some (ar (e + 1)), some (ar (e + 2)), some (ar (e + 3)), some (ar (e + 4)), some (ar (e + 5)), some (ar (e + 6)), some (ai (nI (Lc c s))), some (ai (nI M)), some (ai (-1000004)), some (ai v14), some (ai (nI (lo c k))), some (ai (nI (p2 c k))), some (ai (nI (dsm d k))), some (ai v18), some (ai (nI 1)), some (ai (nI k)), x21, x22, x23, x24, x25, x26, x27] [] σ := by
  obtain ⟨⟨a1, a2, a3, a4, a5, a6, a7, a8, a9⟩, hK, hD, b4, b5, b6⟩ := id hF
  have he2 := a1.1
  intro m
  induction m with
  | zero =>
    intro k hk x21 x22
    obtain rfl : k = s := by omega
    refine g_iload (p0 := 110) dL_isSo_108 rfl rfl ?_
    refine g_aload_n (p0 := 111) (i := 1) dL_isSo_110 rfl rfl rfl ?_
    refine g_iconst (p0 := 112) (v := nI 3) dL_isSo_111 rfl rfl ?_
    first | ((with_reducible refine isN1 ?_); refine g_aldN (p0 := 113) dL_isSo_112 (by first | rfl | assumption | exact RW.s (by assumption) | exact TW.s (by assumption)) (by first | decide | assumption) (by omega) (by first | assumption | ((repeat (first | exact up_hit | (apply up_nv; omega) | (apply up_mv; omega))) <;> first | assumption | rfl)) rfl ?_) | refine g_ald (p0 := 113) dL_isSo_112 (by first | rfl | assumption | exact RW.s (by assumption) | exact TW.s (by assumption)) (by assumption) (by first | assumption | ((repeat (first | exact up_hit | (apply up_nv; omega) | (apply up_mv; omega))) <;> first | assumption | rfl)) rfl ?_
    first | ((with_reducible refine isN2 ?_); refine g_icmpN_ge (tgt := 411) (p1 := 116) dL_isSo_113 rfl (by omega) (by omega) rfl (fun c_113 => ?_) (fun c_113 => by exfalso; first | exact c_113 rfl | omega | contradiction)) | refine g_icmp_ge (tgt := 411) (p1 := 116) dL_isSo_113 rfl rfl (fun c_113 => ?_) (fun c_113 => by exfalso; first | exact c_113 rfl | omega | contradiction)
    exact next _ _
  | succ m ih =>
    intro k hk x21 x22
    obtain ⟨⟨h3, h80, hc, h1, hm, hlq⟩, h61, h63, h65, h67, h69, h71⟩ := hK k (by omega)
    have hx5 := a7 k
    have hdk := a9 k
    have bL := (Mc_le c (k + 1)).2
    have bM := (Mc_le c (k + 1)).1
    have hM1 := Mc_pos a6 k
    have hlo := lo_le c k
    have hp2 := p2_le c k
    have hds := dsm_le a9 k
    have hrest : 0 < c k → ∃ fq, fq ≤ Lc c (k + 1) - 1 ∧ σ 69 k = nI (Lc c (k + 1) - 1 - fq) ∧ CM mL_first [ar (e + 5), ai (nI (Lc c s)), ai (nI (Mc c (k + 1) - 1))] σ (Ret (nI fq) σ) := by
      intro hx0
      have hms : Mc c (k + 1) ≤ Mc c s := by
        have h9 := Mc_mono c (k + 1) (s - (k + 1))
        rw [show k + 1 + (s - (k + 1)) = s by omega] at h9
        exact h9
      have e1 := fl_stay (c := c) (m := Mc c (k + 1) - 1) (s - (k + 1)) (k + 1) (by omega)
      rw [show k + 1 + (s - (k + 1)) = s by omega] at e1
      have e2 := fl_le c (k + 1) (Mc c (k + 1) - 1) (by omega)
      have e3 := place_eq c a7 (k + 1) hM1
      refine ⟨fl c s (Mc c (k + 1) - 1), by omega, ?_, FA_first hF (by omega)⟩
      rw [h69, e3, e1]
    have hgr := gr_le c (k + 1) (Lc c (k + 1) - 1)
    by_cases h0 : k = 0
    · have hx : c k = 5 := by rw [h0]; exact a6
      have hd0 : d k = 0 := by rw [h0]; exact a8
      obtain ⟨fq, g1, g2, g3⟩ := hrest (by omega)
      obtain ⟨hl, hq⟩ := hlq (by omega)
      refine iA_z a1 a2 he2 a5 (by omega) a3 hc hx5 h1 h0 hx (o' := lo c (k + 1)) (q' := p2 c (k + 1)) (w' := dsm d (k + 1)) (by rw [lo, if_neg (by omega)]; rfl) (by rw [p2, if_neg (by omega)]; rfl) (by rw [dsm, hd0]) ?_
      have hB := iB_z a1 a2 he2 (by omega) a3 a4 h3 h80 hc hx5 h1 hm h63 h65 hdk (by omega) (by omega) hl hq h67 g2 h71 g1 (by omega) (by omega) g3 h0 (ih (k + 1) (by omega) _ _)
      rw [hd0] at hB
      exact hB
    · have hd := hD k (by omega)
      have h61' := h61 (by omega)
      have hB : ∀ x21 x22, x21 = some (ai (nI 0)) → x22 = some (ai (nI (d k))) → WM mL_isSo Q 201 [some (ar 0), some (ar 79), some (ar 80), some (ar 81), some (ar (e + 0)), some (ar (e + 1)), some (ar (e + 2)), some (ar (e + 3)), some (ar (e + 4)), some (ar (e + 5)), some (ar (e + 6)), some (ai (nI (Lc c s))), some (ai (nI M)), some (ai (-1000004)), some (ai v14), some (ai (nI (lo c (k + 1)))), some (ai (nI (p2 c (k + 1)))), some (ai (nI (dsm d (k + 1)))), some (ai v18), some (ai (nI 1)), some (ai (nI k)), x21, x22, x23, x24, x25, x26, x27] [] σ := by
        rintro x21 x22 rfl rfl
        by_cases hx : c k = 0
        · exact iB_n a1 a2 he2 (by omega) a3 a4 h3 h80 hc hx5 h1 hm h63 h65 hdk (by omega) hx h0 h61' (ih (k + 1) (by omega) _ _)
        · obtain ⟨fq, g1, g2, g3⟩ := hrest (by omega)
          obtain ⟨hl, hq⟩ := hlq hx
          exact iB_p a1 a2 he2 (by omega) a3 a4 h3 h80 hc hx5 h1 hm h63 h65 hdk (by omega) (by omega) hl hq h67 g2 h71 g1 (by omega) (by omega) g3 h0 h61' (ih (k + 1) (by omega) _ _)
      have hB2 := hB _ _ rfl rfl
      have hcase : d k = 0 ∨ d k = 1 := by omega
      rcases hcase with hd1 | hd1
      · rw [hd1] at hd hB2
        by_cases hx0 : c k = 0
        · exact iA_00 a1 a2 he2 a5 (by omega) a3 hc hx5 h1 (by omega) hd hx0 (by rw [lo, if_pos hx0]) (by rw [p2, if_neg (by omega)]; rfl) (by rw [dsm, hd1]) hB2
        · by_cases hx2 : c k = 2
          · exact iA_02 a1 a2 he2 a5 (by omega) a3 hc hx5 h1 (by omega) hd hx2 (by rw [lo, if_neg hx0]; rfl) (by rw [p2, if_pos hx2]) (by rw [dsm, hd1]) hB2
          · exact iA_0n a1 a2 he2 a5 (by omega) a3 hc hx5 h1 (by omega) hd hx0 hx2 (by rw [lo, if_neg hx0]; rfl) (by rw [p2, if_neg hx2]; rfl) (by rw [dsm, hd1]) hB2
      · rw [hd1] at hd hB2
        by_cases hx0 : c k = 0
        · exact iA_10 a1 a2 he2 a5 (by omega) a3 hc hx5 h1 (by omega) hd hx0 (by rw [lo, if_pos hx0]) (by rw [p2, if_neg (by omega)]; rfl) (by rw [dsm, hd1]) hB2
        · by_cases hx2 : c k = 2
          · exact iA_12 a1 a2 he2 a5 (by omega) a3 hc hx5 h1 (by omega) hd hx2 (by rw [lo, if_neg hx0]; rfl) (by rw [p2, if_pos hx2]) (by rw [dsm, hd1]) hB2
          · exact iA_1n a1 a2 he2 a5 (by omega) a3 hc hx5 h1 (by omega) hd hx0 hx2 (by rw [lo, if_neg hx0]; rfl) (by rw [p2, if_neg hx2]; rfl) (by rw [dsm, hd1]) hB2
