/-! ORDERS: one order on both sides -/
def FD (σ σ1 : Sg) : Prop := (∀ z, z ≠ 79 → z ≠ 80 → σ1 z = σ z) ∧ (∀ q, q ≠ 23 → σ1 79 q = σ 79 q) ∧ ∀ k, 189 ≤ k → σ1 80 k = σ 80 k
theorem FA.fd {σ σ1 : Sg} {a : Nat} (h : FA σ σ1 a) : FD σ σ1 := ⟨fun z h79 _ => h.1 z h79, h.2.1, fun k _ => by rw [h.1 80 (by decide)]⟩
theorem FA.fd80 {σ σ1 σ2 : Sg} {a : Nat} (h : FA σ σ1 a) (h2 : F80 σ1 σ2) : FD σ σ2 ∧ σ2 79 23 = nI a := ⟨⟨fun z h79 h80 => (h2.1 z h80).trans (h.1 z h79), fun q hq => by rw [h2.1 79 (by decide)]; exact h.2.1 q hq, fun k hk => by rw [h2.2 k hk, h.1 80 (by decide)]⟩, by rw [h2.1 79 (by decide)]; exact h.2.2⟩
def DQ (σ : Sg) (e r : Nat) (ρ' : Nat → Int32) : SP := RelI (fun u σ2 => u = nI r ∧ FD σ σ2 ∧ (r = 0 → σ2 79 23 = nI (e + 1) ∧ σ2 80 = ρ'))
theorem RelI_of {r : MR} {as : List AV} {σ σ1 : Sg} {v : Int32} {P : Int32 → Sg → Prop} (h : CM r as σ (Ret v σ1)) (hP : P v σ1) : CM r as σ (RelI P) := by
  refine CM.mono h ?_
  rintro w σ2 ⟨rfl, rfl⟩
  exact ⟨_, rfl, hP⟩
theorem REM_189 {ρ : Nat → Int32} {s p k : Nat} (hs : s ≤ 160) (hk : 189 ≤ k) : REM ρ s p k = ρ k := by
  rw [REM, remR, if_neg (by omega), upd_ne (by omega)]
theorem INS_189 {ρ : Nat → Int32} {s k : Nat} {x : Int32} (hs : s < 160) (hk : 189 ≤ k) : INS ρ s x k = ρ k := by
  have ha := ah_le (tm ρ) s x
  rw [INS, upd_ne (by omega), insR, if_neg (by omega), if_neg (by omega), if_neg (by omega)]
theorem F80_set {σ : Sg} {f : Nat → Int32} (h : ∀ k, 189 ≤ k → f k = σ 80 k) : F80 σ (setR σ 80 f) := ⟨fun z hz => setR_ne hz, fun k hk => by rw [setR_hit]; exact h k hk⟩
theorem sg_off {x : Nat} (hx : x ≤ 126) (h1 : ¬ x = 33) (h2 : ¬ x = 43) (h3 : ¬ x = 45) (h4 : ¬ x = 47) (h5 : ¬ x = 61) : Op.lookupswitch.offset [(33, 57), (43, 83), (45, 72), (47, 65), (61, 49)] 94 (nI x).toInt = 94 := by
  have e : ∀ k : Nat, k ≤ 126 → ¬ x = k → ¬ nI x = nI k := fun k hk h z => h ((nI_inj (by omega) (by omega)).mp z)
  rw [lv_osw (k := nI 33) (e 33 (by decide) h1) (by decide), lv_osw (k := nI 43) (e 43 (by decide) h2) (by decide), lv_osw (k := nI 45) (e 45 (by decide) h3) (by decide), lv_osw (k := nI 47) (e 47 (by decide) h4) (by decide), lv_osw (k := nI 61) (e 61 (by decide) h5) (by decide)]
  rfl
set_option maxRecDepth 20000 in
set_option maxHeartbeats 2000000 in
theorem sg_61 {r : Nat} {ρ' : Nat → Int32} {p e : Nat} {σ σ1 : Sg} {ρ : Nat → Int32} (e1 : FA σ σ1 e) (h80 : σ1 80 = ρ) (he : e ≤ 60) (h : CM mX10_ringsAll [ar 79, ai (nI (p + 1)), ai (nI e), ai (nI 0)] (up σ1 79 23 (nI (e + 1))) (RelI (fun u σ2 => u = nI r ∧ F80 (up σ1 79 23 (nI (e + 1))) σ2 ∧ (r = 0 → σ2 80 = ρ')))) : WM mX10_does (DQ σ e r ρ') 195 [some (ar 79), some (ai (nI 61)), some (ai (nI (p + 1))), some (ai (nI 0)), some (ai (nI 1)), some (ai (nI (0))), some (ai (nI 1)), none] [] σ1 := by
  have e23 := e1.at
  have eu := e1.up (b := e + 1)
  have u80 : up σ1 79 23 (nI (e + 1)) 80 = ρ := by rw [up_ne (by decide)]; exact h80
  refine g_aload_n (p0 := 196) (i := 0) dX10_does_195 rfl rfl rfl ?_
  refine g_getI (p0 := 199) dX10_does_196 fX10_190 (by first | rfl | assumption | exact RW.s (by assumption) | exact TW.s (by assumption)) rfl (by first | assumption | ((repeat (first | exact up_hit | refine up_nv (by decide) ?_ | refine up_mv (by first | decide | omega) ?_)) <;> first | assumption | rfl)) rfl ?_
  refine g_istore (p0 := 201) (i := 7) (ls2 := [_, _, _, _, _, _, _, _]) dX10_does_199 (Nat.le_of_ble_eq_true rfl) rfl rfl ?_
  refine g_aload_n (p0 := 202) (i := 0) dX10_does_201 rfl rfl rfl ?_
  refine g_dup (p0 := 203) dX10_does_202 rfl ?_
  refine g_getI (p0 := 206) dX10_does_203 fX10_190 (by first | rfl | assumption | exact RW.s (by assumption) | exact TW.s (by assumption)) rfl (by first | assumption | ((repeat (first | exact up_hit | refine up_nv (by decide) ?_ | refine up_mv (by first | decide | omega) ?_)) <;> first | assumption | rfl)) rfl ?_
  refine g_iconst (p0 := 207) (v := nI 1) dX10_does_206 rfl rfl ?_
  first | ((with_reducible refine isN2 ?_); refine g_iaddN (p0 := 208) dX10_does_207 rfl ?_) | refine g_iadd (p0 := 208) dX10_does_207 rfl ?_
  refine g_put (p0 := 211) dX10_does_208 fX10_190 (by first | rfl | assumption | exact RW.s (by assumption) | exact TW.s (by assumption)) rfl nX10_23 (pX10_23 _) rfl ?_
  refine g_iload (p0 := 213) dX10_does_211 rfl rfl ?_
  first | ((with_reducible refine isN1 ?_); refine g_ifN_eq (tgt := 235) (p1 := 216) dX10_does_213 rfl (by omega) rfl (fun c_213 => by exfalso; first | omega | contradiction | exact absurd h c_213 | exact h c_213 | exact c_213 h | exact c_213 (by decide) | exact c_213 rfl | exact absurd rfl c_213) (fun c_213 => ?_)) | refine g_if_eq (tgt := 235) (p1 := 216) dX10_does_213 rfl rfl (fun c_213 => by exfalso; first | omega | contradiction | exact absurd h c_213 | exact h c_213 | exact c_213 h | exact c_213 (by decide) | exact c_213 rfl | exact absurd rfl c_213) (fun c_213 => ?_)
  refine g_aload_n (p0 := 217) (i := 0) dX10_does_216 rfl rfl rfl ?_
  refine g_iload_n (p0 := 218) (i := 2) dX10_does_217 rfl rfl rfl ?_
  refine g_iload (p0 := 220) dX10_does_218 rfl rfl ?_
  refine g_iload_n (p0 := 221) (i := 1) dX10_does_220 rfl rfl rfl ?_
  refine g_bipush (p0 := 223) (v := nI 33) dX10_does_221 (by decide) rfl ?_
  first | ((with_reducible refine isN2 ?_); refine g_icmpN_ne (tgt := 230) (p1 := 226) dX10_does_223 rfl (by omega) (by omega) rfl (fun c_223 => ?_) (fun c_223 => by exfalso; first | omega | contradiction | exact absurd h c_223 | exact h c_223 | exact c_223 h | exact c_223 (by decide) | exact c_223 rfl | exact absurd rfl c_223)) | refine g_icmp_ne (tgt := 230) (p1 := 226) dX10_does_223 rfl rfl (fun c_223 => ?_) (fun c_223 => by exfalso; first | omega | contradiction | exact absurd h c_223 | exact h c_223 | exact c_223 h | exact c_223 (by decide) | exact c_223 rfl | exact absurd rfl c_223)
  refine g_iconst (p0 := 231) (v := nI 0) dX10_does_230 rfl rfl ?_
  refine g_cV3I (p0 := 234) (r1 := mX10_ringsAll) dX10_does_231 lX10_199 vX10_ringsAll (by first | rfl | assumption | exact RW.s (by assumption) | exact TW.s (by assumption)) ⟨_, _, rfl⟩ (FITi rfl rfl) (Nat.le_of_ble_eq_true rfl) (h) rfl ?_
  rintro u σ2 ⟨rfl, hf, hr⟩
  refine g_ireturn dX10_does_234 rfl rfl (?_)
  obtain ⟨z1, z2⟩ := eu.fd80 hf
  exact ⟨_, rfl, rfl, z1, fun z => ⟨z2, hr z⟩⟩
set_option maxRecDepth 20000 in
set_option maxHeartbeats 2000000 in
theorem sg_33 {r : Nat} {ρ' : Nat → Int32} {p e : Nat} {σ σ1 : Sg} {ρ : Nat → Int32} (e1 : FA σ σ1 e) (h80 : σ1 80 = ρ) (he : e ≤ 60) (h : CM mX10_ringsAll [ar 79, ai (nI (p + 1)), ai (nI e), ai (nI 1)] (up σ1 79 23 (nI (e + 1))) (RelI (fun u σ2 => u = nI r ∧ F80 (up σ1 79 23 (nI (e + 1))) σ2 ∧ (r = 0 → σ2 80 = ρ')))) : WM mX10_does (DQ σ e r ρ') 195 [some (ar 79), some (ai (nI 33)), some (ai (nI (p + 1))), some (ai (nI 0)), some (ai (nI 1)), some (ai (nI (0))), some (ai (nI 1)), none] [] σ1 := by
  have e23 := e1.at
  have eu := e1.up (b := e + 1)
  have u80 : up σ1 79 23 (nI (e + 1)) 80 = ρ := by rw [up_ne (by decide)]; exact h80
  refine g_aload_n (p0 := 196) (i := 0) dX10_does_195 rfl rfl rfl ?_
  refine g_getI (p0 := 199) dX10_does_196 fX10_190 (by first | rfl | assumption | exact RW.s (by assumption) | exact TW.s (by assumption)) rfl (by first | assumption | ((repeat (first | exact up_hit | refine up_nv (by decide) ?_ | refine up_mv (by first | decide | omega) ?_)) <;> first | assumption | rfl)) rfl ?_
  refine g_istore (p0 := 201) (i := 7) (ls2 := [_, _, _, _, _, _, _, _]) dX10_does_199 (Nat.le_of_ble_eq_true rfl) rfl rfl ?_
  refine g_aload_n (p0 := 202) (i := 0) dX10_does_201 rfl rfl rfl ?_
  refine g_dup (p0 := 203) dX10_does_202 rfl ?_
  refine g_getI (p0 := 206) dX10_does_203 fX10_190 (by first | rfl | assumption | exact RW.s (by assumption) | exact TW.s (by assumption)) rfl (by first | assumption | ((repeat (first | exact up_hit | refine up_nv (by decide) ?_ | refine up_mv (by first | decide | omega) ?_)) <;> first | assumption | rfl)) rfl ?_
  refine g_iconst (p0 := 207) (v := nI 1) dX10_does_206 rfl rfl ?_
  first | ((with_reducible refine isN2 ?_); refine g_iaddN (p0 := 208) dX10_does_207 rfl ?_) | refine g_iadd (p0 := 208) dX10_does_207 rfl ?_
  refine g_put (p0 := 211) dX10_does_208 fX10_190 (by first | rfl | assumption | exact RW.s (by assumption) | exact TW.s (by assumption)) rfl nX10_23 (pX10_23 _) rfl ?_
  refine g_iload (p0 := 213) dX10_does_211 rfl rfl ?_
  first | ((with_reducible refine isN1 ?_); refine g_ifN_eq (tgt := 235) (p1 := 216) dX10_does_213 rfl (by omega) rfl (fun c_213 => by exfalso; first | omega | contradiction | exact absurd h c_213 | exact h c_213 | exact c_213 h | exact c_213 (by decide) | exact c_213 rfl | exact absurd rfl c_213) (fun c_213 => ?_)) | refine g_if_eq (tgt := 235) (p1 := 216) dX10_does_213 rfl rfl (fun c_213 => by exfalso; first | omega | contradiction | exact absurd h c_213 | exact h c_213 | exact c_213 h | exact c_213 (by decide) | exact c_213 rfl | exact absurd rfl c_213) (fun c_213 => ?_)
  refine g_aload_n (p0 := 217) (i := 0) dX10_does_216 rfl rfl rfl ?_
  refine g_iload_n (p0 := 218) (i := 2) dX10_does_217 rfl rfl rfl ?_
  refine g_iload (p0 := 220) dX10_does_218 rfl rfl ?_
  refine g_iload_n (p0 := 221) (i := 1) dX10_does_220 rfl rfl rfl ?_
  refine g_bipush (p0 := 223) (v := nI 33) dX10_does_221 (by decide) rfl ?_
  first | ((with_reducible refine isN2 ?_); refine g_icmpN_ne (tgt := 230) (p1 := 226) dX10_does_223 rfl (by omega) (by omega) rfl (fun c_223 => by exfalso; first | omega | contradiction | exact absurd h c_223 | exact h c_223 | exact c_223 h | exact c_223 (by decide) | exact c_223 rfl | exact absurd rfl c_223) (fun c_223 => ?_)) | refine g_icmp_ne (tgt := 230) (p1 := 226) dX10_does_223 rfl rfl (fun c_223 => by exfalso; first | omega | contradiction | exact absurd h c_223 | exact h c_223 | exact c_223 h | exact c_223 (by decide) | exact c_223 rfl | exact absurd rfl c_223) (fun c_223 => ?_)
  refine g_iconst (p0 := 227) (v := nI 1) dX10_does_226 rfl rfl ?_
  refine g_goto (tgt := 231) dX10_does_227 rfl ?_
  refine g_cV3I (p0 := 234) (r1 := mX10_ringsAll) dX10_does_231 lX10_199 vX10_ringsAll (by first | rfl | assumption | exact RW.s (by assumption) | exact TW.s (by assumption)) ⟨_, _, rfl⟩ (FITi rfl rfl) (Nat.le_of_ble_eq_true rfl) (h) rfl ?_
  rintro u σ2 ⟨rfl, hf, hr⟩
  refine g_ireturn dX10_does_234 rfl rfl (?_)
  obtain ⟨z1, z2⟩ := eu.fd80 hf
  exact ⟨_, rfl, rfl, z1, fun z => ⟨z2, hr z⟩⟩
set_option maxRecDepth 20000 in
set_option maxHeartbeats 2000000 in
theorem sg_47 {p e : Nat} {σ σ1 : Sg} {ρ : Nat → Int32} (e1 : FA σ σ1 e) (h80 : σ1 80 = ρ) (he : e ≤ 60)  : WM mX10_does (DQ σ e 0 (upd ρ 2 (nI 1))) 195 [some (ar 79), some (ai (nI 47)), some (ai (nI (p + 1))), some (ai (nI 0)), some (ai (nI 0)), some (ai (nI (0))), some (ai (nI 1)), none] [] σ1 := by
  have e23 := e1.at
  have eu := e1.up (b := e + 1)
  have u80 : up σ1 79 23 (nI (e + 1)) 80 = ρ := by rw [up_ne (by decide)]; exact h80
  refine g_aload_n (p0 := 196) (i := 0) dX10_does_195 rfl rfl rfl ?_
  refine g_getI (p0 := 199) dX10_does_196 fX10_190 (by first | rfl | assumption | exact RW.s (by assumption) | exact TW.s (by assumption)) rfl (by first | assumption | ((repeat (first | exact up_hit | refine up_nv (by decide) ?_ | refine up_mv (by first | decide | omega) ?_)) <;> first | assumption | rfl)) rfl ?_
  refine g_istore (p0 := 201) (i := 7) (ls2 := [_, _, _, _, _, _, _, _]) dX10_does_199 (Nat.le_of_ble_eq_true rfl) rfl rfl ?_
  refine g_aload_n (p0 := 202) (i := 0) dX10_does_201 rfl rfl rfl ?_
  refine g_dup (p0 := 203) dX10_does_202 rfl ?_
  refine g_getI (p0 := 206) dX10_does_203 fX10_190 (by first | rfl | assumption | exact RW.s (by assumption) | exact TW.s (by assumption)) rfl (by first | assumption | ((repeat (first | exact up_hit | refine up_nv (by decide) ?_ | refine up_mv (by first | decide | omega) ?_)) <;> first | assumption | rfl)) rfl ?_
  refine g_iconst (p0 := 207) (v := nI 1) dX10_does_206 rfl rfl ?_
  first | ((with_reducible refine isN2 ?_); refine g_iaddN (p0 := 208) dX10_does_207 rfl ?_) | refine g_iadd (p0 := 208) dX10_does_207 rfl ?_
  refine g_put (p0 := 211) dX10_does_208 fX10_190 (by first | rfl | assumption | exact RW.s (by assumption) | exact TW.s (by assumption)) rfl nX10_23 (pX10_23 _) rfl ?_
  refine g_iload (p0 := 213) dX10_does_211 rfl rfl ?_
  first | ((with_reducible refine isN1 ?_); refine g_ifN_eq (tgt := 235) (p1 := 216) dX10_does_213 rfl (by omega) rfl (fun c_213 => ?_) (fun c_213 => by exfalso; first | omega | contradiction | exact absurd h c_213 | exact h c_213 | exact c_213 h | exact c_213 (by decide) | exact c_213 rfl | exact absurd rfl c_213)) | refine g_if_eq (tgt := 235) (p1 := 216) dX10_does_213 rfl rfl (fun c_213 => ?_) (fun c_213 => by exfalso; first | omega | contradiction | exact absurd h c_213 | exact h c_213 | exact c_213 h | exact c_213 (by decide) | exact c_213 rfl | exact absurd rfl c_213)
  refine g_iload_n (p0 := 236) (i := 1) dX10_does_235 rfl rfl rfl ?_
  refine g_bipush (p0 := 238) (v := nI 47) dX10_does_236 (by decide) rfl ?_
  first | ((with_reducible refine isN2 ?_); refine g_icmpN_ne (tgt := 250) (p1 := 241) dX10_does_238 rfl (by omega) (by omega) rfl (fun c_238 => by exfalso; first | omega | contradiction | exact absurd h c_238 | exact h c_238 | exact c_238 h | exact c_238 (by decide) | exact c_238 rfl | exact absurd rfl c_238) (fun c_238 => ?_)) | refine g_icmp_ne (tgt := 250) (p1 := 241) dX10_does_238 rfl rfl (fun c_238 => by exfalso; first | omega | contradiction | exact absurd h c_238 | exact h c_238 | exact c_238 h | exact c_238 (by decide) | exact c_238 rfl | exact absurd rfl c_238) (fun c_238 => ?_)
  refine g_aload_n (p0 := 242) (i := 0) dX10_does_241 rfl rfl rfl ?_
  refine g_getR (p0 := 245) dX10_does_242 fX10_7 (by first | rfl | assumption | exact RW.s (by assumption) | exact TW.s (by assumption)) rfl rfl ?_
  refine g_iconst (p0 := 246) (v := nI 2) dX10_does_245 rfl rfl ?_
  refine g_iconst (p0 := 247) (v := nI 1) dX10_does_246 rfl rfl ?_
  first | ((with_reducible refine isNS ?_); refine g_astN (p0 := 248) dX10_does_247 (by first | rfl | assumption | exact RW.s (by assumption) | exact TW.s (by assumption)) (by first | decide | assumption) (by omega) rfl ?_) | refine g_ast (p0 := 248) dX10_does_247 (by first | rfl | assumption | exact RW.s (by assumption) | exact TW.s (by assumption)) (by assumption) rfl ?_
  refine g_iconst (p0 := 249) (v := nI 0) dX10_does_248 rfl rfl ?_
  refine g_ireturn dX10_does_249 rfl rfl (?_)
  obtain ⟨z1, z2⟩ := eu.fd80 (σ2 := up (up σ1 79 23 (nI (e + 1))) 80 2 (nI 1)) ⟨fun z hz => up_ne hz, fun k hk => by rw [up_miss (by omega)]⟩
  exact ⟨_, rfl, rfl, z1, fun _ => ⟨z2, by rw [up_self, u80]⟩⟩
set_option maxRecDepth 20000 in
set_option maxHeartbeats 2000000 in
theorem sg_45F {v s : Nat} {ρ' : Nat → Int32} {p e : Nat} {σ σ1 : Sg} {ρ : Nat → Int32} (e1 : FA σ σ1 e) (h80 : σ1 80 = ρ) (he : e ≤ 60) (hR : RowOK ρ s) (hv : v ≤ 9999) (hs : s ≤ v) : WM mX10_does (DQ σ e 2 ρ') 195 [some (ar 79), some (ai (nI 45)), some (ai (nI (p + 1))), some (ai (nI 1)), some (ai (nI 0)), some (ai (nI (v))), some (ai (nI 1)), none] [] σ1 := by
  have e23 := e1.at
  have eu := e1.up (b := e + 1)
  have u80 : up σ1 79 23 (nI (e + 1)) 80 = ρ := by rw [up_ne (by decide)]; exact h80
  refine g_aload_n (p0 := 196) (i := 0) dX10_does_195 rfl rfl rfl ?_
  refine g_getI (p0 := 199) dX10_does_196 fX10_190 (by first | rfl | assumption | exact RW.s (by assumption) | exact TW.s (by assumption)) rfl (by first | assumption | ((repeat (first | exact up_hit | refine up_nv (by decide) ?_ | refine up_mv (by first | decide | omega) ?_)) <;> first | assumption | rfl)) rfl ?_
  refine g_istore (p0 := 201) (i := 7) (ls2 := [_, _, _, _, _, _, _, _]) dX10_does_199 (Nat.le_of_ble_eq_true rfl) rfl rfl ?_
  refine g_aload_n (p0 := 202) (i := 0) dX10_does_201 rfl rfl rfl ?_
  refine g_dup (p0 := 203) dX10_does_202 rfl ?_
  refine g_getI (p0 := 206) dX10_does_203 fX10_190 (by first | rfl | assumption | exact RW.s (by assumption) | exact TW.s (by assumption)) rfl (by first | assumption | ((repeat (first | exact up_hit | refine up_nv (by decide) ?_ | refine up_mv (by first | decide | omega) ?_)) <;> first | assumption | rfl)) rfl ?_
  refine g_iconst (p0 := 207) (v := nI 1) dX10_does_206 rfl rfl ?_
  first | ((with_reducible refine isN2 ?_); refine g_iaddN (p0 := 208) dX10_does_207 rfl ?_) | refine g_iadd (p0 := 208) dX10_does_207 rfl ?_
  refine g_put (p0 := 211) dX10_does_208 fX10_190 (by first | rfl | assumption | exact RW.s (by assumption) | exact TW.s (by assumption)) rfl nX10_23 (pX10_23 _) rfl ?_
  refine g_iload (p0 := 213) dX10_does_211 rfl rfl ?_
  first | ((with_reducible refine isN1 ?_); refine g_ifN_eq (tgt := 235) (p1 := 216) dX10_does_213 rfl (by omega) rfl (fun c_213 => ?_) (fun c_213 => by exfalso; first | omega | contradiction | exact absurd h c_213 | exact h c_213 | exact c_213 h | exact c_213 (by decide) | exact c_213 rfl | exact absurd rfl c_213)) | refine g_if_eq (tgt := 235) (p1 := 216) dX10_does_213 rfl rfl (fun c_213 => ?_) (fun c_213 => by exfalso; first | omega | contradiction | exact absurd h c_213 | exact h c_213 | exact c_213 h | exact c_213 (by decide) | exact c_213 rfl | exact absurd rfl c_213)
  refine g_iload_n (p0 := 236) (i := 1) dX10_does_235 rfl rfl rfl ?_
  refine g_bipush (p0 := 238) (v := nI 47) dX10_does_236 (by decide) rfl ?_
  first | ((with_reducible refine isN2 ?_); refine g_icmpN_ne (tgt := 250) (p1 := 241) dX10_does_238 rfl (by omega) (by omega) rfl (fun c_238 => ?_) (fun c_238 => by exfalso; first | omega | contradiction | exact absurd h c_238 | exact h c_238 | exact c_238 h | exact c_238 (by decide) | exact c_238 rfl | exact absurd rfl c_238)) | refine g_icmp_ne (tgt := 250) (p1 := 241) dX10_does_238 rfl rfl (fun c_238 => ?_) (fun c_238 => by exfalso; first | omega | contradiction | exact absurd h c_238 | exact h c_238 | exact c_238 h | exact c_238 (by decide) | exact c_238 rfl | exact absurd rfl c_238)
  refine g_iload_n (p0 := 251) (i := 1) dX10_does_250 rfl rfl rfl ?_
  refine g_bipush (p0 := 253) (v := nI 45) dX10_does_251 (by decide) rfl ?_
  first | ((with_reducible refine isN2 ?_); refine g_icmpN_ne (tgt := 284) (p1 := 256) dX10_does_253 rfl (by omega) (by omega) rfl (fun c_253 => by exfalso; first | omega | contradiction | exact absurd h c_253 | exact h c_253 | exact c_253 h | exact c_253 (by decide) | exact c_253 rfl | exact absurd rfl c_253) (fun c_253 => ?_)) | refine g_icmp_ne (tgt := 284) (p1 := 256) dX10_does_253 rfl rfl (fun c_253 => by exfalso; first | omega | contradiction | exact absurd h c_253 | exact h c_253 | exact c_253 h | exact c_253 (by decide) | exact c_253 rfl | exact absurd rfl c_253) (fun c_253 => ?_)
  refine g_aload_n (p0 := 257) (i := 0) dX10_does_256 rfl rfl rfl ?_
  refine g_iload (p0 := 259) dX10_does_257 rfl rfl ?_
  refine g_cV1R (p0 := 262) (r1 := mX10_isStroke) dX10_does_259 lX10_109 vX10_isStroke (by first | rfl | assumption | exact RW.s (by assumption) | exact TW.s (by assumption)) ⟨_, _, rfl⟩ (FITi rfl rfl) (Nat.le_of_ble_eq_true rfl) (isStroke_F2 (s := s) (by rw [u80]; exact hR.1) (fun q => by rw [← nI_0, nI_lt_iff (by omega) (by omega)] at q; omega) ((nI_le_iff (by have := hR.2.1; omega) (by omega)).mpr hs)) rfl ?_
  first | ((with_reducible refine isN1 ?_); refine g_ifN_ne (tgt := 269) (p1 := 265) dX10_does_262 rfl (by omega) rfl (fun c_262 => by exfalso; first | omega | contradiction | exact absurd h c_262 | exact h c_262 | exact c_262 h | exact c_262 (by decide) | exact c_262 rfl | exact absurd rfl c_262) (fun c_262 => ?_)) | refine g_if_ne (tgt := 269) (p1 := 265) dX10_does_262 rfl rfl (fun c_262 => by exfalso; first | omega | contradiction | exact absurd h c_262 | exact h c_262 | exact c_262 h | exact c_262 (by decide) | exact c_262 rfl | exact absurd rfl c_262) (fun c_262 => ?_)
  refine g_iconst (p0 := 266) (v := nI 2) dX10_does_265 rfl rfl ?_
  refine g_goto (tgt := 283) dX10_does_266 rfl ?_
  refine g_ireturn dX10_does_283 rfl rfl (?_)
  exact ⟨_, rfl, rfl, eu.fd, fun z => absurd z (by decide)⟩
set_option maxRecDepth 20000 in
set_option maxHeartbeats 2000000 in
theorem sg_45T {v s : Nat} {p e : Nat} {σ σ1 : Sg} {ρ : Nat → Int32} (e1 : FA σ σ1 e) (h80 : σ1 80 = ρ) (he : e ≤ 60) (hR : RowOK ρ s) (hv : v < s) : WM mX10_does (DQ σ e 0 (REM ρ s v)) 195 [some (ar 79), some (ai (nI 45)), some (ai (nI (p + 1))), some (ai (nI 1)), some (ai (nI 0)), some (ai (nI (v))), some (ai (nI 1)), none] [] σ1 := by
  have e23 := e1.at
  have eu := e1.up (b := e + 1)
  have hs1 := hR.2.1
  obtain ⟨t, ht, et⟩ := hR.2.2.2.2.2 v hv
  obtain ⟨σ2, hσ2⟩ : ∃ z, z = up σ1 79 23 (nI (e + 1)) := ⟨_, rfl⟩
  rw [← hσ2] at eu
  have u80 : σ2 80 = ρ := by rw [hσ2, up_ne (by decide)]; exact h80
  subst u80
  have htk : CM mX10_takes [ar 79, ai (nI v)] σ2 (Ret (nI t) (setR σ2 80 (REM (σ2 80) s v))) := takes_sp hR.1 hs1 hv et
  have hf := F80_set (σ := σ2) (f := REM (σ2 80) s v) (fun k hk => REM_189 hs1 hk)
  refine g_aload_n (p0 := 196) (i := 0) dX10_does_195 rfl rfl rfl ?_
  refine g_getI (p0 := 199) dX10_does_196 fX10_190 (by first | rfl | assumption | exact RW.s (by assumption) | exact TW.s (by assumption)) rfl (by first | assumption | ((repeat (first | exact up_hit | refine up_nv (by decide) ?_ | refine up_mv (by first | decide | omega) ?_)) <;> first | assumption | rfl)) rfl ?_
  refine g_istore (p0 := 201) (i := 7) (ls2 := [_, _, _, _, _, _, _, _]) dX10_does_199 (Nat.le_of_ble_eq_true rfl) rfl rfl ?_
  refine g_aload_n (p0 := 202) (i := 0) dX10_does_201 rfl rfl rfl ?_
  refine g_dup (p0 := 203) dX10_does_202 rfl ?_
  refine g_getI (p0 := 206) dX10_does_203 fX10_190 (by first | rfl | assumption | exact RW.s (by assumption) | exact TW.s (by assumption)) rfl (by first | assumption | ((repeat (first | exact up_hit | refine up_nv (by decide) ?_ | refine up_mv (by first | decide | omega) ?_)) <;> first | assumption | rfl)) rfl ?_
  refine g_iconst (p0 := 207) (v := nI 1) dX10_does_206 rfl rfl ?_
  first | ((with_reducible refine isN2 ?_); refine g_iaddN (p0 := 208) dX10_does_207 rfl ?_) | refine g_iadd (p0 := 208) dX10_does_207 rfl ?_
  refine g_put (p0 := 211) dX10_does_208 fX10_190 (by first | rfl | assumption | exact RW.s (by assumption) | exact TW.s (by assumption)) rfl nX10_23 (pX10_23 _) rfl ?_
  rw [← hσ2]
  refine g_iload (p0 := 213) dX10_does_211 rfl rfl ?_
  first | ((with_reducible refine isN1 ?_); refine g_ifN_eq (tgt := 235) (p1 := 216) dX10_does_213 rfl (by omega) rfl (fun c_213 => ?_) (fun c_213 => by exfalso; first | omega | contradiction | exact absurd h c_213 | exact h c_213 | exact c_213 h | exact c_213 (by decide) | exact c_213 rfl | exact absurd rfl c_213)) | refine g_if_eq (tgt := 235) (p1 := 216) dX10_does_213 rfl rfl (fun c_213 => ?_) (fun c_213 => by exfalso; first | omega | contradiction | exact absurd h c_213 | exact h c_213 | exact c_213 h | exact c_213 (by decide) | exact c_213 rfl | exact absurd rfl c_213)
  refine g_iload_n (p0 := 236) (i := 1) dX10_does_235 rfl rfl rfl ?_
  refine g_bipush (p0 := 238) (v := nI 47) dX10_does_236 (by decide) rfl ?_
  first | ((with_reducible refine isN2 ?_); refine g_icmpN_ne (tgt := 250) (p1 := 241) dX10_does_238 rfl (by omega) (by omega) rfl (fun c_238 => ?_) (fun c_238 => by exfalso; first | omega | contradiction | exact absurd h c_238 | exact h c_238 | exact c_238 h | exact c_238 (by decide) | exact c_238 rfl | exact absurd rfl c_238)) | refine g_icmp_ne (tgt := 250) (p1 := 241) dX10_does_238 rfl rfl (fun c_238 => ?_) (fun c_238 => by exfalso; first | omega | contradiction | exact absurd h c_238 | exact h c_238 | exact c_238 h | exact c_238 (by decide) | exact c_238 rfl | exact absurd rfl c_238)
  refine g_iload_n (p0 := 251) (i := 1) dX10_does_250 rfl rfl rfl ?_
  refine g_bipush (p0 := 253) (v := nI 45) dX10_does_251 (by decide) rfl ?_
  first | ((with_reducible refine isN2 ?_); refine g_icmpN_ne (tgt := 284) (p1 := 256) dX10_does_253 rfl (by omega) (by omega) rfl (fun c_253 => by exfalso; first | omega | contradiction | exact absurd h c_253 | exact h c_253 | exact c_253 h | exact c_253 (by decide) | exact c_253 rfl | exact absurd rfl c_253) (fun c_253 => ?_)) | refine g_icmp_ne (tgt := 284) (p1 := 256) dX10_does_253 rfl rfl (fun c_253 => by exfalso; first | omega | contradiction | exact absurd h c_253 | exact h c_253 | exact c_253 h | exact c_253 (by decide) | exact c_253 rfl | exact absurd rfl c_253) (fun c_253 => ?_)
  refine g_aload_n (p0 := 257) (i := 0) dX10_does_256 rfl rfl rfl ?_
  refine g_iload (p0 := 259) dX10_does_257 rfl rfl ?_
  refine g_cV1R (p0 := 262) (r1 := mX10_isStroke) dX10_does_259 lX10_109 vX10_isStroke (by first | rfl | assumption | exact RW.s (by assumption) | exact TW.s (by assumption)) ⟨_, _, rfl⟩ (FITi rfl rfl) (Nat.le_of_ble_eq_true rfl) (isStroke_T hR.1 hs1 hv) rfl ?_
  first | ((with_reducible refine isN1 ?_); refine g_ifN_ne (tgt := 269) (p1 := 265) dX10_does_262 rfl (by omega) rfl (fun c_262 => ?_) (fun c_262 => by exfalso; first | omega | contradiction | exact absurd h c_262 | exact h c_262 | exact c_262 h | exact c_262 (by decide) | exact c_262 rfl | exact absurd rfl c_262)) | refine g_if_ne (tgt := 269) (p1 := 265) dX10_does_262 rfl rfl (fun c_262 => ?_) (fun c_262 => by exfalso; first | omega | contradiction | exact absurd h c_262 | exact h c_262 | exact c_262 h | exact c_262 (by decide) | exact c_262 rfl | exact absurd rfl c_262)
  refine g_aload_n (p0 := 270) (i := 0) dX10_does_269 rfl rfl rfl ?_
  refine g_iload (p0 := 272) dX10_does_270 rfl rfl ?_
  refine g_cV1R (p0 := 275) (r1 := mX10_takes) dX10_does_272 lX10_112 vX10_takes (by first | rfl | assumption | exact RW.s (by assumption) | exact TW.s (by assumption)) ⟨_, _, rfl⟩ (FITi rfl rfl) (Nat.le_of_ble_eq_true rfl) (htk) rfl ?_
  first | ((with_reducible refine isN1 ?_); refine g_ifN_ge (tgt := 282) (p1 := 278) dX10_does_275 rfl (by omega) rfl (fun c_275 => ?_) (fun c_275 => by exfalso; first | omega | contradiction | exact absurd h c_275 | exact h c_275 | exact c_275 h | exact c_275 (by decide) | exact c_275 rfl | exact absurd rfl c_275)) | refine g_if_ge (tgt := 282) (p1 := 278) dX10_does_275 rfl rfl (fun c_275 => ?_) (fun c_275 => by exfalso; first | omega | contradiction | exact absurd h c_275 | exact h c_275 | exact c_275 h | exact c_275 (by decide) | exact c_275 rfl | exact absurd rfl c_275)
  refine g_iconst (p0 := 283) (v := nI 0) dX10_does_282 rfl rfl ?_
  refine g_ireturn dX10_does_283 rfl rfl (?_)
  obtain ⟨z1, z2⟩ := eu.fd80 hf
  exact ⟨_, rfl, rfl, z1, fun _ => ⟨z2, setR_hit⟩⟩
set_option maxRecDepth 20000 in
set_option maxHeartbeats 2000000 in
theorem sg_43t {v s : Nat} {ρ' : Nat → Int32} {p e : Nat} {σ σ1 : Sg} {ρ : Nat → Int32} (e1 : FA σ σ1 e) (h80 : σ1 80 = ρ) (he : e ≤ 60) (hR : RowOK ρ s) (hv : v ≤ 9999) (hth : THR ρ s (nI v)) : WM mX10_does (DQ σ e 2 ρ') 195 [some (ar 79), some (ai (nI 43)), some (ai (nI (p + 1))), some (ai (nI 1)), some (ai (nI 0)), some (ai (nI (v))), some (ai (nI 1)), none] [] σ1 := by
  have e23 := e1.at
  have eu := e1.up (b := e + 1)
  have hs1 := hR.2.1
  obtain ⟨σ2, hσ2⟩ : ∃ z, z = up σ1 79 23 (nI (e + 1)) := ⟨_, rfl⟩
  rw [← hσ2] at eu
  have u80 : σ2 80 = ρ := by rw [hσ2, up_ne (by decide)]; exact h80
  subst u80
  have r3 := hR.1
  refine g_aload_n (p0 := 196) (i := 0) dX10_does_195 rfl rfl rfl ?_
  refine g_getI (p0 := 199) dX10_does_196 fX10_190 (by first | rfl | assumption | exact RW.s (by assumption) | exact TW.s (by assumption)) rfl (by first | assumption | ((repeat (first | exact up_hit | refine up_nv (by decide) ?_ | refine up_mv (by first | decide | omega) ?_)) <;> first | assumption | rfl)) rfl ?_
  refine g_istore (p0 := 201) (i := 7) (ls2 := [_, _, _, _, _, _, _, _]) dX10_does_199 (Nat.le_of_ble_eq_true rfl) rfl rfl ?_
  refine g_aload_n (p0 := 202) (i := 0) dX10_does_201 rfl rfl rfl ?_
  refine g_dup (p0 := 203) dX10_does_202 rfl ?_
  refine g_getI (p0 := 206) dX10_does_203 fX10_190 (by first | rfl | assumption | exact RW.s (by assumption) | exact TW.s (by assumption)) rfl (by first | assumption | ((repeat (first | exact up_hit | refine up_nv (by decide) ?_ | refine up_mv (by first | decide | omega) ?_)) <;> first | assumption | rfl)) rfl ?_
  refine g_iconst (p0 := 207) (v := nI 1) dX10_does_206 rfl rfl ?_
  first | ((with_reducible refine isN2 ?_); refine g_iaddN (p0 := 208) dX10_does_207 rfl ?_) | refine g_iadd (p0 := 208) dX10_does_207 rfl ?_
  refine g_put (p0 := 211) dX10_does_208 fX10_190 (by first | rfl | assumption | exact RW.s (by assumption) | exact TW.s (by assumption)) rfl nX10_23 (pX10_23 _) rfl ?_
  rw [← hσ2]
  refine g_iload (p0 := 213) dX10_does_211 rfl rfl ?_
  first | ((with_reducible refine isN1 ?_); refine g_ifN_eq (tgt := 235) (p1 := 216) dX10_does_213 rfl (by omega) rfl (fun c_213 => ?_) (fun c_213 => by exfalso; first | omega | contradiction | exact absurd h c_213 | exact h c_213 | exact c_213 h | exact c_213 (by decide) | exact c_213 rfl | exact absurd rfl c_213)) | refine g_if_eq (tgt := 235) (p1 := 216) dX10_does_213 rfl rfl (fun c_213 => ?_) (fun c_213 => by exfalso; first | omega | contradiction | exact absurd h c_213 | exact h c_213 | exact c_213 h | exact c_213 (by decide) | exact c_213 rfl | exact absurd rfl c_213)
  refine g_iload_n (p0 := 236) (i := 1) dX10_does_235 rfl rfl rfl ?_
  refine g_bipush (p0 := 238) (v := nI 47) dX10_does_236 (by decide) rfl ?_
  first | ((with_reducible refine isN2 ?_); refine g_icmpN_ne (tgt := 250) (p1 := 241) dX10_does_238 rfl (by omega) (by omega) rfl (fun c_238 => ?_) (fun c_238 => by exfalso; first | omega | contradiction | exact absurd h c_238 | exact h c_238 | exact c_238 h | exact c_238 (by decide) | exact c_238 rfl | exact absurd rfl c_238)) | refine g_icmp_ne (tgt := 250) (p1 := 241) dX10_does_238 rfl rfl (fun c_238 => ?_) (fun c_238 => by exfalso; first | omega | contradiction | exact absurd h c_238 | exact h c_238 | exact c_238 h | exact c_238 (by decide) | exact c_238 rfl | exact absurd rfl c_238)
  refine g_iload_n (p0 := 251) (i := 1) dX10_does_250 rfl rfl rfl ?_
  refine g_bipush (p0 := 253) (v := nI 45) dX10_does_251 (by decide) rfl ?_
  first | ((with_reducible refine isN2 ?_); refine g_icmpN_ne (tgt := 284) (p1 := 256) dX10_does_253 rfl (by omega) (by omega) rfl (fun c_253 => ?_) (fun c_253 => by exfalso; first | omega | contradiction | exact absurd h c_253 | exact h c_253 | exact c_253 h | exact c_253 (by decide) | exact c_253 rfl | exact absurd rfl c_253)) | refine g_icmp_ne (tgt := 284) (p1 := 256) dX10_does_253 rfl rfl (fun c_253 => ?_) (fun c_253 => by exfalso; first | omega | contradiction | exact absurd h c_253 | exact h c_253 | exact c_253 h | exact c_253 (by decide) | exact c_253 rfl | exact absurd rfl c_253)
  refine g_aload_n (p0 := 285) (i := 0) dX10_does_284 rfl rfl rfl ?_
  refine g_iload (p0 := 287) dX10_does_285 rfl rfl ?_
  refine g_cV1R (p0 := 290) (r1 := mX10_isThere) dX10_does_287 lX10_103 vX10_isThere (by first | rfl | assumption | exact RW.s (by assumption) | exact TW.s (by assumption)) ⟨_, _, rfl⟩ (FITi rfl rfl) (Nat.le_of_ble_eq_true rfl) (isThere_T hR.1 hs1 hth.1 hth.2) rfl ?_
  first | ((with_reducible refine isN1 ?_); refine g_ifN_eq (tgt := 297) (p1 := 293) dX10_does_290 rfl (by omega) rfl (fun c_290 => by exfalso; first | omega | contradiction | exact absurd h c_290 | exact h c_290 | exact c_290 h | exact c_290 (by decide) | exact c_290 rfl | exact absurd rfl c_290) (fun c_290 => ?_)) | refine g_if_eq (tgt := 297) (p1 := 293) dX10_does_290 rfl rfl (fun c_290 => by exfalso; first | omega | contradiction | exact absurd h c_290 | exact h c_290 | exact c_290 h | exact c_290 (by decide) | exact c_290 rfl | exact absurd rfl c_290) (fun c_290 => ?_)
  refine g_iconst (p0 := 294) (v := nI 2) dX10_does_293 rfl rfl ?_
  refine g_goto (tgt := 327) dX10_does_294 rfl ?_
  refine g_ireturn dX10_does_327 rfl rfl (?_)
  exact ⟨_, rfl, rfl, eu.fd, fun z => absurd z (by decide)⟩
set_option maxRecDepth 20000 in
set_option maxHeartbeats 2000000 in
theorem sg_43f {v s : Nat} {ρ' : Nat → Int32} {p e : Nat} {σ σ1 : Sg} {ρ : Nat → Int32} (e1 : FA σ σ1 e) (h80 : σ1 80 = ρ) (he : e ≤ 60) (hR : RowOK ρ s) (hv : v ≤ 9999) (hth : ¬ THR ρ s (nI v)) (hs : s = 160) : WM mX10_does (DQ σ e 3 ρ') 195 [some (ar 79), some (ai (nI 43)), some (ai (nI (p + 1))), some (ai (nI 1)), some (ai (nI 0)), some (ai (nI (v))), some (ai (nI 1)), none] [] σ1 := by
  have e23 := e1.at
  have eu := e1.up (b := e + 1)
  have hs1 := hR.2.1
  obtain ⟨σ2, hσ2⟩ : ∃ z, z = up σ1 79 23 (nI (e + 1)) := ⟨_, rfl⟩
  rw [← hσ2] at eu
  have u80 : σ2 80 = ρ := by rw [hσ2, up_ne (by decide)]; exact h80
  subst u80
  have r3 := hR.1
  refine g_aload_n (p0 := 196) (i := 0) dX10_does_195 rfl rfl rfl ?_
  refine g_getI (p0 := 199) dX10_does_196 fX10_190 (by first | rfl | assumption | exact RW.s (by assumption) | exact TW.s (by assumption)) rfl (by first | assumption | ((repeat (first | exact up_hit | refine up_nv (by decide) ?_ | refine up_mv (by first | decide | omega) ?_)) <;> first | assumption | rfl)) rfl ?_
  refine g_istore (p0 := 201) (i := 7) (ls2 := [_, _, _, _, _, _, _, _]) dX10_does_199 (Nat.le_of_ble_eq_true rfl) rfl rfl ?_
  refine g_aload_n (p0 := 202) (i := 0) dX10_does_201 rfl rfl rfl ?_
  refine g_dup (p0 := 203) dX10_does_202 rfl ?_
  refine g_getI (p0 := 206) dX10_does_203 fX10_190 (by first | rfl | assumption | exact RW.s (by assumption) | exact TW.s (by assumption)) rfl (by first | assumption | ((repeat (first | exact up_hit | refine up_nv (by decide) ?_ | refine up_mv (by first | decide | omega) ?_)) <;> first | assumption | rfl)) rfl ?_
  refine g_iconst (p0 := 207) (v := nI 1) dX10_does_206 rfl rfl ?_
  first | ((with_reducible refine isN2 ?_); refine g_iaddN (p0 := 208) dX10_does_207 rfl ?_) | refine g_iadd (p0 := 208) dX10_does_207 rfl ?_
  refine g_put (p0 := 211) dX10_does_208 fX10_190 (by first | rfl | assumption | exact RW.s (by assumption) | exact TW.s (by assumption)) rfl nX10_23 (pX10_23 _) rfl ?_
  rw [← hσ2]
  refine g_iload (p0 := 213) dX10_does_211 rfl rfl ?_
  first | ((with_reducible refine isN1 ?_); refine g_ifN_eq (tgt := 235) (p1 := 216) dX10_does_213 rfl (by omega) rfl (fun c_213 => ?_) (fun c_213 => by exfalso; first | omega | contradiction | exact absurd h c_213 | exact h c_213 | exact c_213 h | exact c_213 (by decide) | exact c_213 rfl | exact absurd rfl c_213)) | refine g_if_eq (tgt := 235) (p1 := 216) dX10_does_213 rfl rfl (fun c_213 => ?_) (fun c_213 => by exfalso; first | omega | contradiction | exact absurd h c_213 | exact h c_213 | exact c_213 h | exact c_213 (by decide) | exact c_213 rfl | exact absurd rfl c_213)
  refine g_iload_n (p0 := 236) (i := 1) dX10_does_235 rfl rfl rfl ?_
  refine g_bipush (p0 := 238) (v := nI 47) dX10_does_236 (by decide) rfl ?_
  first | ((with_reducible refine isN2 ?_); refine g_icmpN_ne (tgt := 250) (p1 := 241) dX10_does_238 rfl (by omega) (by omega) rfl (fun c_238 => ?_) (fun c_238 => by exfalso; first | omega | contradiction | exact absurd h c_238 | exact h c_238 | exact c_238 h | exact c_238 (by decide) | exact c_238 rfl | exact absurd rfl c_238)) | refine g_icmp_ne (tgt := 250) (p1 := 241) dX10_does_238 rfl rfl (fun c_238 => ?_) (fun c_238 => by exfalso; first | omega | contradiction | exact absurd h c_238 | exact h c_238 | exact c_238 h | exact c_238 (by decide) | exact c_238 rfl | exact absurd rfl c_238)
  refine g_iload_n (p0 := 251) (i := 1) dX10_does_250 rfl rfl rfl ?_
  refine g_bipush (p0 := 253) (v := nI 45) dX10_does_251 (by decide) rfl ?_
  first | ((with_reducible refine isN2 ?_); refine g_icmpN_ne (tgt := 284) (p1 := 256) dX10_does_253 rfl (by omega) (by omega) rfl (fun c_253 => ?_) (fun c_253 => by exfalso; first | omega | contradiction | exact absurd h c_253 | exact h c_253 | exact c_253 h | exact c_253 (by decide) | exact c_253 rfl | exact absurd rfl c_253)) | refine g_icmp_ne (tgt := 284) (p1 := 256) dX10_does_253 rfl rfl (fun c_253 => ?_) (fun c_253 => by exfalso; first | omega | contradiction | exact absurd h c_253 | exact h c_253 | exact c_253 h | exact c_253 (by decide) | exact c_253 rfl | exact absurd rfl c_253)
  refine g_aload_n (p0 := 285) (i := 0) dX10_does_284 rfl rfl rfl ?_
  refine g_iload (p0 := 287) dX10_does_285 rfl rfl ?_
  refine g_cV1R (p0 := 290) (r1 := mX10_isThere) dX10_does_287 lX10_103 vX10_isThere (by first | rfl | assumption | exact RW.s (by assumption) | exact TW.s (by assumption)) ⟨_, _, rfl⟩ (FITi rfl rfl) (Nat.le_of_ble_eq_true rfl) (there_r hR hth) rfl ?_
  first | ((with_reducible refine isN1 ?_); refine g_ifN_eq (tgt := 297) (p1 := 293) dX10_does_290 rfl (by omega) rfl (fun c_290 => ?_) (fun c_290 => by exfalso; first | omega | contradiction | exact absurd h c_290 | exact h c_290 | exact c_290 h | exact c_290 (by decide) | exact c_290 rfl | exact absurd rfl c_290)) | refine g_if_eq (tgt := 297) (p1 := 293) dX10_does_290 rfl rfl (fun c_290 => ?_) (fun c_290 => by exfalso; first | omega | contradiction | exact absurd h c_290 | exact h c_290 | exact c_290 h | exact c_290 (by decide) | exact c_290 rfl | exact absurd rfl c_290)
  refine g_aload_n (p0 := 298) (i := 0) dX10_does_297 rfl rfl rfl ?_
  refine g_getR (p0 := 301) dX10_does_298 fX10_7 (by first | rfl | assumption | exact RW.s (by assumption) | exact TW.s (by assumption)) rfl rfl ?_
  refine g_iconst (p0 := 302) (v := nI 3) dX10_does_301 rfl rfl ?_
  first | ((with_reducible refine isN1 ?_); refine g_aldN (p0 := 303) dX10_does_302 (by first | rfl | assumption | exact RW.s (by assumption) | exact TW.s (by assumption)) (by first | decide | assumption) (by omega) (by first | assumption | ((repeat (first | exact up_hit | refine up_nv (by decide) ?_ | refine up_mv (by first | decide | omega) ?_)) <;> first | assumption | rfl)) rfl ?_) | refine g_ald (p0 := 303) dX10_does_302 (by first | rfl | assumption | exact RW.s (by assumption) | exact TW.s (by assumption)) (by assumption) (by first | assumption | ((repeat (first | exact up_hit | refine up_nv (by decide) ?_ | refine up_mv (by first | decide | omega) ?_)) <;> first | assumption | rfl)) rfl ?_
  refine g_sipush (p0 := 306) (v := nI 160) dX10_does_303 (by decide) rfl ?_
  first | ((with_reducible refine isN2 ?_); refine g_icmpN_ne (tgt := 313) (p1 := 309) dX10_does_306 rfl (by omega) (by omega) rfl (fun c_306 => by exfalso; first | omega | contradiction | exact absurd h c_306 | exact h c_306 | exact c_306 h | exact c_306 (by decide) | exact c_306 rfl | exact absurd rfl c_306) (fun c_306 => ?_)) | refine g_icmp_ne (tgt := 313) (p1 := 309) dX10_does_306 rfl rfl (fun c_306 => by exfalso; first | omega | contradiction | exact absurd h c_306 | exact h c_306 | exact c_306 h | exact c_306 (by decide) | exact c_306 rfl | exact absurd rfl c_306) (fun c_306 => ?_)
  refine g_iconst (p0 := 310) (v := nI 3) dX10_does_309 rfl rfl ?_
  refine g_goto (tgt := 327) dX10_does_310 rfl ?_
  refine g_ireturn dX10_does_327 rfl rfl (?_)
  exact ⟨_, rfl, rfl, eu.fd, fun z => absurd z (by decide)⟩
set_option maxRecDepth 20000 in
set_option maxHeartbeats 2000000 in
theorem sg_43T {v s : Nat} {p e : Nat} {σ σ1 : Sg} {ρ : Nat → Int32} (e1 : FA σ σ1 e) (h80 : σ1 80 = ρ) (he : e ≤ 60) (hR : RowOK ρ s) (hv : v ≤ 9999) (hth : ¬ THR ρ s (nI v)) (hs : s < 160) : WM mX10_does (DQ σ e 0 (INS ρ s (nI v))) 195 [some (ar 79), some (ai (nI 43)), some (ai (nI (p + 1))), some (ai (nI 1)), some (ai (nI 0)), some (ai (nI (v))), some (ai (nI 1)), none] [] σ1 := by
  have e23 := e1.at
  have eu := e1.up (b := e + 1)
  have hs1 := hR.2.1
  obtain ⟨σ2, hσ2⟩ : ∃ z, z = up σ1 79 23 (nI (e + 1)) := ⟨_, rfl⟩
  rw [← hσ2] at eu
  have u80 : σ2 80 = ρ := by rw [hσ2, up_ne (by decide)]; exact h80
  subst u80
  have r3 := hR.1
  have ha := ah_le (tm (σ2 80)) s (nI v)
  have hpt : CM mX10_puts [ar 79, ai (nI v)] σ2 (Ret (nI (ah (tm (σ2 80)) s (nI v))) (setR σ2 80 (INS (σ2 80) s (nI v)))) := puts_sp hR.1 hs
  have hf := F80_set (σ := σ2) (f := INS (σ2 80) s (nI v)) (fun k hk => INS_189 hs hk)
  refine g_aload_n (p0 := 196) (i := 0) dX10_does_195 rfl rfl rfl ?_
  refine g_getI (p0 := 199) dX10_does_196 fX10_190 (by first | rfl | assumption | exact RW.s (by assumption) | exact TW.s (by assumption)) rfl (by first | assumption | ((repeat (first | exact up_hit | refine up_nv (by decide) ?_ | refine up_mv (by first | decide | omega) ?_)) <;> first | assumption | rfl)) rfl ?_
  refine g_istore (p0 := 201) (i := 7) (ls2 := [_, _, _, _, _, _, _, _]) dX10_does_199 (Nat.le_of_ble_eq_true rfl) rfl rfl ?_
  refine g_aload_n (p0 := 202) (i := 0) dX10_does_201 rfl rfl rfl ?_
  refine g_dup (p0 := 203) dX10_does_202 rfl ?_
  refine g_getI (p0 := 206) dX10_does_203 fX10_190 (by first | rfl | assumption | exact RW.s (by assumption) | exact TW.s (by assumption)) rfl (by first | assumption | ((repeat (first | exact up_hit | refine up_nv (by decide) ?_ | refine up_mv (by first | decide | omega) ?_)) <;> first | assumption | rfl)) rfl ?_
  refine g_iconst (p0 := 207) (v := nI 1) dX10_does_206 rfl rfl ?_
  first | ((with_reducible refine isN2 ?_); refine g_iaddN (p0 := 208) dX10_does_207 rfl ?_) | refine g_iadd (p0 := 208) dX10_does_207 rfl ?_
  refine g_put (p0 := 211) dX10_does_208 fX10_190 (by first | rfl | assumption | exact RW.s (by assumption) | exact TW.s (by assumption)) rfl nX10_23 (pX10_23 _) rfl ?_
  rw [← hσ2]
  refine g_iload (p0 := 213) dX10_does_211 rfl rfl ?_
  first | ((with_reducible refine isN1 ?_); refine g_ifN_eq (tgt := 235) (p1 := 216) dX10_does_213 rfl (by omega) rfl (fun c_213 => ?_) (fun c_213 => by exfalso; first | omega | contradiction | exact absurd h c_213 | exact h c_213 | exact c_213 h | exact c_213 (by decide) | exact c_213 rfl | exact absurd rfl c_213)) | refine g_if_eq (tgt := 235) (p1 := 216) dX10_does_213 rfl rfl (fun c_213 => ?_) (fun c_213 => by exfalso; first | omega | contradiction | exact absurd h c_213 | exact h c_213 | exact c_213 h | exact c_213 (by decide) | exact c_213 rfl | exact absurd rfl c_213)
  refine g_iload_n (p0 := 236) (i := 1) dX10_does_235 rfl rfl rfl ?_
  refine g_bipush (p0 := 238) (v := nI 47) dX10_does_236 (by decide) rfl ?_
  first | ((with_reducible refine isN2 ?_); refine g_icmpN_ne (tgt := 250) (p1 := 241) dX10_does_238 rfl (by omega) (by omega) rfl (fun c_238 => ?_) (fun c_238 => by exfalso; first | omega | contradiction | exact absurd h c_238 | exact h c_238 | exact c_238 h | exact c_238 (by decide) | exact c_238 rfl | exact absurd rfl c_238)) | refine g_icmp_ne (tgt := 250) (p1 := 241) dX10_does_238 rfl rfl (fun c_238 => ?_) (fun c_238 => by exfalso; first | omega | contradiction | exact absurd h c_238 | exact h c_238 | exact c_238 h | exact c_238 (by decide) | exact c_238 rfl | exact absurd rfl c_238)
  refine g_iload_n (p0 := 251) (i := 1) dX10_does_250 rfl rfl rfl ?_
  refine g_bipush (p0 := 253) (v := nI 45) dX10_does_251 (by decide) rfl ?_
  first | ((with_reducible refine isN2 ?_); refine g_icmpN_ne (tgt := 284) (p1 := 256) dX10_does_253 rfl (by omega) (by omega) rfl (fun c_253 => ?_) (fun c_253 => by exfalso; first | omega | contradiction | exact absurd h c_253 | exact h c_253 | exact c_253 h | exact c_253 (by decide) | exact c_253 rfl | exact absurd rfl c_253)) | refine g_icmp_ne (tgt := 284) (p1 := 256) dX10_does_253 rfl rfl (fun c_253 => ?_) (fun c_253 => by exfalso; first | omega | contradiction | exact absurd h c_253 | exact h c_253 | exact c_253 h | exact c_253 (by decide) | exact c_253 rfl | exact absurd rfl c_253)
  refine g_aload_n (p0 := 285) (i := 0) dX10_does_284 rfl rfl rfl ?_
  refine g_iload (p0 := 287) dX10_does_285 rfl rfl ?_
  refine g_cV1R (p0 := 290) (r1 := mX10_isThere) dX10_does_287 lX10_103 vX10_isThere (by first | rfl | assumption | exact RW.s (by assumption) | exact TW.s (by assumption)) ⟨_, _, rfl⟩ (FITi rfl rfl) (Nat.le_of_ble_eq_true rfl) (there_r hR hth) rfl ?_
  first | ((with_reducible refine isN1 ?_); refine g_ifN_eq (tgt := 297) (p1 := 293) dX10_does_290 rfl (by omega) rfl (fun c_290 => ?_) (fun c_290 => by exfalso; first | omega | contradiction | exact absurd h c_290 | exact h c_290 | exact c_290 h | exact c_290 (by decide) | exact c_290 rfl | exact absurd rfl c_290)) | refine g_if_eq (tgt := 297) (p1 := 293) dX10_does_290 rfl rfl (fun c_290 => ?_) (fun c_290 => by exfalso; first | omega | contradiction | exact absurd h c_290 | exact h c_290 | exact c_290 h | exact c_290 (by decide) | exact c_290 rfl | exact absurd rfl c_290)
  refine g_aload_n (p0 := 298) (i := 0) dX10_does_297 rfl rfl rfl ?_
  refine g_getR (p0 := 301) dX10_does_298 fX10_7 (by first | rfl | assumption | exact RW.s (by assumption) | exact TW.s (by assumption)) rfl rfl ?_
  refine g_iconst (p0 := 302) (v := nI 3) dX10_does_301 rfl rfl ?_
  first | ((with_reducible refine isN1 ?_); refine g_aldN (p0 := 303) dX10_does_302 (by first | rfl | assumption | exact RW.s (by assumption) | exact TW.s (by assumption)) (by first | decide | assumption) (by omega) (by first | assumption | ((repeat (first | exact up_hit | refine up_nv (by decide) ?_ | refine up_mv (by first | decide | omega) ?_)) <;> first | assumption | rfl)) rfl ?_) | refine g_ald (p0 := 303) dX10_does_302 (by first | rfl | assumption | exact RW.s (by assumption) | exact TW.s (by assumption)) (by assumption) (by first | assumption | ((repeat (first | exact up_hit | refine up_nv (by decide) ?_ | refine up_mv (by first | decide | omega) ?_)) <;> first | assumption | rfl)) rfl ?_
  refine g_sipush (p0 := 306) (v := nI 160) dX10_does_303 (by decide) rfl ?_
  first | ((with_reducible refine isN2 ?_); refine g_icmpN_ne (tgt := 313) (p1 := 309) dX10_does_306 rfl (by omega) (by omega) rfl (fun c_306 => ?_) (fun c_306 => by exfalso; first | omega | contradiction | exact absurd h c_306 | exact h c_306 | exact c_306 h | exact c_306 (by decide) | exact c_306 rfl | exact absurd rfl c_306)) | refine g_icmp_ne (tgt := 313) (p1 := 309) dX10_does_306 rfl rfl (fun c_306 => ?_) (fun c_306 => by exfalso; first | omega | contradiction | exact absurd h c_306 | exact h c_306 | exact c_306 h | exact c_306 (by decide) | exact c_306 rfl | exact absurd rfl c_306)
  refine g_aload_n (p0 := 314) (i := 0) dX10_does_313 rfl rfl rfl ?_
  refine g_iload (p0 := 316) dX10_does_314 rfl rfl ?_
  refine g_cV1R (p0 := 319) (r1 := mX10_puts) dX10_does_316 lX10_106 vX10_puts (by first | rfl | assumption | exact RW.s (by assumption) | exact TW.s (by assumption)) ⟨_, _, rfl⟩ (FITi rfl rfl) (Nat.le_of_ble_eq_true rfl) (hpt) rfl ?_
  first | ((with_reducible refine isN1 ?_); refine g_ifN_ge (tgt := 326) (p1 := 322) dX10_does_319 rfl (by omega) rfl (fun c_319 => ?_) (fun c_319 => by exfalso; first | omega | contradiction | exact absurd h c_319 | exact h c_319 | exact c_319 h | exact c_319 (by decide) | exact c_319 rfl | exact absurd rfl c_319)) | refine g_if_ge (tgt := 326) (p1 := 322) dX10_does_319 rfl rfl (fun c_319 => ?_) (fun c_319 => by exfalso; first | omega | contradiction | exact absurd h c_319 | exact h c_319 | exact c_319 h | exact c_319 (by decide) | exact c_319 rfl | exact absurd rfl c_319)
  refine g_iconst (p0 := 327) (v := nI 0) dX10_does_326 rfl rfl ?_
  refine g_ireturn dX10_does_327 rfl rfl (?_)
  obtain ⟨z1, z2⟩ := eu.fd80 hf
  exact ⟨_, rfl, rfl, z1, fun _ => ⟨z2, setR_hit⟩⟩
set_option maxRecDepth 20000 in
set_option maxHeartbeats 2000000 in
theorem po_61 {T : Nat → Nat} {len p e : Nat} {P : Int32 → Sg → Prop} {σ : Sg} (hT : TOK T len) (hC : TC σ T len) (hp : σ 76 2 = nI p) (hpl : p < len) (hsg : T p = 61) (h : CM mX5_ringAll [ar 76, ar 6, ai (nI e), ai (nI 0)] σ (RelI P)) : CM mX5_performOne [ar 76, ar 6, ai (nI e)] σ (RelI P) := by
  have hl := hT.1
  have et : σ 78 p = nI 61 := by rw [hC.2 p hpl, hsg]
  refine CM_in (ls := [some (ar 76), some (ar 6), some (ai (nI e))]) rfl ?_
  refine g_aload_n (p0 := 1) (i := 0) dX5_performOne_0 rfl rfl rfl ?_
  refine g_getR (p0 := 4) dX5_performOne_1 fX5_14 (by first | rfl | assumption | exact RW.s (by assumption) | exact TW.s (by assumption)) rfl rfl ?_
  refine g_aload_n (p0 := 5) (i := 0) dX5_performOne_4 rfl rfl rfl ?_
  refine g_getI (p0 := 8) dX5_performOne_5 fX5_24 (by first | rfl | assumption | exact RW.s (by assumption) | exact TW.s (by assumption)) rfl (by first | assumption | ((repeat (first | exact up_hit | refine up_nv (by decide) ?_ | refine up_mv (by first | decide | omega) ?_)) <;> first | assumption | rfl)) rfl ?_
  refine g_cV1R (p0 := 11) (r1 := mX7_at) dX5_performOne_8 lX5_40 vX7_at (by first | rfl | assumption | exact RW.s (by assumption) | exact TW.s (by assumption)) ⟨_, _, rfl⟩ (FITi rfl rfl) (Nat.le_of_ble_eq_true rfl) (at_N ⟨rfl, rfl, by decide⟩ (by omega) et) rfl ?_
  refine g_look (tgt := 60) (off := 49) dX5_performOne_11 (by decide +kernel) (by decide +kernel) rfl ?_
  refine g_aload_n (p0 := 61) (i := 0) dX5_performOne_60 rfl rfl rfl ?_
  refine g_aload_n (p0 := 62) (i := 1) dX5_performOne_61 rfl rfl rfl ?_
  refine g_iload_n (p0 := 63) (i := 2) dX5_performOne_62 rfl rfl rfl ?_
  refine g_iconst (p0 := 64) (v := nI 0) dX5_performOne_63 rfl rfl ?_
  refine g_cV3I (p0 := 67) (r1 := mX5_ringAll) dX5_performOne_64 lX5_48 vX5_ringAll (by first | rfl | assumption | exact RW.s (by assumption) | exact TW.s (by assumption)) ⟨_, _, rfl⟩ (FITi rfl rfl) (Nat.le_of_ble_eq_true rfl) (h) rfl ?_
  rintro u σ1 hP
  refine g_ireturn dX5_performOne_67 rfl rfl (?_)
  exact ⟨_, rfl, hP⟩
set_option maxRecDepth 20000 in
set_option maxHeartbeats 2000000 in
theorem po_33 {T : Nat → Nat} {len p e : Nat} {P : Int32 → Sg → Prop} {σ : Sg} (hT : TOK T len) (hC : TC σ T len) (hp : σ 76 2 = nI p) (hpl : p < len) (hsg : T p = 33) (h : CM mX5_ringAll [ar 76, ar 6, ai (nI e), ai (nI 1)] σ (RelI P)) : CM mX5_performOne [ar 76, ar 6, ai (nI e)] σ (RelI P) := by
  have hl := hT.1
  have et : σ 78 p = nI 33 := by rw [hC.2 p hpl, hsg]
  refine CM_in (ls := [some (ar 76), some (ar 6), some (ai (nI e))]) rfl ?_
  refine g_aload_n (p0 := 1) (i := 0) dX5_performOne_0 rfl rfl rfl ?_
  refine g_getR (p0 := 4) dX5_performOne_1 fX5_14 (by first | rfl | assumption | exact RW.s (by assumption) | exact TW.s (by assumption)) rfl rfl ?_
  refine g_aload_n (p0 := 5) (i := 0) dX5_performOne_4 rfl rfl rfl ?_
  refine g_getI (p0 := 8) dX5_performOne_5 fX5_24 (by first | rfl | assumption | exact RW.s (by assumption) | exact TW.s (by assumption)) rfl (by first | assumption | ((repeat (first | exact up_hit | refine up_nv (by decide) ?_ | refine up_mv (by first | decide | omega) ?_)) <;> first | assumption | rfl)) rfl ?_
  refine g_cV1R (p0 := 11) (r1 := mX7_at) dX5_performOne_8 lX5_40 vX7_at (by first | rfl | assumption | exact RW.s (by assumption) | exact TW.s (by assumption)) ⟨_, _, rfl⟩ (FITi rfl rfl) (Nat.le_of_ble_eq_true rfl) (at_N ⟨rfl, rfl, by decide⟩ (by omega) et) rfl ?_
  refine g_look (tgt := 68) (off := 57) dX5_performOne_11 (by decide +kernel) (by decide +kernel) rfl ?_
  refine g_aload_n (p0 := 69) (i := 0) dX5_performOne_68 rfl rfl rfl ?_
  refine g_aload_n (p0 := 70) (i := 1) dX5_performOne_69 rfl rfl rfl ?_
  refine g_iload_n (p0 := 71) (i := 2) dX5_performOne_70 rfl rfl rfl ?_
  refine g_iconst (p0 := 72) (v := nI 1) dX5_performOne_71 rfl rfl ?_
  refine g_cV3I (p0 := 75) (r1 := mX5_ringAll) dX5_performOne_72 lX5_48 vX5_ringAll (by first | rfl | assumption | exact RW.s (by assumption) | exact TW.s (by assumption)) ⟨_, _, rfl⟩ (FITi rfl rfl) (Nat.le_of_ble_eq_true rfl) (h) rfl ?_
  rintro u σ1 hP
  refine g_ireturn dX5_performOne_75 rfl rfl (?_)
  exact ⟨_, rfl, hP⟩
set_option maxRecDepth 20000 in
set_option maxHeartbeats 2000000 in
theorem po_47 {T : Nat → Nat} {len p e : Nat} {P : Int32 → Sg → Prop} {σ : Sg} (hT : TOK T len) (hC : TC σ T len) (hp : σ 76 2 = nI p) (hpl : p < len) (hsg : T p = 47) (h : CM mX5_setPause [ar 76, ar 6, ai (nI e)] σ (RelI P)) : CM mX5_performOne [ar 76, ar 6, ai (nI e)] σ (RelI P) := by
  have hl := hT.1
  have et : σ 78 p = nI 47 := by rw [hC.2 p hpl, hsg]
  refine CM_in (ls := [some (ar 76), some (ar 6), some (ai (nI e))]) rfl ?_
  refine g_aload_n (p0 := 1) (i := 0) dX5_performOne_0 rfl rfl rfl ?_
  refine g_getR (p0 := 4) dX5_performOne_1 fX5_14 (by first | rfl | assumption | exact RW.s (by assumption) | exact TW.s (by assumption)) rfl rfl ?_
  refine g_aload_n (p0 := 5) (i := 0) dX5_performOne_4 rfl rfl rfl ?_
  refine g_getI (p0 := 8) dX5_performOne_5 fX5_24 (by first | rfl | assumption | exact RW.s (by assumption) | exact TW.s (by assumption)) rfl (by first | assumption | ((repeat (first | exact up_hit | refine up_nv (by decide) ?_ | refine up_mv (by first | decide | omega) ?_)) <;> first | assumption | rfl)) rfl ?_
  refine g_cV1R (p0 := 11) (r1 := mX7_at) dX5_performOne_8 lX5_40 vX7_at (by first | rfl | assumption | exact RW.s (by assumption) | exact TW.s (by assumption)) ⟨_, _, rfl⟩ (FITi rfl rfl) (Nat.le_of_ble_eq_true rfl) (at_N ⟨rfl, rfl, by decide⟩ (by omega) et) rfl ?_
  refine g_look (tgt := 76) (off := 65) dX5_performOne_11 (by decide +kernel) (by decide +kernel) rfl ?_
  refine g_aload_n (p0 := 77) (i := 0) dX5_performOne_76 rfl rfl rfl ?_
  refine g_aload_n (p0 := 78) (i := 1) dX5_performOne_77 rfl rfl rfl ?_
  refine g_iload_n (p0 := 79) (i := 2) dX5_performOne_78 rfl rfl rfl ?_
  refine g_cV2I (p0 := 82) (r1 := mX5_setPause) dX5_performOne_79 lX5_52 vX5_setPause (by first | rfl | assumption | exact RW.s (by assumption) | exact TW.s (by assumption)) ⟨_, _, rfl⟩ (FITi rfl rfl) (Nat.le_of_ble_eq_true rfl) (h) rfl ?_
  rintro u σ1 hP
  refine g_ireturn dX5_performOne_82 rfl rfl (?_)
  exact ⟨_, rfl, hP⟩
set_option maxRecDepth 20000 in
set_option maxHeartbeats 2000000 in
theorem po_45 {T : Nat → Nat} {len p e : Nat} {P : Int32 → Sg → Prop} {σ : Sg} (hT : TOK T len) (hC : TC σ T len) (hp : σ 76 2 = nI p) (hpl : p < len) (hsg : T p = 45) {x : Int32} (hn : CM mX5_numberUpTo [ar 76, ai (nI e)] σ (Ret x σ)) (h : CM mX5_muteOne [ar 76, ar 6, ai x] σ (RelI P)) : CM mX5_performOne [ar 76, ar 6, ai (nI e)] σ (RelI P) := by
  have hl := hT.1
  have et : σ 78 p = nI 45 := by rw [hC.2 p hpl, hsg]
  refine CM_in (ls := [some (ar 76), some (ar 6), some (ai (nI e))]) rfl ?_
  refine g_aload_n (p0 := 1) (i := 0) dX5_performOne_0 rfl rfl rfl ?_
  refine g_getR (p0 := 4) dX5_performOne_1 fX5_14 (by first | rfl | assumption | exact RW.s (by assumption) | exact TW.s (by assumption)) rfl rfl ?_
  refine g_aload_n (p0 := 5) (i := 0) dX5_performOne_4 rfl rfl rfl ?_
  refine g_getI (p0 := 8) dX5_performOne_5 fX5_24 (by first | rfl | assumption | exact RW.s (by assumption) | exact TW.s (by assumption)) rfl (by first | assumption | ((repeat (first | exact up_hit | refine up_nv (by decide) ?_ | refine up_mv (by first | decide | omega) ?_)) <;> first | assumption | rfl)) rfl ?_
  refine g_cV1R (p0 := 11) (r1 := mX7_at) dX5_performOne_8 lX5_40 vX7_at (by first | rfl | assumption | exact RW.s (by assumption) | exact TW.s (by assumption)) ⟨_, _, rfl⟩ (FITi rfl rfl) (Nat.le_of_ble_eq_true rfl) (at_N ⟨rfl, rfl, by decide⟩ (by omega) et) rfl ?_
  refine g_look (tgt := 83) (off := 72) dX5_performOne_11 (by decide +kernel) (by decide +kernel) rfl ?_
  refine g_aload_n (p0 := 84) (i := 0) dX5_performOne_83 rfl rfl rfl ?_
  refine g_aload_n (p0 := 85) (i := 1) dX5_performOne_84 rfl rfl rfl ?_
  refine g_aload_n (p0 := 86) (i := 0) dX5_performOne_85 rfl rfl rfl ?_
  refine g_iload_n (p0 := 87) (i := 2) dX5_performOne_86 rfl rfl rfl ?_
  refine g_cV1R (p0 := 90) (r1 := mX5_numberUpTo) dX5_performOne_87 lX5_55 vX5_numberUpTo (by first | rfl | assumption | exact RW.s (by assumption) | exact TW.s (by assumption)) ⟨_, _, rfl⟩ (FITi rfl rfl) (Nat.le_of_ble_eq_true rfl) (hn) rfl ?_
  refine g_cV2I (p0 := 93) (r1 := mX5_muteOne) dX5_performOne_90 lX5_58 vX5_muteOne (by first | rfl | assumption | exact RW.s (by assumption) | exact TW.s (by assumption)) ⟨_, _, rfl⟩ (FITi rfl rfl) (Nat.le_of_ble_eq_true rfl) (h) rfl ?_
  rintro u σ1 hP
  refine g_ireturn dX5_performOne_93 rfl rfl (?_)
  exact ⟨_, rfl, hP⟩
set_option maxRecDepth 20000 in
set_option maxHeartbeats 2000000 in
theorem po_43 {T : Nat → Nat} {len p e : Nat} {P : Int32 → Sg → Prop} {σ : Sg} (hT : TOK T len) (hC : TC σ T len) (hp : σ 76 2 = nI p) (hpl : p < len) (hsg : T p = 43) {x : Int32} (hn : CM mX5_numberUpTo [ar 76, ai (nI e)] σ (Ret x σ)) (h : CM mX5_strikeOne [ar 76, ar 6, ai x] σ (RelI P)) : CM mX5_performOne [ar 76, ar 6, ai (nI e)] σ (RelI P) := by
  have hl := hT.1
  have et : σ 78 p = nI 43 := by rw [hC.2 p hpl, hsg]
  refine CM_in (ls := [some (ar 76), some (ar 6), some (ai (nI e))]) rfl ?_
  refine g_aload_n (p0 := 1) (i := 0) dX5_performOne_0 rfl rfl rfl ?_
  refine g_getR (p0 := 4) dX5_performOne_1 fX5_14 (by first | rfl | assumption | exact RW.s (by assumption) | exact TW.s (by assumption)) rfl rfl ?_
  refine g_aload_n (p0 := 5) (i := 0) dX5_performOne_4 rfl rfl rfl ?_
  refine g_getI (p0 := 8) dX5_performOne_5 fX5_24 (by first | rfl | assumption | exact RW.s (by assumption) | exact TW.s (by assumption)) rfl (by first | assumption | ((repeat (first | exact up_hit | refine up_nv (by decide) ?_ | refine up_mv (by first | decide | omega) ?_)) <;> first | assumption | rfl)) rfl ?_
  refine g_cV1R (p0 := 11) (r1 := mX7_at) dX5_performOne_8 lX5_40 vX7_at (by first | rfl | assumption | exact RW.s (by assumption) | exact TW.s (by assumption)) ⟨_, _, rfl⟩ (FITi rfl rfl) (Nat.le_of_ble_eq_true rfl) (at_N ⟨rfl, rfl, by decide⟩ (by omega) et) rfl ?_
  refine g_look (tgt := 94) (off := 83) dX5_performOne_11 (by decide +kernel) (by decide +kernel) rfl ?_
  refine g_aload_n (p0 := 95) (i := 0) dX5_performOne_94 rfl rfl rfl ?_
  refine g_aload_n (p0 := 96) (i := 1) dX5_performOne_95 rfl rfl rfl ?_
  refine g_aload_n (p0 := 97) (i := 0) dX5_performOne_96 rfl rfl rfl ?_
  refine g_iload_n (p0 := 98) (i := 2) dX5_performOne_97 rfl rfl rfl ?_
  refine g_cV1R (p0 := 101) (r1 := mX5_numberUpTo) dX5_performOne_98 lX5_55 vX5_numberUpTo (by first | rfl | assumption | exact RW.s (by assumption) | exact TW.s (by assumption)) ⟨_, _, rfl⟩ (FITi rfl rfl) (Nat.le_of_ble_eq_true rfl) (hn) rfl ?_
  refine g_cV2I (p0 := 104) (r1 := mX5_strikeOne) dX5_performOne_101 lX5_61 vX5_strikeOne (by first | rfl | assumption | exact RW.s (by assumption) | exact TW.s (by assumption)) ⟨_, _, rfl⟩ (FITi rfl rfl) (Nat.le_of_ble_eq_true rfl) (h) rfl ?_
  rintro u σ1 hP
  refine g_ireturn dX5_performOne_104 rfl rfl (?_)
  exact ⟨_, rfl, hP⟩
set_option maxRecDepth 20000 in
set_option maxHeartbeats 2000000 in
theorem po_O {T : Nat → Nat} {len p e : Nat} {P : Int32 → Sg → Prop} {σ : Sg} (hT : TOK T len) (hC : TC σ T len) (hp : σ 76 2 = nI p) (hpl : p < len) (h1 : ¬ T p = 33) (h2 : ¬ T p = 43) (h3 : ¬ T p = 45) (h4 : ¬ T p = 47) (h5 : ¬ T p = 61) (h : P (nI 1) σ) : CM mX5_performOne [ar 76, ar 6, ai (nI e)] σ (RelI P) := by
  have hl := hT.1
  have et := hC.2 p hpl
  have ht := hT.2 p hpl
  refine CM_in (ls := [some (ar 76), some (ar 6), some (ai (nI e))]) rfl ?_
  refine g_aload_n (p0 := 1) (i := 0) dX5_performOne_0 rfl rfl rfl ?_
  refine g_getR (p0 := 4) dX5_performOne_1 fX5_14 (by first | rfl | assumption | exact RW.s (by assumption) | exact TW.s (by assumption)) rfl rfl ?_
  refine g_aload_n (p0 := 5) (i := 0) dX5_performOne_4 rfl rfl rfl ?_
  refine g_getI (p0 := 8) dX5_performOne_5 fX5_24 (by first | rfl | assumption | exact RW.s (by assumption) | exact TW.s (by assumption)) rfl (by first | assumption | ((repeat (first | exact up_hit | refine up_nv (by decide) ?_ | refine up_mv (by first | decide | omega) ?_)) <;> first | assumption | rfl)) rfl ?_
  refine g_cV1R (p0 := 11) (r1 := mX7_at) dX5_performOne_8 lX5_40 vX7_at (by first | rfl | assumption | exact RW.s (by assumption) | exact TW.s (by assumption)) ⟨_, _, rfl⟩ (FITi rfl rfl) (Nat.le_of_ble_eq_true rfl) (at_N ⟨rfl, rfl, by decide⟩ (by omega) et) rfl ?_
  refine g_look (tgt := 105) (off := 94) dX5_performOne_11 (by decide +kernel) (sg_off (by omega) h1 h2 h3 h4 h5) rfl ?_
  refine g_iconst (p0 := 106) (v := nI 1) dX5_performOne_105 rfl rfl ?_
  refine g_ireturn dX5_performOne_106 rfl rfl (?_)
  exact ⟨_, rfl, h⟩
theorem setP_J {ρ : Nat → Int32} {s : Nat} {σ : Sg} (hRep : Rep σ 6 ρ s) : F6 σ (up σ 6 5 (nI 1)) ∧ Rep (up σ 6 5 (nI 1)) 6 (upd ρ 2 (nI 1)) s := by
  obtain ⟨b1, b2, b3, b4, b5, b6⟩ := hRep
  refine ⟨fun z h6 _ => up_ne h6, by rw [up_miss (by decide)]; exact b1, by rw [up_miss (by decide), upd_ne (by decide)]; exact b2, by rw [up_miss (by decide), upd_ne (by decide)]; exact b3, by rw [up_hit, upd_hit], fun l hl => by rw [up_ne (by decide), upd_ne (by omega)]; exact b5 l hl, fun q hq => by rw [up_ne (by decide), upd_ne (by omega)]; exact b6 q hq⟩
set_option maxRecDepth 20000 in
set_option maxHeartbeats 2000000 in
theorem ringAll_F {T : Nat → Nat} {len p e : Nat} {b : Int32} {σ : Sg} (hT : TOK T len) (hC : TC σ T len) (hp : σ 76 2 = nI p) (hpe : p ≤ e) (he : e < len) (hL : ¬ LET T p e) : CM mX5_ringAll [ar 76, ar 6, ai (nI e), ai b] σ (Ret (nI 1) σ) := by
  refine CM_in (ls := [some (ar 76), some (ar 6), some (ai (nI e)), some (ai b), none, none, none]) rfl ?_
  refine g_aload_n (p0 := 1) (i := 0) dX5_ringAll_0 rfl rfl rfl ?_
  refine g_iload_n (p0 := 2) (i := 2) dX5_ringAll_1 rfl rfl rfl ?_
  refine g_cV1R (p0 := 5) (r1 := mX5_hasLettersUpTo) dX5_ringAll_2 lX5_64 vX5_hasLettersUpTo (by first | rfl | assumption | exact RW.s (by assumption) | exact TW.s (by assumption)) ⟨_, _, rfl⟩ (FITi rfl rfl) (Nat.le_of_ble_eq_true rfl) (hasL_F hT hC hp he hpe hL) rfl ?_
  first | ((with_reducible refine isN1 ?_); refine g_ifN_ne (tgt := 10) (p1 := 8) dX5_ringAll_5 rfl (by omega) rfl (fun c_5 => by exfalso; first | omega | contradiction | exact absurd (by assumption) c_5 | (simp_all; done)) (fun c_5 => ?_)) | refine g_if_ne (tgt := 10) (p1 := 8) dX5_ringAll_5 rfl rfl (fun c_5 => by exfalso; first | omega | contradiction | exact absurd (by assumption) c_5 | (simp_all; done)) (fun c_5 => ?_)
  refine g_iconst (p0 := 9) (v := nI 1) dX5_ringAll_8 rfl rfl ?_
  refine g_ireturn dX5_ringAll_9 rfl rfl (?_)
  exact ⟨rfl, rfl⟩
theorem ord {T : Nat → Nat} {len p e s : Nat} {ρ : Nat → Int32} (hT : TOK T len) (hpe : p ≤ e) (he : e < len) (h59 : T e = 59) (hno : ∀ i, p ≤ i → i < e → ¬ T i = 59) (hR : RowOK ρ s) : ∃ r ρ' s', r ≤ 3 ∧ (r = 0 → RowOK ρ' s') ∧ (∀ σ : Sg, TC σ T len → σ 76 2 = nI p → Rep σ 6 ρ s → CM mX5_performOne [ar 76, ar 6, ai (nI e)] σ (RelI (fun u σ1 => u = nI r ∧ F6 σ σ1 ∧ (r = 0 → Rep σ1 6 ρ' s')))) ∧ (∀ σ : Sg, TR σ T len → σ 79 23 = nI p → σ 80 = ρ → CM mX10_does [ar 79] σ (DQ σ e r ρ')) := by
  have hl60 := hT.1
  have hpl : p < len := by omega
  have hs1 := hR.2.1
  have hlt : ¬ T p = 59 → p < e := by
    intro h
    by_cases q : p = e
    · rw [q] at h
      exact absurd h59 h
    · omega
  have heN : p < e → ∀ e0, e0 < len → T e0 = 59 → NUM T p e0 → e0 = e := by
    intro hp1 e0 z1 z2 z3
    by_cases h1 : e0 < e
    · exact absurd z2 (hno e0 (by have := z3.1; omega) h1)
    · by_cases h2 : e < e0
      · have := z3.2.2 e hp1 h2
        omega
      · omega
  have heL : p < e → ∀ e0, e0 < len → T e0 = 59 → LET T p e0 → e0 = e := by
    intro hp1 e0 z1 z2 z3
    by_cases h1 : e0 < e
    · exact absurd z2 (hno e0 (by have := z3.1; omega) h1)
    · by_cases h2 : e < e0
      · have := z3.2 e hp1 h2
        omega
      · omega
  by_cases h45 : T p = 45
  · have hpe1 := hlt (by omega)
    by_cases hN : NUM T p e
    · have hv : numV T p (e - p - 1) ≤ 9999 := numV_4 (by have := hN.2.1; omega) (fun i h1 h2 => hN.2.2 i h1 (by omega))
      by_cases hvs : numV T p (e - p - 1) < s
      · refine ⟨0, REM ρ s (numV T p (e - p - 1)), s - 1, by decide, fun _ => RowOK_rem hR, fun σ hC hp hRep => ?_, fun σ hC h23 h80 => ?_⟩
        · exact po_45 hT hC hp hpl h45 (num_T hT hC hp he hpe1 hN) (RelI_of (muteO_T hRep.1 hs1 hv hvs) ⟨rfl, fun z h6 h8 => remG_ne h6 h8, fun _ => Rep_remG hRep hvs⟩)
        · exact ds_45 hT hC h23 hpl h45 (fun σ1 e1 => dN_l (sg := 45) hT hC hpl (by decide) (by decide) (fun e0 σ2 z1 z2 z3 e2 => by
              obtain rfl : e0 = e := heN hpe1 e0 z1 z2 z3
              exact sg_45T e2 (by rw [e2.1 80 (by decide)]; exact h80) (by omega) hR hvs) (fun z σ2 a e2 => absurd ⟨e, he, h59, hN⟩ z) 4 0 rfl (by omega) (fun i z1 z2 => absurd z2 (by omega)) σ1 e1)
      · refine ⟨2, ρ, s, by decide, fun z => absurd z (by decide), fun σ hC hp hRep => ?_, fun σ hC h23 h80 => ?_⟩
        · exact po_45 hT hC hp hpl h45 (num_T hT hC hp he hpe1 hN) (RelI_of (muteO_F hRep.1 hs1 hv (by omega)) ⟨rfl, F6.refl σ, (fun z => absurd z (by decide))⟩)
        · exact ds_45 hT hC h23 hpl h45 (fun σ1 e1 => dN_l (sg := 45) hT hC hpl (by decide) (by decide) (fun e0 σ2 z1 z2 z3 e2 => by
              obtain rfl : e0 = e := heN hpe1 e0 z1 z2 z3
              exact sg_45F e2 (by rw [e2.1 80 (by decide)]; exact h80) (by omega) hR hv (by omega)) (fun z σ2 a e2 => absurd ⟨e, he, h59, hN⟩ z) 4 0 rfl (by omega) (fun i z1 z2 => absurd z2 (by omega)) σ1 e1)
    · refine ⟨1, ρ, s, by decide, fun z => absurd z (by decide), fun σ hC hp hRep => ?_, fun σ hC h23 h80 => ?_⟩
      · exact po_45 hT hC hp hpl h45 (num_F hT hC hp he hpe1 hN) (RelI_of muteO_m ⟨rfl, F6.refl σ, (fun z => absurd z (by decide))⟩)
      · exact ds_45 hT hC h23 hpl h45 (fun σ1 e1 => dN_l (sg := 45) hT hC hpl (by decide) (by decide) (fun e0 σ2 z1 z2 z3 e2 => by
            obtain rfl : e0 = e := heN hpe1 e0 z1 z2 z3
            exact absurd z3 hN) (fun z σ2 a e2 => ⟨_, rfl, rfl, e2.fd, (fun z => absurd z (by decide))⟩) 4 0 rfl (by omega) (fun i z1 z2 => absurd z2 (by omega)) σ1 e1)
  by_cases h43 : T p = 43
  · have hpe1 := hlt (by omega)
    by_cases hN : NUM T p e
    · have hv : numV T p (e - p - 1) ≤ 9999 := numV_4 (by have := hN.2.1; omega) (fun i h1 h2 => hN.2.2 i h1 (by omega))
      by_cases hth : THR ρ s (nI (numV T p (e - p - 1)))
      · refine ⟨2, ρ, s, by decide, fun z => absurd z (by decide), fun σ hC hp hRep => ?_, fun σ hC h23 h80 => ?_⟩
        · exact po_43 hT hC hp hpl h43 (num_T hT hC hp he hpe1 hN) (RelI_of (strO_t hv ((there6 hR hRep _).1 hth)) ⟨rfl, F6.refl σ, (fun z => absurd z (by decide))⟩)
        · exact ds_43 hT hC h23 hpl h43 (fun σ1 e1 => dN_l (sg := 43) hT hC hpl (by decide) (by decide) (fun e0 σ2 z1 z2 z3 e2 => by
              obtain rfl : e0 = e := heN hpe1 e0 z1 z2 z3
              exact sg_43t e2 (by rw [e2.1 80 (by decide)]; exact h80) (by omega) hR hv hth) (fun z σ2 a e2 => absurd ⟨e, he, h59, hN⟩ z) 4 0 rfl (by omega) (fun i z1 z2 => absurd z2 (by omega)) σ1 e1)
      · by_cases hs160 : s = 160
        · refine ⟨3, ρ, s, by decide, fun z => absurd z (by decide), fun σ hC hp hRep => ?_, fun σ hC h23 h80 => ?_⟩
          · exact po_43 hT hC hp hpl h43 (num_T hT hC hp he hpe1 hN) (RelI_of (strO_f hv ((there6 hR hRep _).2 hth) (by rw [hRep.1, hs160])) ⟨rfl, F6.refl σ, (fun z => absurd z (by decide))⟩)
          · exact ds_43 hT hC h23 hpl h43 (fun σ1 e1 => dN_l (sg := 43) hT hC hpl (by decide) (by decide) (fun e0 σ2 z1 z2 z3 e2 => by
                obtain rfl : e0 = e := heN hpe1 e0 z1 z2 z3
                exact sg_43f e2 (by rw [e2.1 80 (by decide)]; exact h80) (by omega) hR hv hth hs160) (fun z σ2 a e2 => absurd ⟨e, he, h59, hN⟩ z) 4 0 rfl (by omega) (fun i z1 z2 => absurd z2 (by omega)) σ1 e1)
        · refine ⟨0, INS ρ s (nI (numV T p (e - p - 1))), s + 1, by decide, fun _ => RowOK_ins hR (by omega) ⟨_, hv, rfl⟩, fun σ hC hp hRep => ?_, fun σ hC h23 h80 => ?_⟩
          · exact po_43 hT hC hp hpl h43 (num_T hT hC hp he hpe1 hN) (RelI_of (strO_T hv ((there6 hR hRep _).2 hth) hRep.1 (by omega)) ⟨rfl, fun z h6 h8 => insG_ne h6 h8, fun _ => Rep_insG hRep⟩)
          · exact ds_43 hT hC h23 hpl h43 (fun σ1 e1 => dN_l (sg := 43) hT hC hpl (by decide) (by decide) (fun e0 σ2 z1 z2 z3 e2 => by
                obtain rfl : e0 = e := heN hpe1 e0 z1 z2 z3
                exact sg_43T e2 (by rw [e2.1 80 (by decide)]; exact h80) (by omega) hR hv hth (by omega)) (fun z σ2 a e2 => absurd ⟨e, he, h59, hN⟩ z) 4 0 rfl (by omega) (fun i z1 z2 => absurd z2 (by omega)) σ1 e1)
    · refine ⟨1, ρ, s, by decide, fun z => absurd z (by decide), fun σ hC hp hRep => ?_, fun σ hC h23 h80 => ?_⟩
      · exact po_43 hT hC hp hpl h43 (num_F hT hC hp he hpe1 hN) (RelI_of strO_m ⟨rfl, F6.refl σ, (fun z => absurd z (by decide))⟩)
      · exact ds_43 hT hC h23 hpl h43 (fun σ1 e1 => dN_l (sg := 43) hT hC hpl (by decide) (by decide) (fun e0 σ2 z1 z2 z3 e2 => by
            obtain rfl : e0 = e := heN hpe1 e0 z1 z2 z3
            exact absurd z3 hN) (fun z σ2 a e2 => ⟨_, rfl, rfl, e2.fd, (fun z => absurd z (by decide))⟩) 4 0 rfl (by omega) (fun i z1 z2 => absurd z2 (by omega)) σ1 e1)
  by_cases h47 : T p = 47
  · have hpe1 := hlt (by omega)
    by_cases he1 : e = p + 1
    · subst he1
      refine ⟨0, upd ρ 2 (nI 1), s, by decide, fun _ => RowOK_upd2 hR, fun σ hC hp hRep => ?_, fun σ hC h23 h80 => ?_⟩
      · exact po_47 hT hC hp hpl h47 (RelI_of (setP_T hp (by omega) (by omega) rfl) ⟨rfl, (setP_J hRep).1, fun _ => (setP_J hRep).2⟩)
      · exact ds_47 hT hC h23 hpl h47 (fun σ1 e2 => dP_g hT hC hpl e2 he h59 (sg_47 e2 (by rw [e2.1 80 (by decide)]; exact h80) (by omega)))
    · refine ⟨1, ρ, s, by decide, fun z => absurd z (by decide), fun σ hC hp hRep => ?_, fun σ hC h23 h80 => ?_⟩
      · exact po_47 hT hC hp hpl h47 (RelI_of (setP_F hp (by omega) (by omega) he1) ⟨rfl, F6.refl σ, (fun z => absurd z (by decide))⟩)
      · exact ds_47 hT hC h23 hpl h47 (fun σ1 e2 => dP_b hT hC hpl e2 (fun z => hno (p + 1) (by omega) (by omega) z.2) ⟨_, rfl, rfl, e2.fd, (fun z => absurd z (by decide))⟩)
  by_cases h61 : T p = 61
  · have hpe1 := hlt (by omega)
    by_cases hL : LET T p e
    · obtain ⟨r, ρ', s', f1, f2, f3, f4⟩ := ringAll_0 hT he hL hR
      refine ⟨r, ρ', s', by omega, f2, fun σ hC hp hRep => ?_, fun σ hC h23 h80 => ?_⟩
      · exact po_61 hT hC hp hpl h61 (f3 σ hC hp hRep)
      · exact ds_61 hT hC h23 hpl h61 (fun σ1 e1 => dL_l (sg := 61) hT hC hpl (by decide) (by decide) (fun e0 σ2 z1 z2 z3 e2 => by
            obtain rfl : e0 = e := heL hpe1 e0 z1 z2 z3
            exact sg_61 (ρ := ρ) e2 (by rw [e2.1 80 (by decide)]; exact h80) (by omega) (f4 _ ((e2.up (b := e0 + 1)).tr hC) (by rw [up_ne (by decide), e2.1 80 (by decide)]; exact h80))) (fun z σ2 a e2 => absurd ⟨e, he, h59, hL⟩ z) (len - (p + 1)) 0 (by omega) (fun i z1 z2 => absurd z2 (by omega)) σ1 e1)
    · refine ⟨1, ρ, s, by decide, fun z => absurd z (by decide), fun σ hC hp hRep => ?_, fun σ hC h23 h80 => ?_⟩
      · exact po_61 hT hC hp hpl h61 (RelI_of (ringAll_F hT hC hp hpe he hL) ⟨rfl, F6.refl σ, (fun z => absurd z (by decide))⟩)
      · exact ds_61 hT hC h23 hpl h61 (fun σ1 e1 => dL_l (sg := 61) hT hC hpl (by decide) (by decide) (fun e0 σ2 z1 z2 z3 e2 => by
            obtain rfl : e0 = e := heL hpe1 e0 z1 z2 z3
            exact absurd z3 hL) (fun z σ2 a e2 => ⟨_, rfl, rfl, e2.fd, (fun z => absurd z (by decide))⟩) (len - (p + 1)) 0 (by omega) (fun i z1 z2 => absurd z2 (by omega)) σ1 e1)
  by_cases h33 : T p = 33
  · have hpe1 := hlt (by omega)
    by_cases hL : LET T p e
    · obtain ⟨r, ρ', s', f1, f2, f3, f4⟩ := ringAll_1 hT he hL hR
      refine ⟨r, ρ', s', by omega, f2, fun σ hC hp hRep => ?_, fun σ hC h23 h80 => ?_⟩
      · exact po_33 hT hC hp hpl h33 (f3 σ hC hp hRep)
      · exact ds_33 hT hC h23 hpl h33 (fun σ1 e1 => dL_l (sg := 33) hT hC hpl (by decide) (by decide) (fun e0 σ2 z1 z2 z3 e2 => by
            obtain rfl : e0 = e := heL hpe1 e0 z1 z2 z3
            exact sg_33 (ρ := ρ) e2 (by rw [e2.1 80 (by decide)]; exact h80) (by omega) (f4 _ ((e2.up (b := e0 + 1)).tr hC) (by rw [up_ne (by decide), e2.1 80 (by decide)]; exact h80))) (fun z σ2 a e2 => absurd ⟨e, he, h59, hL⟩ z) (len - (p + 1)) 0 (by omega) (fun i z1 z2 => absurd z2 (by omega)) σ1 e1)
    · refine ⟨1, ρ, s, by decide, fun z => absurd z (by decide), fun σ hC hp hRep => ?_, fun σ hC h23 h80 => ?_⟩
      · exact po_33 hT hC hp hpl h33 (RelI_of (ringAll_F hT hC hp hpe he hL) ⟨rfl, F6.refl σ, (fun z => absurd z (by decide))⟩)
      · exact ds_33 hT hC h23 hpl h33 (fun σ1 e1 => dL_l (sg := 33) hT hC hpl (by decide) (by decide) (fun e0 σ2 z1 z2 z3 e2 => by
            obtain rfl : e0 = e := heL hpe1 e0 z1 z2 z3
            exact absurd z3 hL) (fun z σ2 a e2 => ⟨_, rfl, rfl, e2.fd, (fun z => absurd z (by decide))⟩) (len - (p + 1)) 0 (by omega) (fun i z1 z2 => absurd z2 (by omega)) σ1 e1)
  refine ⟨1, ρ, s, by decide, fun z => absurd z (by decide), fun σ hC hp hRep => ?_, fun σ hC h23 h80 => ?_⟩
  · exact po_O hT hC hp hpl h33 h43 h45 h47 h61 ⟨rfl, F6.refl σ, (fun z => absurd z (by decide))⟩
  · exact ds_O hT hC h23 hpl h45 h43 h61 h33 (fun σ1 e2 => dO_b hT hC e2 (hT.2 p hpl).2 h47 ⟨_, rfl, rfl, e2.fd, (fun z => absurd z (by decide))⟩)
theorem ord_no {T : Nat → Nat} {len p : Nat} {ρ : Nat → Int32} (hT : TOK T len) (hpl : p < len) (hno : ∀ i, p ≤ i → i < len → ¬ T i = 59) {σ : Sg} (hC : TR σ T len) (h23 : σ 79 23 = nI p) : CM mX10_does [ar 79] σ (DQ σ 0 1 ρ) := by
  by_cases h45 : T p = 45
  · exact ds_45 hT hC h23 hpl h45 (fun σ1 e1 => dN_l (sg := 45) hT hC hpl (by decide) (by decide) (fun e0 σ2 z1 z2 z3 e2 => absurd z2 (hno e0 (by have := z3.1; omega) z1)) (fun z σ2 a e2 => ⟨_, rfl, rfl, e2.fd, (fun z => absurd z (by decide))⟩) 4 0 rfl (by omega) (fun i z1 z2 => absurd z2 (by omega)) σ1 e1)
  by_cases h43 : T p = 43
  · exact ds_43 hT hC h23 hpl h43 (fun σ1 e1 => dN_l (sg := 43) hT hC hpl (by decide) (by decide) (fun e0 σ2 z1 z2 z3 e2 => absurd z2 (hno e0 (by have := z3.1; omega) z1)) (fun z σ2 a e2 => ⟨_, rfl, rfl, e2.fd, (fun z => absurd z (by decide))⟩) 4 0 rfl (by omega) (fun i z1 z2 => absurd z2 (by omega)) σ1 e1)
  by_cases h61 : T p = 61
  · exact ds_61 hT hC h23 hpl h61 (fun σ1 e1 => dL_l (sg := 61) hT hC hpl (by decide) (by decide) (fun e0 σ2 z1 z2 z3 e2 => absurd z2 (hno e0 (by have := z3.1; omega) z1)) (fun z σ2 a e2 => ⟨_, rfl, rfl, e2.fd, (fun z => absurd z (by decide))⟩) (len - (p + 1)) 0 (by omega) (fun i z1 z2 => absurd z2 (by omega)) σ1 e1)
  by_cases h33 : T p = 33
  · exact ds_33 hT hC h23 hpl h33 (fun σ1 e1 => dL_l (sg := 33) hT hC hpl (by decide) (by decide) (fun e0 σ2 z1 z2 z3 e2 => absurd z2 (hno e0 (by have := z3.1; omega) z1)) (fun z σ2 a e2 => ⟨_, rfl, rfl, e2.fd, (fun z => absurd z (by decide))⟩) (len - (p + 1)) 0 (by omega) (fun i z1 z2 => absurd z2 (by omega)) σ1 e1)
  by_cases h47 : T p = 47
  · exact ds_47 hT hC h23 hpl h47 (fun σ1 e2 => dP_b hT hC hpl e2 (fun z => hno (p + 1) (by omega) z.1 z.2) ⟨_, rfl, rfl, e2.fd, (fun z => absurd z (by decide))⟩)
  exact ds_O hT hC h23 hpl h45 h43 h61 h33 (fun σ1 e2 => dO_b hT hC e2 (hT.2 p hpl).2 h47 ⟨_, rfl, rfl, e2.fd, (fun z => absurd z (by decide))⟩)
