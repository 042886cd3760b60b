/-! QUESTIONS: read on both sides -/
theorem votedL_T2 {σ0 σ : Sg} {s M L : Nat} {c fs f n p d g a b : Nat → Nat} {j : Nat} (e : FC σ0 σ) (hC : CLS σ0 s M L c fs f n p d g a b) (hr : ∀ l, l < L → σ0 42 l = -1 ∨ ∃ x, x < 25 ∧ σ0 42 l = nI x) (hj : j < 2147483648) (h : j < L) (hW : ∀ i, i ≤ j → ¬ moF (fun k => vc (σ0 42) f n i k M) 25 = 0) : CM mX9_votedLetter [ar 0, ai (nI j)] σ (RelI (fun u σ1 => u = nI (wiF (fun k => vc (σ0 42) f n j k M) 25) ∧ FC σ σ1)) := by
  have e42 := e 42 (by decide)
  have h := votedL_T (hC.of (fun z hz => e z (by omega))) (by rw [e42]; exact hr) hj h (by rw [e42]; exact hW)
  rw [e42] at h
  exact h
theorem votedL_F2 {σ0 σ : Sg} {s M L : Nat} {c fs f n p d g a b : Nat → Nat} {j i0 : Nat} (e : FC σ0 σ) (hC : CLS σ0 s M L c fs f n p d g a b) (hr : ∀ l, l < L → σ0 42 l = -1 ∨ ∃ x, x < 25 ∧ σ0 42 l = nI x) (hj : j < 2147483648) (h : j < L) (hi0 : i0 ≤ j) (h0 : moF (fun k => vc (σ0 42) f n i0 k M) 25 = 0) (hW : ∀ i, i < i0 → ¬ moF (fun k => vc (σ0 42) f n i k M) 25 = 0) : CM mX9_votedLetter [ar 0, ai (nI j)] σ (RelI (fun u σ1 => u = -1000004 ∧ FC σ σ1)) := by
  have e42 := e 42 (by decide)
  have h := votedL_F (hC.of (fun z hz => e z (by omega))) (by rw [e42]; exact hr) hj h hi0 (by rw [e42]; exact h0) (by rw [e42]; exact hW)
  exact h
theorem vc_zero {v : Nat → Int32} {f n : Nat → Nat} {j k : Nat} : ∀ M, (∀ m, m < M → n m ≤ j) → vc v f n j k M = 0
  | 0, _ => rfl
  | M + 1, h => by
    have h1 := h M (Nat.lt_succ_self M)
    rw [vc, if_neg (fun z => absurd z.1 (by omega))]
    exact vc_zero M (fun m hm => h m (by omega))
theorem read_val {σ : Sg} {L : Nat} {g a b : Nat → Nat} {v : Nat → Int32} (h : VAL σ L g a b v) {l : Nat} (hl : l < L) (hv : ¬ v l = -1) : CM mX10_read0 [ar 79, ai (nI l)] σ (Ret (v l) σ) := by
  rcases h.read hl with ⟨h1, _⟩ | ⟨_, _, _, _, _, _, h0⟩
  · exact absurd h1 hv
  · exact h0
theorem VAL.of80 {σ σ' : Sg} {L : Nat} {g a b : Nat → Nat} {v : Nat → Int32} (h : VAL σ L g a b v) (e : ∀ z, z ≠ 96 → σ' z = σ z) : VAL σ' L g a b v := h.of e
theorem op_readQ (x0 : Int32) : OpOK Inv mX9_read mX10_read [ai x0] := by
  intro σ hI
  obtain ⟨s, M, L, c, fs, f, n, p, d, g, a, b, hs, hs1, hC, hJ⟩ := JQ hI
  have hs12 : σ 1 2 = nI s := by
    obtain ⟨s', n', H', len', hR', hRep', _⟩ := hI
    exact hRep'.1.trans (hR'.1.symm.trans hs)
  have hr : ∀ l, l < L → σ 42 l = -1 ∨ ∃ x, x < 25 ∧ σ 42 l = nI x := by
    intro l hl
    rw [(hC.2.2 l hl).2.2.2.2]
    exact VR hI hs hs1 (by have := hC.1.2.2.2; omega) _ _ _
  by_cases hlt : x0 < -1
  · exact op_ask hI (CPQ_of (rd_cn hlt)) (fun σ1 hf hI1 => RPQ_of (rd_rn hlt))
  have hx : (-1 : Int32) ≤ x0 := Int32.not_lt.mp hlt
  by_cases hs00 : s = 0
  · subst hs00
    exact op_ask hI (CPQ_of (rd_c0 hx hs12)) (fun σ1 hf hI1 => RPQ_of (rd_r0 hx (by rw [hf 80 (by decide)]; exact hs)))
  have hs0 : 0 < s := by omega
  obtain ⟨⟨c1, c2, c3, k1, k2, k3⟩, cM, cL⟩ := id hC
  have hM1 : M ≤ 160 := by omega
  have hxc : x0 = -1 ∨ ∃ j, j < 2147483648 ∧ x0 = nI j := by
    rcases i32c x0 with h | h
    · refine Or.inl (Int32.toInt_inj.mp ?_)
      have e3 : (-1 : Int32).toInt = -1 := by decide
      rw [Int32.lt_iff_toInt_lt] at h
      rw [Int32.le_iff_toInt_le] at hx
      have e0 : (0 : Int32).toInt = 0 := by decide
      omega
    · exact Or.inr h
  have hRc : ∀ i, i < M → (RGT (σ 42) (f i) (n i) ∧ CM mX6_isRight [ar 33, ai (nI i)] σ (Ret (nI 1) σ)) ∨ (¬ RGT (σ 42) (f i) (n i) ∧ CM mX6_isRight [ar 33, ai (nI i)] σ (Ret (nI 0) σ)) := by
    intro i hi
    obtain ⟨⟨n1, n2⟩, a1, a2, a3, a4, a5, a6, a7⟩ := cM i hi
    exact cRight_sp (by omega) n1 a2 (by omega) a3 a6 a7
  have hRr : ∀ σ' : Sg, REF σ' s M L c fs f n p d g a b (σ 42) (σ 44) → ∀ i, i < M → (RGT (σ 42) (f i) (n i) ∧ CM mX10_isRight [ar 79, ai (nI i), ai (-1000004), ai (nI 0)] σ' (Ret (nI 1) σ')) ∨ (¬ RGT (σ 42) (f i) (n i) ∧ CM mX10_isRight [ar 79, ai (nI i), ai (-1000004), ai (nI 0)] σ' (Ret (nI 0) σ')) := by
    intro σ' hP i hi
    obtain ⟨a1, a2, a3, a4, _⟩ := hP.2.1 i hi
    by_cases h : RGT (σ 42) (f i) (n i)
    · exact Or.inl ⟨h, rR_1 hP.2.2.1 (by omega) a2 a3 a4 h⟩
    · refine Or.inr ⟨h, ?_⟩
      by_cases h2 : n i < 2
      · exact rR_0s hP.2.2.1 (by omega) a2 a3 a4 h2
      · exact rR_0 hP.2.2.1 (by omega) a2 a3 a4 (by omega) h
  rcases first_ex (fun i => RGT (σ 42) (f i) (n i)) M with ⟨m, hm, h1, h0⟩ | h0
  · obtain ⟨⟨n1, n2⟩, a1, a2, a3, a4, a5, a6, a7⟩ := cM m hm
    have hm1 : m < 160 := by omega
    have hn1 : n m ≤ 160 := by omega
    have hfR := firstR_T c1 hM1 hRc hm h1 h0
    rcases hxc with rfl | ⟨j, hj, rfl⟩
    · refine op_ask hI (CPQ_of (rd_cA1 hs12 hs0 hs1 hfR hm1)) (fun σ1 hf hI1 => rd_go (hJ σ1 hf) hx (by rw [hf 80 (by decide)]; exact hs) hs0 hs1 (fun σ2 hP hfl => ?_))
      exact rd_1 hP.1.2.2.1 hM1 (hRr σ2 hP) hm h1 h0 (rd_A1 ⟨rfl, hfl.fq⟩) m 0 (by omega)
    · by_cases hjn : j < n m
      · have hv : ¬ σ 42 (f m + j) = -1 := uF_zero _ h1.2.1 j hjn
        refine op_ask hI (CPQ_of (rd_cA2 hs12 hs0 hs1 hfR hm1 hj hx (rightL_T hm1 hj hn1 a3 hjn a2 (by omega) rfl))) (fun σ1 hf hI1 => rd_go (hJ σ1 hf) hx (by rw [hf 80 (by decide)]; exact hs) hs0 hs1 (fun σ2 hP hfl => ?_))
        have b1 := (hP.2.1 m hm).2.1
        have b2 := (hP.2.1 m hm).2.2.1
        exact rd_1 hP.1.2.2.1 hM1 (hRr σ2 hP) hm h1 h0 (rd_A2 hj (rb_0T hm1 hj hn1 b1 b2 hjn (read_val hP.2.2.1 (by omega) hv)) ⟨rfl, hfl.fq⟩) m 0 (by omega)
      · refine op_ask hI (CPQ_of (rd_cA2 hs12 hs0 hs1 hfR hm1 hj hx (rightL_F hm1 hj hn1 a3 (by omega)))) (fun σ1 hf hI1 => rd_go (hJ σ1 hf) hx (by rw [hf 80 (by decide)]; exact hs) hs0 hs1 (fun σ2 hP hfl => ?_))
        have b1 := (hP.2.1 m hm).2.1
        have b2 := (hP.2.1 m hm).2.2.1
        exact rd_1 hP.1.2.2.1 hM1 (hRr σ2 hP) hm h1 h0 (rd_A2 hj (rb_0F hm1 hj hn1 b1 b2 (by omega)) ⟨rfl, hfl.fq⟩) m 0 (by omega)
  have hfR := firstR_F c1 hM1 hRc h0
  rcases first_ex (fun i => cnF (FIQ (σ 42) (σ 44) g a b (f i) (n i)) (4 * n i) = 1) M with ⟨m, hm, g1, g0⟩ | g0
  · obtain ⟨⟨n1, n2⟩, a1, a2, a3, a4, a5, a6, a7⟩ := cM m hm
    have hm1 : m < 160 := by omega
    have hn1 : n m ≤ 160 := by omega
    have g1' : cnF (FIQ (σ 42) (σ 44) g a b (f m) (n m)) (4 * n m) = 1 := g1
    obtain ⟨q, hq, hF, hcq⟩ := cnF_hit (F := FIQ (σ 42) (σ 44) g a b (f m) (n m)) (w := 0) (4 * n m) (by omega)
    have hq4 : q / 4 < n m := by omega
    have hcl : CM mX1_firstClear [ar 72, ar 33] σ (RelI (fun u σ1 => u = nI m ∧ FC σ σ1 ∧ (σ1 72 0 = nI (q / 4) ∧ σ1 72 3 = cdq (σ 44) g a b (f m) q))) := by
      refine CM.mono (firstC_T hC hm g1 g0) ?_
      rintro w σ1 ⟨u, rfl, h3, h4⟩
      have h5 := h4.2.2 q hq hF (by rw [hcq])
      exact ⟨u, rfl, h3, h4.of, h5.1, h5.2.2.2⟩
    rcases hxc with rfl | ⟨j, hj, rfl⟩
    · refine op_ask hI (rd_cB1 hs12 hs0 hs1 hfR hcl hm1) (fun σ1 hf hI1 => rd_go (hJ σ1 hf) hx (by rw [hf 80 (by decide)]; exact hs) hs0 hs1 (fun σ2 hP hfl => ?_))
      refine rd_2 hP.1.2.2.1 hM1 (hRr σ2 hP) h0 (rd_3 hP (REF.pos hC) hm g1 g0 (fun σ3 hS => ?_) m 0 (by omega) σ2 (fun _ _ => rfl)) M 0 (by omega)
      exact rd_B1 ⟨rfl, hfl.fq.trans (FQ_96 hS.1)⟩
    · by_cases hjq : j = q / 4
      · refine op_ask hI (rd_cB2 (v := cdq (σ 44) g a b (f m) q) hs12 hs0 hs1 hfR hcl hm1 hj hx (fun σ1 hfc hpb => corrL_T hj (by rw [hjq]; exact hpb.1) hpb.2)) (fun σ1 hf hI1 => rd_go (hJ σ1 hf) hx (by rw [hf 80 (by decide)]; exact hs) hs0 hs1 (fun σ2 hP hfl => ?_))
        refine rd_2 hP.1.2.2.1 hM1 (hRr σ2 hP) h0 (rd_3 hP (REF.pos hC) hm g1 g0 (fun σ3 hS => ?_) m 0 (by omega) σ2 (fun _ _ => rfl)) M 0 (by omega)
        have h5 := hS.2 q hq hF (by rw [hcq])
        have b1 : σ3 92 m = nI (f m) := by rw [hS.1 92 (by decide)]; exact (hP.2.1 m hm).2.1
        have b2 : σ3 92 (m + 1) = nI (f m + n m) := by rw [hS.1 92 (by decide)]; exact (hP.2.1 m hm).2.2.1
        exact rd_B2 hj (rb_1T hm1 hj hn1 b1 b2 (by omega) (by rw [hjq]; exact h5.1) h5.2.2.2) ⟨rfl, hfl.fq.trans (FQ_96 hS.1)⟩
      · by_cases hjn : j < n m
        · have hv : ¬ σ 42 (f m + j) = -1 := by
            have h6 := uF_zero _ hF.2.2.1 j hjn
            rw [upd_ne (by omega)] at h6
            exact h6
          refine op_ask hI (rd_cB2 (v := σ 42 (f m + j)) hs12 hs0 hs1 hfR hcl hm1 hj hx (fun σ1 hfc hpb => corrL_F hj (t := q / 4) (by omega) hpb.1 hjq (rightL_T hm1 hj hn1 (by rw [hfc 51 (by decide)]; exact a3) hjn (by rw [hfc 49 (by decide)]; exact a2) (by omega) (by rw [hfc 42 (by decide)])))) (fun σ1 hf hI1 => rd_go (hJ σ1 hf) hx (by rw [hf 80 (by decide)]; exact hs) hs0 hs1 (fun σ2 hP hfl => ?_))
          refine rd_2 hP.1.2.2.1 hM1 (hRr σ2 hP) h0 (rd_3 hP (REF.pos hC) hm g1 g0 (fun σ3 hS => ?_) m 0 (by omega) σ2 (fun _ _ => rfl)) M 0 (by omega)
          have h5 := hS.2 q hq hF (by rw [hcq])
          have b1 : σ3 92 m = nI (f m) := by rw [hS.1 92 (by decide)]; exact (hP.2.1 m hm).2.1
          have b2 : σ3 92 (m + 1) = nI (f m + n m) := by rw [hS.1 92 (by decide)]; exact (hP.2.1 m hm).2.2.1
          exact rd_B2 hj (rb_1N hm1 hj hn1 b1 b2 hjn (t := q / 4) (by omega) h5.1 hjq (read_val (hP.2.2.1.of hS.1) (by omega) hv)) ⟨rfl, hfl.fq.trans (FQ_96 hS.1)⟩
        · refine op_ask hI (rd_cB2 (v := -1000004) hs12 hs0 hs1 hfR hcl hm1 hj hx (fun σ1 hfc hpb => corrL_F hj (t := q / 4) (by omega) hpb.1 hjq (rightL_F hm1 hj hn1 (by rw [hfc 51 (by decide)]; exact a3) (by omega)))) (fun σ1 hf hI1 => rd_go (hJ σ1 hf) hx (by rw [hf 80 (by decide)]; exact hs) hs0 hs1 (fun σ2 hP hfl => ?_))
          refine rd_2 hP.1.2.2.1 hM1 (hRr σ2 hP) h0 (rd_3 hP (REF.pos hC) hm g1 g0 (fun σ3 hS => ?_) m 0 (by omega) σ2 (fun _ _ => rfl)) M 0 (by omega)
          have b1 : σ3 92 m = nI (f m) := by rw [hS.1 92 (by decide)]; exact (hP.2.1 m hm).2.1
          have b2 : σ3 92 (m + 1) = nI (f m + n m) := by rw [hS.1 92 (by decide)]; exact (hP.2.1 m hm).2.2.1
          exact rd_B2 hj (rb_1F hm1 hj hn1 b1 b2 (by omega)) ⟨rfl, hfl.fq.trans (FQ_96 hS.1)⟩
  have hcl := firstC_F hC g0
  rcases hxc with rfl | ⟨j, hj, rfl⟩
  · refine op_ask hI (rd_cC1 hs12 hs0 hs1 hfR hcl) (fun σ1 hf hI1 => rd_go (hJ σ1 hf) hx (by rw [hf 80 (by decide)]; exact hs) hs0 hs1 (fun σ2 hP hfl => ?_))
    exact rd_2 hP.1.2.2.1 hM1 (hRr σ2 hP) h0 (rd_4 hP (REF.pos hC) g0 (fun σ3 hS => rd_C1 ⟨rfl, hfl.fq.trans (FQ_96 hS)⟩) M 0 (by omega) σ2 (fun _ _ => rfl)) M 0 (by omega)
  · have FRv0 : ∀ σ2 σ3 : Sg, (∀ z, z ≠ 96 → σ3 z = σ2 z) → FRv σ2 σ3 := fun σ2 σ3 h => ⟨fun z _ h96 => h z h96, fun q _ _ => by rw [h 79 (by decide)]⟩
    rcases first_ex (fun i => moF (fun k => vc (σ 42) f n i k M) 25 = 0) (j + 1) with ⟨i0, hi0, w1, w0⟩ | w0
    · have hi160 : i0 ≤ 160 := by
        by_cases hL : i0 ≤ L
        · omega
        · refine absurd ?_ (w0 L (by omega))
          refine moF_zero (fun k => vc_zero M (fun m hm => ?_)) 25
          have := (cM m hm).1.2
          omega
      by_cases hjL : j < L
      · refine op_ask hI (rd_cC2 hs12 hs0 hs1 hfR hcl hj hx (fun σ1 hfc => votedL_F2 hfc hC hr hj hjL (by omega) w1 w0)) (fun σ1 hf hI1 => rd_go (hJ σ1 hf) hx (by rw [hf 80 (by decide)]; exact hs) hs0 hs1 (fun σ2 hP hfl => ?_))
        exact rd_2 hP.1.2.2.1 hM1 (hRr σ2 hP) h0 (rd_4 hP (REF.pos hC) g0 (fun σ3 hS => rd_5F hP hj (by omega) hi160 w1 w0 (fun σ4 e => ⟨rfl, hfl.fq.trans e.fq⟩) i0 0 (by omega) 2 (by decide) σ3 (FRv0 _ _ hS)) M 0 (by omega) σ2 (fun _ _ => rfl)) M 0 (by omega)
      · refine op_ask hI (rd_cC2 hs12 hs0 hs1 hfR hcl hj hx (fun σ1 hfc => votedL_B (hC.of (fun z hz => hfc z (by omega))) hj (by omega))) (fun σ1 hf hI1 => rd_go (hJ σ1 hf) hx (by rw [hf 80 (by decide)]; exact hs) hs0 hs1 (fun σ2 hP hfl => ?_))
        exact rd_2 hP.1.2.2.1 hM1 (hRr σ2 hP) h0 (rd_4 hP (REF.pos hC) g0 (fun σ3 hS => rd_5F hP hj (by omega) hi160 w1 w0 (fun σ4 e => ⟨rfl, hfl.fq.trans e.fq⟩) i0 0 (by omega) 2 (by decide) σ3 (FRv0 _ _ hS)) M 0 (by omega) σ2 (fun _ _ => rfl)) M 0 (by omega)
    · have hjL : j < L := by
        refine Nat.not_le.mp (fun hL => ?_)
        refine absurd ?_ (w0 L (by omega))
        refine moF_zero (fun k => vc_zero M (fun m hm => ?_)) 25
        have := (cM m hm).1.2
        omega
      refine op_ask hI (rd_cC2 hs12 hs0 hs1 hfR hcl hj hx (fun σ1 hfc => votedL_T2 hfc hC hr hj hjL (fun i hi => w0 i (by omega)))) (fun σ1 hf hI1 => rd_go (hJ σ1 hf) hx (by rw [hf 80 (by decide)]; exact hs) hs0 hs1 (fun σ2 hP hfl => ?_))
      exact rd_2 hP.1.2.2.1 hM1 (hRr σ2 hP) h0 (rd_4 hP (REF.pos hC) g0 (fun σ3 hS => rd_5T hP (by omega) (fun i hi => w0 i (by omega)) (fun σ4 e => ⟨rfl, hfl.fq.trans e.fq⟩) (j + 1) 0 (by omega) 2 (by decide) (fun z => absurd z (Nat.lt_irrefl 0)) σ3 (FRv0 _ _ hS)) M 0 (by omega) σ2 (fun _ _ => rfl)) M 0 (by omega)
