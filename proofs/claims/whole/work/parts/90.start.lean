/-! THE START: fresh objects keep the invariant; the claim -/
theorem s0_80 : σ00 80 = sf 25 := rfl
theorem s0_1 : σ00 1 2 = nI 0 ∧ σ00 1 3 = nI 8 ∧ σ00 1 4 = nI 1 ∧ σ00 1 5 = nI 0 := ⟨rfl, rfl, rfl, rfl⟩
theorem s0_5 : σ00 5 = idn 25 := rfl
theorem s0_11 : σ00 11 1 = nI 0 ∧ σ00 11 2 = nI 0 := ⟨rfl, rfl⟩
theorem s0_rd : σ00 34 5 = nI 0 ∧ σ00 45 7 = nI 0 ∧ σ00 33 8 = nI 0 ∧ σ00 65 0 = nI 0 := ⟨rfl, rfl, rfl, rfl⟩
theorem s0_t : σ00 76 1 = nI 0 ∧ σ00 79 5 = nI 0 ∧ σ00 79 3 = nI 0 := ⟨rfl, rfl, rfl⟩
theorem sf_t {l : Nat} (hl : l < 25) : sf 25 (4 + l) = nI l := by
  rw [sf, if_neg (by omega), if_neg (by omega), if_pos (by omega), Nat.add_sub_cancel_left]
theorem Inv00 : Inv σ00 := by
  refine ⟨0, 0, fun _ => (fun _ => 0, 0), 0, ?_, ?_, ?_, ?_, ?_, ?_⟩
  · rw [s0_80]
    refine ⟨rfl, by decide, Or.inl rfl, ⟨fun l => l, fun l hl => ⟨sf_t hl, hl⟩, fun l m _ _ e => e⟩, ⟨8, by decide, rfl⟩, fun k hk => absurd hk (Nat.not_lt_zero k)⟩
  · rw [s0_80]
    refine ⟨s0_1.1, s0_1.2.1, s0_1.2.2.1, s0_1.2.2.2, fun l hl => ?_, fun k hk => absurd hk (Nat.not_lt_zero k)⟩
    rw [sf_t hl]
    show σ00 5 l = nI l
    rw [s0_5]
    rw [idn, if_pos hl]
  · exact ⟨0, by decide, s0_11.1, s0_11.2, by decide, fun i hi => absurd hi (Nat.not_lt_zero i)⟩
  · exact ⟨s0_t.2.2, fun i hi => absurd hi (Nat.not_lt_zero i)⟩
  · exact ⟨⟨s0_rd.1, fun l hl => absurd hl (Nat.not_lt_zero l)⟩, ⟨s0_rd.2.1, fun m hm => absurd hm (Nat.not_lt_zero m)⟩, s0_rd.2.2.1, fun i hi => absurd hi (Nat.not_lt_zero i), fun l hl => absurd hl (Nat.not_lt_zero l), fun h => absurd h (Nat.lt_irrefl 0), s0_rd.2.2.2⟩
  · exact ⟨s0_t.1, s0_t.2.1, by decide, fun i hi => absurd hi (Nat.not_lt_zero i)⟩
theorem allOps : AllOps Inv := ⟨op_set, op_swap, op_ring, op_pause, op_strike, op_mute, op_shift, op_strokeOf, op_messageOf, op_letterOf, op_correction, op_vote, op_readQ, op_tableOf, op_count, op_undo, op_type, op_clearText, op_fault, op_play⟩
