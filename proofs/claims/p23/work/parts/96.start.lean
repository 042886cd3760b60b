/-! THE START: fresh objects, the law's arrays; the claim -/
def h00 : AH := chk_X9 0 ++ [.inr (.inl (4, fun _ => 0)), .inr (.inl (64, fun _ => 0)), .inr (.inl (25, fun _ => 0))]
def σ00 : Sg := rdS h00
theorem gN00 : gN σ00 = 0 := rfl
theorem len00 : h00.length = 82 := rfl
set_option maxRecDepth 20000 in
set_option maxHeartbeats 4000000 in
theorem mem00_12 : h00[12]? = (mem σ00)[12]? := by
  rw [mem_get (s := .inr (.inr [13, 18, 23, 28])) rfl]
  show some (Sum.inr (Sum.inr (4, qf 13 4))) = some (Sum.inr (Sum.inr (4, fun j => ([13, 18, 23, 28] : List Nat)[j]?)))
  have e : qf 13 4 = fun j => ([13, 18, 23, 28] : List Nat)[j]? := by
    funext k
    match k with
    | 0 => rfl
    | 1 => rfl
    | 2 => rfl
    | 3 => rfl
    | k + 4 =>
      have hk : ¬ k + 4 < 4 := by omega
      simp [qf]
  rw [e]
theorem mem00_0 : h00[0]? = (mem σ00)[0]? := Eq.trans (b := some (cOf σ00 0 (.inl (9, [some 1, some 6, some 11, some 33, some 72, some 73, some 76])))) rfl (mem_get rfl).symm
theorem mem00_1 : h00[1]? = (mem σ00)[1]? := Eq.trans (b := some (cOf σ00 1 (.inl (8, [some 2, some 4, none, none, none, none])))) rfl (mem_get rfl).symm
theorem mem00_2 : h00[2]? = (mem σ00)[2]? := Eq.trans (b := some (cOf σ00 2 (.inl (7, [some 3])))) rfl (mem_get rfl).symm
theorem mem00_3 : h00[3]? = (mem σ00)[3]? := Eq.trans (b := some (cOf σ00 3 (.inr (.inl 160)))) rfl (mem_get rfl).symm
theorem mem00_4 : h00[4]? = (mem σ00)[4]? := Eq.trans (b := some (cOf σ00 4 (.inl (7, [some 5])))) rfl (mem_get rfl).symm
theorem mem00_5 : h00[5]? = (mem σ00)[5]? := Eq.trans (b := some (cOf σ00 5 (.inr (.inl 25)))) rfl (mem_get rfl).symm
theorem mem00_6 : h00[6]? = (mem σ00)[6]? := Eq.trans (b := some (cOf σ00 6 (.inl (8, [some 7, some 9, none, none, none, none])))) rfl (mem_get rfl).symm
theorem mem00_7 : h00[7]? = (mem σ00)[7]? := Eq.trans (b := some (cOf σ00 7 (.inl (7, [some 8])))) rfl (mem_get rfl).symm
theorem mem00_8 : h00[8]? = (mem σ00)[8]? := Eq.trans (b := some (cOf σ00 8 (.inr (.inl 160)))) rfl (mem_get rfl).symm
theorem mem00_9 : h00[9]? = (mem σ00)[9]? := Eq.trans (b := some (cOf σ00 9 (.inl (7, [some 10])))) rfl (mem_get rfl).symm
theorem mem00_10 : h00[10]? = (mem σ00)[10]? := Eq.trans (b := some (cOf σ00 10 (.inr (.inl 25)))) rfl (mem_get rfl).symm
theorem mem00_11 : h00[11]? = (mem σ00)[11]? := Eq.trans (b := some (cOf σ00 11 (.inl (2, [some 12, none, none])))) rfl (mem_get rfl).symm
theorem mem00_13 : h00[13]? = (mem σ00)[13]? := Eq.trans (b := some (cOf σ00 13 (.inl (8, [some 14, some 16, none, none, none, none])))) rfl (mem_get rfl).symm
theorem mem00_14 : h00[14]? = (mem σ00)[14]? := Eq.trans (b := some (cOf σ00 14 (.inl (7, [some 15])))) rfl (mem_get rfl).symm
theorem mem00_15 : h00[15]? = (mem σ00)[15]? := Eq.trans (b := some (cOf σ00 15 (.inr (.inl 160)))) rfl (mem_get rfl).symm
theorem mem00_16 : h00[16]? = (mem σ00)[16]? := Eq.trans (b := some (cOf σ00 16 (.inl (7, [some 17])))) rfl (mem_get rfl).symm
theorem mem00_17 : h00[17]? = (mem σ00)[17]? := Eq.trans (b := some (cOf σ00 17 (.inr (.inl 25)))) rfl (mem_get rfl).symm
theorem mem00_18 : h00[18]? = (mem σ00)[18]? := Eq.trans (b := some (cOf σ00 18 (.inl (8, [some 19, some 21, none, none, none, none])))) rfl (mem_get rfl).symm
theorem mem00_19 : h00[19]? = (mem σ00)[19]? := Eq.trans (b := some (cOf σ00 19 (.inl (7, [some 20])))) rfl (mem_get rfl).symm
theorem mem00_20 : h00[20]? = (mem σ00)[20]? := Eq.trans (b := some (cOf σ00 20 (.inr (.inl 160)))) rfl (mem_get rfl).symm
theorem mem00_21 : h00[21]? = (mem σ00)[21]? := Eq.trans (b := some (cOf σ00 21 (.inl (7, [some 22])))) rfl (mem_get rfl).symm
theorem mem00_22 : h00[22]? = (mem σ00)[22]? := Eq.trans (b := some (cOf σ00 22 (.inr (.inl 25)))) rfl (mem_get rfl).symm
theorem mem00_23 : h00[23]? = (mem σ00)[23]? := Eq.trans (b := some (cOf σ00 23 (.inl (8, [some 24, some 26, none, none, none, none])))) rfl (mem_get rfl).symm
theorem mem00_24 : h00[24]? = (mem σ00)[24]? := Eq.trans (b := some (cOf σ00 24 (.inl (7, [some 25])))) rfl (mem_get rfl).symm
theorem mem00_25 : h00[25]? = (mem σ00)[25]? := Eq.trans (b := some (cOf σ00 25 (.inr (.inl 160)))) rfl (mem_get rfl).symm
theorem mem00_26 : h00[26]? = (mem σ00)[26]? := Eq.trans (b := some (cOf σ00 26 (.inl (7, [some 27])))) rfl (mem_get rfl).symm
theorem mem00_27 : h00[27]? = (mem σ00)[27]? := Eq.trans (b := some (cOf σ00 27 (.inr (.inl 25)))) rfl (mem_get rfl).symm
theorem mem00_28 : h00[28]? = (mem σ00)[28]? := Eq.trans (b := some (cOf σ00 28 (.inl (8, [some 29, some 31, none, none, none, none])))) rfl (mem_get rfl).symm
theorem mem00_29 : h00[29]? = (mem σ00)[29]? := Eq.trans (b := some (cOf σ00 29 (.inl (7, [some 30])))) rfl (mem_get rfl).symm
theorem mem00_30 : h00[30]? = (mem σ00)[30]? := Eq.trans (b := some (cOf σ00 30 (.inr (.inl 160)))) rfl (mem_get rfl).symm
theorem mem00_31 : h00[31]? = (mem σ00)[31]? := Eq.trans (b := some (cOf σ00 31 (.inl (7, [some 32])))) rfl (mem_get rfl).symm
theorem mem00_32 : h00[32]? = (mem σ00)[32]? := Eq.trans (b := some (cOf σ00 32 (.inr (.inl 25)))) rfl (mem_get rfl).symm
theorem mem00_33 : h00[33]? = (mem σ00)[33]? := Eq.trans (b := some (cOf σ00 33 (.inl (6, [some 34, some 45, some 60, some 62, some 64, some 66, some 68, some 70, none])))) rfl (mem_get rfl).symm
theorem mem00_34 : h00[34]? = (mem σ00)[34]? := Eq.trans (b := some (cOf σ00 34 (.inl (3, [some 35, some 37, some 39, some 41, some 43, none])))) rfl (mem_get rfl).symm
theorem mem00_35 : h00[35]? = (mem σ00)[35]? := Eq.trans (b := some (cOf σ00 35 (.inl (7, [some 36])))) rfl (mem_get rfl).symm
theorem mem00_36 : h00[36]? = (mem σ00)[36]? := Eq.trans (b := some (cOf σ00 36 (.inr (.inl 160)))) rfl (mem_get rfl).symm
theorem mem00_37 : h00[37]? = (mem σ00)[37]? := Eq.trans (b := some (cOf σ00 37 (.inl (7, [some 38])))) rfl (mem_get rfl).symm
theorem mem00_38 : h00[38]? = (mem σ00)[38]? := Eq.trans (b := some (cOf σ00 38 (.inr (.inl 160)))) rfl (mem_get rfl).symm
theorem mem00_39 : h00[39]? = (mem σ00)[39]? := Eq.trans (b := some (cOf σ00 39 (.inl (7, [some 40])))) rfl (mem_get rfl).symm
theorem mem00_40 : h00[40]? = (mem σ00)[40]? := Eq.trans (b := some (cOf σ00 40 (.inr (.inl 160)))) rfl (mem_get rfl).symm
theorem mem00_41 : h00[41]? = (mem σ00)[41]? := Eq.trans (b := some (cOf σ00 41 (.inl (7, [some 42])))) rfl (mem_get rfl).symm
theorem mem00_42 : h00[42]? = (mem σ00)[42]? := Eq.trans (b := some (cOf σ00 42 (.inr (.inl 160)))) rfl (mem_get rfl).symm
theorem mem00_43 : h00[43]? = (mem σ00)[43]? := Eq.trans (b := some (cOf σ00 43 (.inl (7, [some 44])))) rfl (mem_get rfl).symm
theorem mem00_44 : h00[44]? = (mem σ00)[44]? := Eq.trans (b := some (cOf σ00 44 (.inr (.inl 25)))) rfl (mem_get rfl).symm
theorem mem00_45 : h00[45]? = (mem σ00)[45]? := Eq.trans (b := some (cOf σ00 45 (.inl (4, [some 46, some 48, some 50, some 52, some 54, some 56, some 58, none])))) rfl (mem_get rfl).symm
theorem mem00_46 : h00[46]? = (mem σ00)[46]? := Eq.trans (b := some (cOf σ00 46 (.inl (7, [some 47])))) rfl (mem_get rfl).symm
theorem mem00_47 : h00[47]? = (mem σ00)[47]? := Eq.trans (b := some (cOf σ00 47 (.inr (.inl 160)))) rfl (mem_get rfl).symm
theorem mem00_48 : h00[48]? = (mem σ00)[48]? := Eq.trans (b := some (cOf σ00 48 (.inl (7, [some 49])))) rfl (mem_get rfl).symm
theorem mem00_49 : h00[49]? = (mem σ00)[49]? := Eq.trans (b := some (cOf σ00 49 (.inr (.inl 160)))) rfl (mem_get rfl).symm
theorem mem00_50 : h00[50]? = (mem σ00)[50]? := Eq.trans (b := some (cOf σ00 50 (.inl (7, [some 51])))) rfl (mem_get rfl).symm
theorem mem00_51 : h00[51]? = (mem σ00)[51]? := Eq.trans (b := some (cOf σ00 51 (.inr (.inl 160)))) rfl (mem_get rfl).symm
theorem mem00_52 : h00[52]? = (mem σ00)[52]? := Eq.trans (b := some (cOf σ00 52 (.inl (7, [some 53])))) rfl (mem_get rfl).symm
theorem mem00_53 : h00[53]? = (mem σ00)[53]? := Eq.trans (b := some (cOf σ00 53 (.inr (.inl 160)))) rfl (mem_get rfl).symm
theorem mem00_54 : h00[54]? = (mem σ00)[54]? := Eq.trans (b := some (cOf σ00 54 (.inl (7, [some 55])))) rfl (mem_get rfl).symm
theorem mem00_55 : h00[55]? = (mem σ00)[55]? := Eq.trans (b := some (cOf σ00 55 (.inr (.inl 160)))) rfl (mem_get rfl).symm
theorem mem00_56 : h00[56]? = (mem σ00)[56]? := Eq.trans (b := some (cOf σ00 56 (.inl (7, [some 57])))) rfl (mem_get rfl).symm
theorem mem00_57 : h00[57]? = (mem σ00)[57]? := Eq.trans (b := some (cOf σ00 57 (.inr (.inl 160)))) rfl (mem_get rfl).symm
theorem mem00_58 : h00[58]? = (mem σ00)[58]? := Eq.trans (b := some (cOf σ00 58 (.inl (7, [some 59])))) rfl (mem_get rfl).symm
theorem mem00_59 : h00[59]? = (mem σ00)[59]? := Eq.trans (b := some (cOf σ00 59 (.inr (.inl 160)))) rfl (mem_get rfl).symm
theorem mem00_60 : h00[60]? = (mem σ00)[60]? := Eq.trans (b := some (cOf σ00 60 (.inl (7, [some 61])))) rfl (mem_get rfl).symm
theorem mem00_61 : h00[61]? = (mem σ00)[61]? := Eq.trans (b := some (cOf σ00 61 (.inr (.inl 160)))) rfl (mem_get rfl).symm
theorem mem00_62 : h00[62]? = (mem σ00)[62]? := Eq.trans (b := some (cOf σ00 62 (.inl (7, [some 63])))) rfl (mem_get rfl).symm
theorem mem00_63 : h00[63]? = (mem σ00)[63]? := Eq.trans (b := some (cOf σ00 63 (.inr (.inl 160)))) rfl (mem_get rfl).symm
theorem mem00_64 : h00[64]? = (mem σ00)[64]? := Eq.trans (b := some (cOf σ00 64 (.inl (7, [some 65])))) rfl (mem_get rfl).symm
theorem mem00_65 : h00[65]? = (mem σ00)[65]? := Eq.trans (b := some (cOf σ00 65 (.inr (.inl 160)))) rfl (mem_get rfl).symm
theorem mem00_66 : h00[66]? = (mem σ00)[66]? := Eq.trans (b := some (cOf σ00 66 (.inl (7, [some 67])))) rfl (mem_get rfl).symm
theorem mem00_67 : h00[67]? = (mem σ00)[67]? := Eq.trans (b := some (cOf σ00 67 (.inr (.inl 160)))) rfl (mem_get rfl).symm
theorem mem00_68 : h00[68]? = (mem σ00)[68]? := Eq.trans (b := some (cOf σ00 68 (.inl (7, [some 69])))) rfl (mem_get rfl).symm
theorem mem00_69 : h00[69]? = (mem σ00)[69]? := Eq.trans (b := some (cOf σ00 69 (.inr (.inl 160)))) rfl (mem_get rfl).symm
theorem mem00_70 : h00[70]? = (mem σ00)[70]? := Eq.trans (b := some (cOf σ00 70 (.inl (7, [some 71])))) rfl (mem_get rfl).symm
theorem mem00_71 : h00[71]? = (mem σ00)[71]? := Eq.trans (b := some (cOf σ00 71 (.inr (.inl 160)))) rfl (mem_get rfl).symm
theorem mem00_72 : h00[72]? = (mem σ00)[72]? := Eq.trans (b := some (cOf σ00 72 (.inl (1, [none, none, none, none, none])))) rfl (mem_get rfl).symm
theorem mem00_73 : h00[73]? = (mem σ00)[73]? := Eq.trans (b := some (cOf σ00 73 (.inl (0, [some 74, none, none, none])))) rfl (mem_get rfl).symm
theorem mem00_74 : h00[74]? = (mem σ00)[74]? := Eq.trans (b := some (cOf σ00 74 (.inl (7, [some 75])))) rfl (mem_get rfl).symm
theorem mem00_75 : h00[75]? = (mem σ00)[75]? := Eq.trans (b := some (cOf σ00 75 (.inr (.inl 25)))) rfl (mem_get rfl).symm
theorem mem00_76 : h00[76]? = (mem σ00)[76]? := Eq.trans (b := some (cOf σ00 76 (.inl (5, [some 77, none, none, none])))) rfl (mem_get rfl).symm
theorem mem00_77 : h00[77]? = (mem σ00)[77]? := Eq.trans (b := some (cOf σ00 77 (.inl (7, [some 78])))) rfl (mem_get rfl).symm
theorem mem00_78 : h00[78]? = (mem σ00)[78]? := Eq.trans (b := some (cOf σ00 78 (.inr (.inl 60)))) rfl (mem_get rfl).symm
theorem mem00_79 : h00[79]? = (mem σ00)[79]? := Eq.trans (b := some (cOf σ00 79 (.inr (.inl 4)))) rfl (mem_get rfl).symm
theorem mem00_80 : h00[80]? = (mem σ00)[80]? := Eq.trans (b := some (cOf σ00 80 (.inr (.inl 64)))) rfl (mem_get rfl).symm
theorem mem00_81 : h00[81]? = (mem σ00)[81]? := Eq.trans (b := some (cOf σ00 81 (.inr (.inl 25)))) rfl (mem_get rfl).symm
set_option maxRecDepth 20000 in
set_option maxHeartbeats 4000000 in
theorem mem00_all : ∀ j, j < 82 → h00[j]? = (mem σ00)[j]?
  | 0, _ => mem00_0
  | 1, _ => mem00_1
  | 2, _ => mem00_2
  | 3, _ => mem00_3
  | 4, _ => mem00_4
  | 5, _ => mem00_5
  | 6, _ => mem00_6
  | 7, _ => mem00_7
  | 8, _ => mem00_8
  | 9, _ => mem00_9
  | 10, _ => mem00_10
  | 11, _ => mem00_11
  | 12, _ => mem00_12
  | 13, _ => mem00_13
  | 14, _ => mem00_14
  | 15, _ => mem00_15
  | 16, _ => mem00_16
  | 17, _ => mem00_17
  | 18, _ => mem00_18
  | 19, _ => mem00_19
  | 20, _ => mem00_20
  | 21, _ => mem00_21
  | 22, _ => mem00_22
  | 23, _ => mem00_23
  | 24, _ => mem00_24
  | 25, _ => mem00_25
  | 26, _ => mem00_26
  | 27, _ => mem00_27
  | 28, _ => mem00_28
  | 29, _ => mem00_29
  | 30, _ => mem00_30
  | 31, _ => mem00_31
  | 32, _ => mem00_32
  | 33, _ => mem00_33
  | 34, _ => mem00_34
  | 35, _ => mem00_35
  | 36, _ => mem00_36
  | 37, _ => mem00_37
  | 38, _ => mem00_38
  | 39, _ => mem00_39
  | 40, _ => mem00_40
  | 41, _ => mem00_41
  | 42, _ => mem00_42
  | 43, _ => mem00_43
  | 44, _ => mem00_44
  | 45, _ => mem00_45
  | 46, _ => mem00_46
  | 47, _ => mem00_47
  | 48, _ => mem00_48
  | 49, _ => mem00_49
  | 50, _ => mem00_50
  | 51, _ => mem00_51
  | 52, _ => mem00_52
  | 53, _ => mem00_53
  | 54, _ => mem00_54
  | 55, _ => mem00_55
  | 56, _ => mem00_56
  | 57, _ => mem00_57
  | 58, _ => mem00_58
  | 59, _ => mem00_59
  | 60, _ => mem00_60
  | 61, _ => mem00_61
  | 62, _ => mem00_62
  | 63, _ => mem00_63
  | 64, _ => mem00_64
  | 65, _ => mem00_65
  | 66, _ => mem00_66
  | 67, _ => mem00_67
  | 68, _ => mem00_68
  | 69, _ => mem00_69
  | 70, _ => mem00_70
  | 71, _ => mem00_71
  | 72, _ => mem00_72
  | 73, _ => mem00_73
  | 74, _ => mem00_74
  | 75, _ => mem00_75
  | 76, _ => mem00_76
  | 77, _ => mem00_77
  | 78, _ => mem00_78
  | 79, _ => mem00_79
  | 80, _ => mem00_80
  | 81, _ => mem00_81
  | k + 82, h => absurd h (by omega)
theorem mem00 : h00 = mem σ00 := by
  apply List.ext_getElem?
  intro i
  by_cases hi : i < 82
  · exact mem00_all i hi
  · have hlen : (mem σ00).length = 82 := by
      rw [mem, List.length_mapIdx, SHX, List.length_append, List.length_replicate, gN00]; rfl
    rw [List.getElem?_eq_none (by rw [len00]; omega), List.getElem?_eq_none (by rw [hlen]; omega)]
def rho0 : Nat → Int32 := fun k => if k = 0 then nI 8 else if k = 1 then nI 1 else if 4 ≤ k ∧ k < 29 then nI (k - 4) else 0
theorem rho0_t {l : Nat} (hl : l < 25) : rho0 (4 + l) = nI l := by
  rw [rho0, if_neg (by omega), if_neg (by omega), if_pos (by omega), Nat.add_sub_cancel_left]
theorem s0_1 : σ00 1 2 = nI 0 ∧ σ00 1 3 = nI 8 ∧ σ00 1 4 = nI 1 ∧ σ00 1 5 = nI 0 := ⟨rfl, rfl, rfl, rfl⟩
theorem s0_5 : σ00 5 = idn 25 := rfl
theorem s0_11 : σ00 11 1 = nI 0 ∧ σ00 11 2 = nI 0 := ⟨rfl, rfl⟩
theorem s0_rd : σ00 34 5 = nI 0 ∧ σ00 45 7 = nI 0 ∧ σ00 33 8 = nI 0 ∧ σ00 65 0 = nI 0 := ⟨rfl, rfl, rfl, rfl⟩
theorem KI00 : KI σ00 rho0 0 := by
  refine ⟨⟨rfl, by decide, Or.inl rfl, ⟨fun l => l, fun l hl => ⟨rho0_t hl, hl⟩, fun l m _ _ e => e⟩, ⟨8, by decide, rfl⟩, fun k hk => absurd hk (Nat.not_lt_zero k)⟩, ⟨s0_1.1, s0_1.2.1, s0_1.2.2.1, s0_1.2.2.2, fun l hl => ?_, fun k hk => absurd hk (Nat.not_lt_zero k)⟩, ⟨0, fun _ => (fun _ => 0, 0), 0, by decide, s0_11.1, s0_11.2, by decide, fun i hi => absurd hi (Nat.not_lt_zero i)⟩, ⟨⟨s0_rd.1, fun l hl => absurd hl (Nat.not_lt_zero l)⟩, ⟨s0_rd.2.1, fun m hm => absurd hm (Nat.not_lt_zero m)⟩, s0_rd.2.2.1, fun i hi => absurd hi (Nat.not_lt_zero i), fun l hl => absurd hl (Nat.not_lt_zero l), fun h => absurd h (Nat.lt_irrefl 0), s0_rd.2.2.2⟩, rfl⟩
  rw [rho0_t hl]
  show σ00 5 l = nI l
  rw [s0_5, idn, if_pos hl]
def σ01 : Sg := setR (up (up σ00 79 0 (nI 8)) 79 1 (nI 1)) 81 (idn 25)
theorem idn_step {j : Nat} : upd (idn j) j (nI j) = idn (j + 1) := by
  funext k
  by_cases hk : k = j
  · subst hk
    rw [upd_hit, idn, if_pos (by omega)]
  · rw [upd_ne hk, idn, idn]
    by_cases h : k < j
    · rw [if_pos h, if_pos (by omega)]
    · rw [if_neg h, if_neg (by omega)]
theorem LJ01 : LJ σ01 := by
  refine ⟨rho0, 0, KI00.of (fun z hz => by rw [σ01, setR_ne (by omega), up_ne (by omega), up_ne (by omega)]), ⟨⟨?_, ?_, ?_, ?_⟩, fun l hl => ?_, fun k hk => absurd hk (Nat.not_lt_zero k)⟩, ⟨⟨8, by decide, by decide, rfl⟩, fun _ => 0, fun k hk => absurd hk (Nat.not_lt_zero k), fun i j _ hj => absurd hj (Nat.not_lt_zero j)⟩, by decide⟩
  · rw [σ01, setR_ne (by decide), up_miss (by decide), up_hit]; rfl
  · rw [σ01, setR_ne (by decide), up_hit]; rfl
  · rw [σ01, setR_ne (by decide), up_miss (by decide), up_miss (by decide)]; rfl
  · rw [σ01, setR_ne (by decide), up_miss (by decide), up_miss (by decide)]; rfl
  · rw [σ01, setR_hit, rho0_t hl, idn, if_pos hl]
theorem gN01 : gN σ01 = 0 := by
  rw [gN_of (σ := σ00) (by rw [σ01, setR_ne (by decide), up_ne (by decide), up_ne (by decide)])]
  exact gN00
theorem xk {X : AX} {pc p0 : Nat} {ls ls2 : List (Option AV)} {st st2 : List AV} {h h2 : AH} {a b : Nat} (e1 : pc = p0) (e2 : ls = ls2) (e3 : st = st2) (e4 : h = h2) (k : X p0 ls2 st2 h2 a b) : X pc ls st h a b := by
  subst e1; subst e2; subst e3; subst e4; exact k

theorem dvX9 : ∀ j, j < 7 → (parseFieldDescriptor (TX9 j).2.2.1).map defaultValue = some (cv 0 (([an, an, an, an, an, an, an] : List AV).getD j an)) ∧ (∀ q, ([an, an, an, an, an, an, an] : List AV)[j]? ≠ some (ar q)) := by
  intro j hj
  rw [tyX9_ok j hj]
  match j, hj with
  | 0, _ => exact ⟨rfl, fun q => by simp⟩
  | 1, _ => exact ⟨rfl, fun q => by simp⟩
  | 2, _ => exact ⟨rfl, fun q => by simp⟩
  | 3, _ => exact ⟨rfl, fun q => by simp⟩
  | 4, _ => exact ⟨rfl, fun q => by simp⟩
  | 5, _ => exact ⟨rfl, fun q => by simp⟩
  | 6, _ => exact ⟨rfl, fun q => by simp⟩
  | k + 7, h => exact absurd h (by omega)
set_option maxRecDepth 20000 in
set_option maxHeartbeats 2000000 in
theorem law_35 {X : AX} (hX : Rules mL_law (Cd (rf mL_law)) QL X) {a b : Nat} {σ : Sg} (next : ∀ x5, XM X a b 55 [none, some (ar 0), some (ar 79), some (ar 80), some (ar 81), x5, none, none, none] [] (setR σ 81 (idn 25))) : ∀ m j, j + m = 25 → XM X a b 35 [none, some (ar 0), some (ar 79), some (ar 80), some (ar 81), some (ai (nI j)), none, none, none] [] (setR σ 81 (idn j)) := by
  intro m
  induction m with
  | zero =>
    intro j hj
    obtain rfl : j = 25 := by omega
    refine x_iload hX (p0 := 37) dL_law_35 rfl rfl ?_
    refine x_bipush hX (p0 := 39) (v := nI 25) dL_law_37 (by decide) rfl ?_
    first | ((with_reducible refine yisN2 ?_); refine x_icmpN_ge hX (tgt := 55) (p1 := 42) dL_law_39 rfl (by omega) (by omega) rfl (fun c_39 => ?_) (fun c_39 => by exfalso; first | exact c_39 rfl | omega | contradiction)) | refine x_icmp_ge hX (tgt := 55) (p1 := 42) dL_law_39 rfl rfl (fun c_39 => ?_) (fun c_39 => by exfalso; first | exact c_39 rfl | omega | contradiction)
    exact next _
  | succ m ih =>
    intro j hj
    have e : up (setR σ 81 (idn j)) 81 j (nI j) = setR σ 81 (idn (j + 1)) := by
      rw [up_setR, setR_setR, setR_hit, idn_step]
    refine x_iload hX (p0 := 37) dL_law_35 rfl rfl ?_
    refine x_bipush hX (p0 := 39) (v := nI 25) dL_law_37 (by decide) rfl ?_
    first | ((with_reducible refine yisN2 ?_); refine x_icmpN_ge hX (tgt := 55) (p1 := 42) dL_law_39 rfl (by omega) (by omega) rfl (fun c_39 => by exfalso; first | exact c_39 rfl | omega | contradiction) (fun c_39 => ?_)) | refine x_icmp_ge hX (tgt := 55) (p1 := 42) dL_law_39 rfl rfl (fun c_39 => by exfalso; first | exact c_39 rfl | omega | contradiction) (fun c_39 => ?_)
    refine x_aload hX (p0 := 44) dL_law_42 rfl rfl ?_
    refine x_iload hX (p0 := 46) dL_law_44 rfl rfl ?_
    refine x_iload hX (p0 := 48) dL_law_46 rfl rfl ?_
    first | ((with_reducible refine yisNS ?_); refine x_astN hX (p0 := 49) dL_law_48 (by first | rfl | assumption | exact RW.s (by assumption) | exact TW.s (by assumption)) (by first | decide | assumption) (by omega) rfl ?_) | refine x_ast hX (p0 := 49) dL_law_48 (by first | rfl | assumption | exact RW.s (by assumption) | exact TW.s (by assumption)) (by assumption) rfl ?_
    first | refine x_iinc1 hX (p0 := 52) (ls2 := [_, _, _, _, _, _, _, _, _]) dL_law_49 rfl rfl rfl ?_ | refine x_iinc hX (p0 := 52) (ls2 := [_, _, _, _, _, _, _, _, _]) dL_law_49 rfl rfl rfl rfl ?_
    refine x_goto hX (tgt := 35) dL_law_52 rfl ?_
    rw [e]
    exact ih (j + 1) (by omega)
set_option maxRecDepth 20000 in
set_option maxHeartbeats 2000000 in
theorem law_55 {X : AX} (hX : Rules mL_law (Cd (rf mL_law)) QL X) (hc0 : ∀ a b ls σ, ls[0]? = some none → (∀ v, XM X a b 72 ls [ai v, ai (nI 10)] σ) → XM X a b 67 ls [ai (nI 10)] σ) (hc1 : ∀ a b ls k σ, ls[0]? = some none → ls[7]? = some (some (ai (nI k))) → k < 100 → (∀ v, XM X a b 103 ls [ai v] σ) → XM X a b 95 ls [] σ) (hc2 : ∀ a b ls σ, ls[0]? = some none → (∀ v, XM X a b 210 ls [ai v] σ) → XM X a b 205 ls [] σ) : ∀ x5, XM X (7 * 53) (448 * 53) 55 [none, some (ar 0), some (ar 79), some (ar 80), some (ar 81), x5, none, none, none] [] σ01 := by
  intro x5
  refine x_aload_n hX (p0 := 56) (i := 1) dL_law_55 rfl rfl rfl ?_
  refine x_aload_n hX (p0 := 57) (i := 2) dL_law_56 rfl rfl rfl ?_
  refine x_aload_n hX (p0 := 58) (i := 3) dL_law_57 rfl rfl rfl ?_
  refine x_aload hX (p0 := 60) dL_law_58 rfl rfl ?_
  refine x_isSo (a := 7 * 52) (b := 448 * 52) (p0 := 63) hX dL_law_60 (by decide) (by decide) LJ01 gN01 (by decide) rfl (fun σ2 f g => ?_)
  refine x_istore hX (p0 := 65) (i := 5) (ls2 := [_, _, _, _, _, _, _, _, _]) dL_law_63 (Nat.le_of_ble_eq_true rfl) rfl rfl ?_
  refine x_bipush hX (p0 := 67) (v := nI 10) dL_law_65 (by decide) rfl ?_
  refine hc0 _ _ _ σ2 rfl (fun v => ?_)
  obtain ⟨j, hj, hl⟩ := low_ex v 42 (by decide) (by decide)
  refine x_bipush hX (p0 := 74) (v := nI 42) dL_law_72 (by decide) rfl ?_
  refine x_cSR hX (n := 2) (p0 := 77) (r1 := mL_low) (As := [_, _]) dL_law_74 (Or.inl lL_39) vL_low (FITi rfl rfl) (Nat.le_of_ble_eq_true rfl) rfl rfl (hl σ2) rfl ?_
  first | ((with_reducible refine yisN2 ?_); refine x_iaddN hX (p0 := 78) dL_law_77 rfl ?_) | refine x_iadd hX (p0 := 78) dL_law_77 rfl ?_
  refine x_istore hX (p0 := 80) (i := 6) (ls2 := [_, _, _, _, _, _, _, _, _]) dL_law_78 (Nat.le_of_ble_eq_true rfl) rfl rfl ?_
  refine x_iconst hX (p0 := 81) (v := nI 0) dL_law_80 rfl rfl ?_
  refine x_istore hX (p0 := 83) (i := 7) (ls2 := [_, _, _, _, _, _, _, _, _]) dL_law_81 (Nat.le_of_ble_eq_true rfl) rfl rfl ?_
  exact law_loop hX hc1 hc2 (by omega) 52 0 (by decide) σ2 (LJ01.of f) g none
set_option maxRecDepth 20000 in
set_option maxHeartbeats 2000000 in
theorem law_pre {X : AX} (hX : Rules mL_law (Cd (rf mL_law)) QL X) (hc0 : ∀ a b ls σ, ls[0]? = some none → (∀ v, XM X a b 72 ls [ai v, ai (nI 10)] σ) → XM X a b 67 ls [ai (nI 10)] σ) (hc1 : ∀ a b ls k σ, ls[0]? = some none → ls[7]? = some (some (ai (nI k))) → k < 100 → (∀ v, XM X a b 103 ls [ai v] σ) → XM X a b 95 ls [] σ) (hc2 : ∀ a b ls σ, ls[0]? = some none → (∀ v, XM X a b 210 ls [ai v] σ) → XM X a b 205 ls [] σ) : X 0 [none, none, none, none, none, none, none, none, none] [] [] (78 + (7 * 53 + 1 + 1 + 1) + 1) (4051 + (448 * 53 + 25 + 64 + 4) + 7) := by
  refine xi_new (i := 44) (ci := 9) (N := 7) (fs := [an, an, an, an, an, an, an]) (a := 78 + (7 * 53 + 1 + 1 + 1)) (b := 4051 + (448 * 53 + 25 + 64 + 4)) hX dL_law_0 rfl kL_44 eX9 jX9 rfl dvX9 ?_
  refine xk (p0 := 3) (ls2 := [none, none, none, none, none, none, none, none, none]) (st2 := [ar 0]) (h2 := [.inl (9, [an, an, an, an, an, an, an])]) rfl rfl rfl rfl ?_
  refine xi_dup hX dL_law_3 ?_
  refine xk (p0 := 4) (ls2 := [none, none, none, none, none, none, none, none, none]) (st2 := [ar 0, ar 0]) (h2 := [.inl (9, [an, an, an, an, an, an, an])]) rfl rfl rfl rfl ?_
  refine xi_callI (r1 := mX9_init) (As := []) (st := [ar 0]) (o := 0) (a := 7 * 53 + 1 + 1 + 1) (b := 448 * 53 + 25 + 64 + 4) (a1 := 78) (b1 := 4051) hX dL_law_4 (Or.inl lL_109) vX9_init (FITi rfl rfl) (Nat.le_of_ble_eq_true rfl) ?_
  refine C.mono (ct_X9 []) ?_
  rintro w h' ⟨rfl, rfl⟩
  refine xk (p0 := 7) (ls2 := [none, none, none, none, none, none, none, none, none]) (st2 := [ar 0]) (h2 := chk_X9 0) rfl rfl rfl rfl ?_
  refine xi_astore_n (i := 1) hX dL_law_7 rfl (Nat.le_of_ble_eq_true rfl) ?_
  refine xk (p0 := 8) (ls2 := [none, some (ar 0), none, none, none, none, none, none, none]) (st2 := []) (h2 := chk_X9 0) rfl rfl rfl rfl ?_
  refine xi_iconst (v := nI 4) hX dL_law_8 rfl ?_
  refine xk (p0 := 9) (ls2 := [none, some (ar 0), none, none, none, none, none, none, none]) (st2 := [ai (nI 4)]) (h2 := chk_X9 0) rfl rfl rfl rfl ?_
  refine xi_newi (N := 4) (a := 7 * 53 + 1 + 1) (b := 448 * 53 + 25 + 64) hX dL_law_9 (nI_pos (by decide)) (nI_clamp (by decide)) (by decide) ?_
  refine xk (p0 := 11) (ls2 := [none, some (ar 0), none, none, none, none, none, none, none]) (st2 := [ar 79]) (h2 := (chk_X9 0 ++ [.inr (.inl (4, fun _ => 0))])) rfl rfl rfl rfl ?_
  refine xi_astore_n (i := 2) hX dL_law_11 rfl (Nat.le_of_ble_eq_true rfl) ?_
  refine xk (p0 := 12) (ls2 := [none, some (ar 0), some (ar 79), none, none, none, none, none, none]) (st2 := []) (h2 := (chk_X9 0 ++ [.inr (.inl (4, fun _ => 0))])) rfl rfl rfl rfl ?_
  refine xi_bipush (v := nI 64) hX dL_law_12 (by decide) ?_
  refine xk (p0 := 14) (ls2 := [none, some (ar 0), some (ar 79), none, none, none, none, none, none]) (st2 := [ai (nI 64)]) (h2 := (chk_X9 0 ++ [.inr (.inl (4, fun _ => 0))])) rfl rfl rfl rfl ?_
  refine xi_newi (N := 64) (a := 7 * 53 + 1) (b := 448 * 53 + 25) hX dL_law_14 (nI_pos (by decide)) (nI_clamp (by decide)) (by decide) ?_
  refine xk (p0 := 16) (ls2 := [none, some (ar 0), some (ar 79), none, none, none, none, none, none]) (st2 := [ar 80]) (h2 := ((chk_X9 0 ++ [.inr (.inl (4, fun _ => 0))]) ++ [.inr (.inl (64, fun _ => 0))])) rfl rfl rfl rfl ?_
  refine xi_astore_n (i := 3) hX dL_law_16 rfl (Nat.le_of_ble_eq_true rfl) ?_
  refine xk (p0 := 17) (ls2 := [none, some (ar 0), some (ar 79), some (ar 80), none, none, none, none, none]) (st2 := []) (h2 := ((chk_X9 0 ++ [.inr (.inl (4, fun _ => 0))]) ++ [.inr (.inl (64, fun _ => 0))])) rfl rfl rfl rfl ?_
  refine xi_bipush (v := nI 25) hX dL_law_17 (by decide) ?_
  refine xk (p0 := 19) (ls2 := [none, some (ar 0), some (ar 79), some (ar 80), none, none, none, none, none]) (st2 := [ai (nI 25)]) (h2 := ((chk_X9 0 ++ [.inr (.inl (4, fun _ => 0))]) ++ [.inr (.inl (64, fun _ => 0))])) rfl rfl rfl rfl ?_
  refine xi_newi (N := 25) (a := 7 * 53) (b := 448 * 53) hX dL_law_19 (nI_pos (by decide)) (nI_clamp (by decide)) (by decide) ?_
  refine xk (p0 := 21) (ls2 := [none, some (ar 0), some (ar 79), some (ar 80), none, none, none, none, none]) (st2 := [ar 81]) (h2 := h00) rfl rfl rfl rfl ?_
  refine xi_astore (i := 4) hX dL_law_21 (Nat.le_of_ble_eq_true rfl) ?_
  refine xk (p0 := 23) (ls2 := [none, some (ar 0), some (ar 79), some (ar 80), some (ar 81), none, none, none, none]) (st2 := []) (h2 := h00) rfl rfl rfl rfl ?_
  rw [mem00]
  show XM X (7 * 53) (448 * 53) 23 [none, some (ar 0), some (ar 79), some (ar 80), some (ar 81), none, none, none, none] [] σ00
  have h35 := law_35 hX (a := 7 * 53) (b := 448 * 53) (σ := up (up σ00 79 0 (nI 8)) 79 1 (nI 1)) (law_55 hX hc0 hc1 hc2) 25 0 (by decide)
  have e81 : setR (up (up σ00 79 0 (nI 8)) 79 1 (nI 1)) 81 (idn 0) = up (up σ00 79 0 (nI 8)) 79 1 (nI 1) := setR_id (by rw [up_ne (by decide), up_ne (by decide)]; funext k; rw [idn, if_neg (Nat.not_lt_zero k)]; rfl)
  rw [e81] at h35
  refine x_aload_n hX (p0 := 24) (i := 2) dL_law_23 rfl rfl rfl ?_
  refine x_iconst hX (p0 := 25) (v := nI 0) dL_law_24 rfl rfl ?_
  refine x_bipush hX (p0 := 27) (v := nI 8) dL_law_25 (by decide) rfl ?_
  first | ((with_reducible refine yisNS ?_); refine x_astN hX (p0 := 28) dL_law_27 (by first | rfl | assumption | exact RW.s (by assumption) | exact TW.s (by assumption)) (by first | decide | assumption) (by omega) rfl ?_) | refine x_ast hX (p0 := 28) dL_law_27 (by first | rfl | assumption | exact RW.s (by assumption) | exact TW.s (by assumption)) (by assumption) rfl ?_
  refine x_aload_n hX (p0 := 29) (i := 2) dL_law_28 rfl rfl rfl ?_
  refine x_iconst hX (p0 := 30) (v := nI 1) dL_law_29 rfl rfl ?_
  refine x_iconst hX (p0 := 31) (v := nI 1) dL_law_30 rfl rfl ?_
  first | ((with_reducible refine yisNS ?_); refine x_astN hX (p0 := 32) dL_law_31 (by first | rfl | assumption | exact RW.s (by assumption) | exact TW.s (by assumption)) (by first | decide | assumption) (by omega) rfl ?_) | refine x_ast hX (p0 := 32) dL_law_31 (by first | rfl | assumption | exact RW.s (by assumption) | exact TW.s (by assumption)) (by assumption) rfl ?_
  refine x_iconst hX (p0 := 33) (v := nI 0) dL_law_32 rfl rfl ?_
  refine x_istore hX (p0 := 35) (i := 5) (ls2 := [_, _, _, _, _, _, _, _, _]) dL_law_33 (Nat.le_of_ble_eq_true rfl) rfl rfl ?_
  exact h35
set_option maxRecDepth 20000 in
set_option maxHeartbeats 4000000 in
theorem whole_start {p : Program} {e : Env} {s : State} {m : MethodId} {below : List Frame} {meth : Method} {c : Code} (l : Launch) (hflags : l.flags = flags0) {b L : Nat} {xs : Nat → Int32} (hL : L ≤ 260) (C0 : lw_At p s m meth c b L xs) : W p l e room_1 s m #[Value.ref b] below meth c s.heap [] 0 0 (lw_Z below #[Value.ref b] s) (entryFrame m ([Value.ref b] : List Value).toArray 9) := by
  obtain ⟨hx, hb, hr, hml, hown, hts, hX, hbl, hlocks, hgv⟩ := id C0
  obtain ⟨G, hK⟩ := law_known hts
  have K : Ctx p s m #[Value.ref b] meth c mL_law G := ⟨hx, hb, hr, hml, hown, fun w hw => hts w (Wl_tbl w hw), hlocks, fun h => absurd h (by decide), hK⟩
  have hret : R_ireturn mL_law QL (SX p l e s m #[Value.ref b] below meth c mL_law G s.heap.size 600000 7302250 (some (.ref b)) (lw_Z below #[Value.ref b] s)) := by
    intro pc ls h a b1 x ty d1 d2 d3 d4 H locs cells slots cls hW hS hl ha hbb
    have ex : x = 1 := by
      have h9 := Option.some.inj d4
      exact Sum.inl.inj h9
    subst ex
    refine W.widen (k := 600000) (n := 7302250) (by omega) (by omega) ?_
    refine va_forget (fun q hq => hS.2.2 q hq) ?_
    exact lw_ret hx hb hr hlocks d1
  have hreta : R_areturn mL_law QL (SX p l e s m #[Value.ref b] below meth c mL_law G s.heap.size 600000 7302250 (some (.ref b)) (lw_Z below #[Value.ref b] s)) := by
    intro pc ls h a b1 x C d1 d2 d4
    exact absurd (show (some FieldType.boolean) = some (.object C) from d2) (by intro h; cases h)
  have hretv : R_return mL_law QL (SX p l e s m #[Value.ref b] below meth c mL_law G s.heap.size 600000 7302250 (some (.ref b)) (lw_Z below #[Value.ref b] s)) := by
    intro pc ls h a b1 d1 d2 d4
    exact absurd (show (some FieldType.boolean) = none from d2) (by intro h; cases h)
  have hXX := sim_rules (l := l) (e := e) (below := below) (OO := Cd (rf mL_law)) (Q := QL) (bs := s.heap.size) (mc := 600000) (ms := 7302250) (E := some (.ref b)) (Qf := lw_Z below #[Value.ref b] s) (OK_Cd l G s.heap.size (rf mL_law)) K hret hreta hretv
  have hS : va_S (fun q : Nat => s.heap.size ≤ q) s.heap s.heap [] := va_S.rf
  have hW : Wd G s.heap.size [] s.heap := ⟨rfl, fun k q h => by simp [wsOf] at h⟩
  have hpre := law_pre hXX (fun a b1 ls σ h0 kk => law_cell0 C0 hK hL (Nat.le_of_ble_eq_true rfl) h0 kk) (fun a b1 ls k σ h0 h7 hk kk => law_cell1 C0 hK hL (Nat.le_of_ble_eq_true rfl) h0 h7 hk kk) (fun a b1 ls σ h0 kk => law_cell2 C0 hK hL (Nat.le_of_ble_eq_true rfl) h0 kk)
  have hl := lv_entry ([.ref b]) (n := 9) (Nat.le_of_ble_eq_true rfl)
  rw [lg_entry_eq]
  generalize (lg_sl ([.ref b]) ++ List.replicate (9 - (lg_sl ([.ref b])).length) Slot.unset).toArray = ls at hl ⊢
  have hl : lv_has ls 9 [(0, .ref b)] := hl
  have hLH : LH (some (.ref b)) s.heap.size [none, none, none, none, none, none, none, none, none] ls 9 := by
    refine ⟨rfl, hl.1, hl.2.1, fun i v hi => ?_, fun w hw => ?_⟩
    · match i, hi with
      | 0, hi => cases hi
      | 1, hi => cases hi
      | 2, hi => cases hi
      | 3, hi => cases hi
      | 4, hi => cases hi
      | 5, hi => cases hi
      | 6, hi => cases hi
      | 7, hi => cases hi
      | 8, hi => cases hi
      | i + 9, hi => simp at hi
    · cases hw
      exact ⟨rfl, fun _ => lv_at hl 0 rfl⟩
  exact hpre s.heap [] 0 0 ls hW hS hLH (Nat.le_of_ble_eq_true rfl) (Nat.le_of_ble_eq_true rfl)
