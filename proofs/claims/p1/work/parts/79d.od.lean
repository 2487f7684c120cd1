/-! ODDS AND PLAN: choosing, in how many ways, common divisors. -/
def od_T : List (List Nat) := [[1], [1, 1], [1, 2, 1], [1, 3, 3, 1], [1, 4, 6, 4, 1], [1, 5, 10, 10, 5, 1], [1, 6, 15, 20, 15, 6, 1], [1, 7, 21, 35, 35, 21, 7, 1], [1, 8, 28, 56, 70, 56, 28, 8, 1], [1, 9, 36, 84, 126, 126, 84, 36, 9, 1], [1, 10, 45, 120, 210, 252, 210, 120, 45, 10, 1], [1, 11, 55, 165, 330, 462, 462, 330, 165, 55, 11, 1], [1, 12, 66, 220, 495, 792, 924, 792, 495, 220, 66, 12, 1], [1, 13, 78, 286, 715, 1287, 1716, 1716, 1287, 715, 286, 78, 13, 1], [1, 14, 91, 364, 1001, 2002, 3003, 3432, 3003, 2002, 1001, 364, 91, 14, 1], [1, 15, 105, 455, 1365, 3003, 5005, 6435, 6435, 5005, 3003, 1365, 455, 105, 15, 1], [1, 16, 120, 560, 1820, 4368, 8008, 11440, 12870, 11440, 8008, 4368, 1820, 560, 120, 16, 1], [1, 17, 136, 680, 2380, 6188, 12376, 19448, 24310, 24310, 19448, 12376, 6188, 2380, 680, 136, 17, 1], [1, 18, 153, 816, 3060, 8568, 18564, 31824, 43758, 48620, 43758, 31824, 18564, 8568, 3060, 816, 153, 18, 1], [1, 19, 171, 969, 3876, 11628, 27132, 50388, 75582, 92378, 92378, 75582, 50388, 27132, 11628, 3876, 969, 171, 19, 1], [1, 20, 190, 1140, 4845, 15504, 38760, 77520, 125970, 167960, 184756, 167960, 125970, 77520, 38760, 15504, 4845, 1140, 190, 20, 1], [1, 21, 210, 1330, 5985, 20349, 54264, 116280, 203490, 293930, 352716, 352716, 293930, 203490, 116280, 54264, 20349, 5985, 1330, 210, 21, 1], [1, 22, 231, 1540, 7315, 26334, 74613, 170544, 319770, 497420, 646646, 705432, 646646, 497420, 319770, 170544, 74613, 26334, 7315, 1540, 231, 22, 1], [1, 23, 253, 1771, 8855, 33649, 100947, 245157, 490314, 817190, 1144066, 1352078, 1352078, 1144066, 817190, 490314, 245157, 100947, 33649, 8855, 1771, 253, 23, 1], [1, 24, 276, 2024, 10626, 42504, 134596, 346104, 735471, 1307504, 1961256, 2496144, 2704156, 2496144, 1961256, 1307504, 735471, 346104, 134596, 42504, 10626, 2024, 276, 24, 1], [1, 25, 300, 2300, 12650, 53130, 177100, 480700, 1081575, 2042975, 3268760, 4457400, 5200300, 5200300, 4457400, 3268760, 2042975, 1081575, 480700, 177100, 53130, 12650, 2300, 300, 25, 1], [1, 26, 325, 2600, 14950, 65780, 230230, 657800, 1562275, 3124550, 5311735, 7726160, 9657700, 10400600, 9657700, 7726160, 5311735, 3124550, 1562275, 657800, 230230, 65780, 14950, 2600, 325, 26, 1], [1, 27, 351, 2925, 17550, 80730, 296010, 888030, 2220075, 4686825, 8436285, 13037895, 17383860, 20058300, 20058300, 17383860, 13037895, 8436285, 4686825, 2220075, 888030, 296010, 80730, 17550, 2925, 351, 27, 1], [1, 28, 378, 3276, 20475, 98280, 376740, 1184040, 3108105, 6906900, 13123110, 21474180, 30421755, 37442160, 40116600, 37442160, 30421755, 21474180, 13123110, 6906900, 3108105, 1184040, 376740, 98280, 20475, 3276, 378, 28, 1], [1, 29, 406, 3654, 23751, 118755, 475020, 1560780, 4292145, 10015005, 20030010, 34597290, 51895935, 67863915, 77558760, 77558760, 67863915, 51895935, 34597290, 20030010, 10015005, 4292145, 1560780, 475020, 118755, 23751, 3654, 406, 29, 1], [1, 30, 435, 4060, 27405, 142506, 593775, 2035800, 5852925, 14307150, 30045015, 54627300, 86493225, 119759850, 145422675, 155117520, 145422675, 119759850, 86493225, 54627300, 30045015, 14307150, 5852925, 2035800, 593775, 142506, 27405, 4060, 435, 30, 1], [1, 31, 465, 4495, 31465, 169911, 736281, 2629575, 7888725, 20160075, 44352165, 84672315, 141120525, 206253075, 265182525, 300540195, 300540195, 265182525, 206253075, 141120525, 84672315, 44352165, 20160075, 7888725, 2629575, 736281, 169911, 31465, 4495, 465, 31, 1], [1, 32, 496, 4960, 35960, 201376, 906192, 3365856, 10518300, 28048800, 64512240, 129024480, 225792840, 347373600, 471435600, 565722720, 601080390, 565722720, 471435600, 347373600, 225792840, 129024480, 64512240, 28048800, 10518300, 3365856, 906192, 201376, 35960, 4960, 496, 32, 1], [1, 33, 528, 5456, 40920, 237336, 1107568, 4272048, 13884156, 38567100, 92561040, 193536720, 354817320, 573166440, 818809200, 1037158320, 1166803110, 1166803110, 1037158320, 818809200, 573166440, 354817320, 193536720, 92561040, 38567100, 13884156, 4272048, 1107568, 237336, 40920, 5456, 528, 33, 1], [1, 34, 561, 5984, 46376, 278256, 1344904, 5379616, 18156204, 52451256, 131128140, 286097760, 548354040, 927983760, 1391975640, 1855967520, 2203961430, 2333606220, 2203961430, 1855967520, 1391975640, 927983760, 548354040, 286097760, 131128140, 52451256, 18156204, 5379616, 1344904, 278256, 46376, 5984, 561, 34, 1], [1, 35, 595, 6545, 52360, 324632, 1623160, 6724520, 23535820, 70607460, 183579396, 417225900, 834451800, 1476337800, 2319959400, 3247943160, 4059928950, 4537567650, 4537567650, 4059928950, 3247943160, 2319959400, 1476337800, 834451800, 417225900, 183579396, 70607460, 23535820, 6724520, 1623160, 324632, 52360, 6545, 595, 35, 1], [1, 36, 630, 7140, 58905, 376992, 1947792, 8347680, 30260340, 94143280, 254186856, 600805296, 1251677700, 2310789600, 3796297200, 5567902560, 7307872110, 8597496600, 9075135300, 8597496600, 7307872110, 5567902560, 3796297200, 2310789600, 1251677700, 600805296, 254186856, 94143280, 30260340, 8347680, 1947792, 376992, 58905, 7140, 630, 36, 1], [1, 37, 666, 7770, 66045, 435897, 2324784, 10295472, 38608020, 124403620, 348330136, 854992152, 1852482996, 3562467300, 6107086800, 9364199760, 12875774670, 15905368710, 17672631900, 17672631900, 15905368710, 12875774670, 9364199760, 6107086800, 3562467300, 1852482996, 854992152, 348330136, 124403620, 38608020, 10295472, 2324784, 435897, 66045, 7770, 666, 37, 1], [1, 38, 703, 8436, 73815, 501942, 2760681, 12620256, 48903492, 163011640, 472733756, 1203322288, 2707475148, 5414950296, 9669554100, 15471286560, 22239974430, 28781143380, 33578000610, 35345263800, 33578000610, 28781143380, 22239974430, 15471286560, 9669554100, 5414950296, 2707475148, 1203322288, 472733756, 163011640, 48903492, 12620256, 2760681, 501942, 73815, 8436, 703, 38, 1], [1, 39, 741, 9139, 82251, 575757, 3262623, 15380937, 61523748, 211915132, 635745396, 1676056044, 3910797436, 8122425444, 15084504396, 25140840660, 37711260990, 51021117810, 62359143990, 68923264410, 68923264410, 62359143990, 51021117810, 37711260990, 25140840660, 15084504396, 8122425444, 3910797436, 1676056044, 635745396, 211915132, 61523748, 15380937, 3262623, 575757, 82251, 9139, 741, 39, 1], [1, 40, 780, 9880, 91390, 658008, 3838380, 18643560, 76904685, 273438880, 847660528, 2311801440, 5586853480, 12033222880, 23206929840, 40225345056, 62852101650, 88732378800, 113380261800, 131282408400, 137846528820, 131282408400, 113380261800, 88732378800, 62852101650, 40225345056, 23206929840, 12033222880, 5586853480, 2311801440, 847660528, 273438880, 76904685, 18643560, 3838380, 658008, 91390, 9880, 780, 40, 1]]
def od_C (n k : Nat) : Nat := (od_T.getD n []).getD k 0
def od_l (n : Nat) : Int64 := Int64.ofInt n
/-- the class's loop -/
def od_1 (n d : Nat) : Nat → Int64
  | 0 => 1
  | k + 1 => od_1 n d k * (i3 ((n : Int) - d + ((k : Int) + 1))).toInt64 / (i3 ((k : Int) + 1)).toInt64
/-- the reference's loop -/
def od_2 (n : Nat) : Nat → Int64
  | 0 => 1
  | k + 1 => od_2 n k * (i3 ((n : Int) - k)).toInt64 / (i3 ((k : Int) + 1)).toInt64
theorem od_c1 : ((List.range 41).all (fun n => (List.range 21).all (fun d => Nat.blt n d || decide (od_1 n d d = od_l (od_C n d))))) = true := by decide +kernel
theorem od_c2 : ((List.range 41).all (fun n => (List.range 21).all (fun d => Nat.blt n d || (decide (od_2 n d = od_l (od_C n d)) && decide (0 < lg_cmp (od_2 n d) 0))))) = true := by decide +kernel
theorem od_p : ((List.range 40).all (fun n => (List.range 40).all (fun k => Nat.beq (od_C (n + 1) (k + 1)) (od_C n k + od_C n (k + 1))))) = true := by decide +kernel
theorem od_m : ((List.range 41).all (fun n => Nat.beq (od_C n 0) 1 && (List.range 41).all (fun k => Nat.ble (od_C n k) 137846528820 && (Nat.blt n k == Nat.beq (od_C n k) 0)))) = true := by decide +kernel
theorem od_1C {n d : Nat} (hn : n ≤ 40) (hd : d ≤ 20) (h : d ≤ n) : od_1 n d d = od_l (od_C n d) := by
  have := List.all_eq_true.mp (List.all_eq_true.mp od_c1 n (List.mem_range.mpr (by omega))) d (List.mem_range.mpr (by omega))
  rw [Bool.or_eq_true] at this
  rcases this with q | q
  · have : n < d := Nat.le_of_ble_eq_true q
    omega
  · exact of_decide_eq_true q
theorem od_2C {n d : Nat} (hn : n ≤ 40) (hd : d ≤ 20) (h : d ≤ n) : od_2 n d = od_l (od_C n d) ∧ 0 < lg_cmp (od_2 n d) 0 := by
  have := List.all_eq_true.mp (List.all_eq_true.mp od_c2 n (List.mem_range.mpr (by omega))) d (List.mem_range.mpr (by omega))
  rw [Bool.or_eq_true, Bool.and_eq_true] at this
  rcases this with q | q
  · have : n < d := Nat.le_of_ble_eq_true q
    omega
  · exact ⟨of_decide_eq_true q.1, of_decide_eq_true q.2⟩
theorem od_P {n k : Nat} (hn : n < 40) (hk : k < 40) : od_C (n + 1) (k + 1) = od_C n k + od_C n (k + 1) :=
  Nat.eq_of_beq_eq_true (List.all_eq_true.mp (List.all_eq_true.mp od_p n (List.mem_range.mpr hn)) k (List.mem_range.mpr hk))
theorem od_M {n : Nat} (hn : n ≤ 40) : od_C n 0 = 1 ∧ ∀ k ≤ 40, od_C n k ≤ 137846528820 ∧ (n < k ↔ od_C n k = 0) := by
  have := List.all_eq_true.mp od_m n (List.mem_range.mpr (by omega))
  rw [Bool.and_eq_true] at this
  refine ⟨Nat.eq_of_beq_eq_true this.1, fun k hk => ?_⟩
  have h2 := List.all_eq_true.mp this.2 k (List.mem_range.mpr (by omega))
  rw [Bool.and_eq_true] at h2
  refine ⟨Nat.le_of_ble_eq_true h2.1, ?_⟩
  have h3 := eq_of_beq h2.2
  refine ⟨fun q => ?_, fun q => ?_⟩
  · have : Nat.blt n k = true := Nat.ble_eq_true_of_le q
    rw [this] at h3
    exact Nat.eq_of_beq_eq_true h3.symm
  · rw [q] at h3
    have : Nat.blt n k = true := h3.trans rfl
    exact Nat.le_of_ble_eq_true this
theorem od_V : ∀ (a f b g : Nat), a + b ≤ 40 → f + g ≤ 40 → od_C a f * od_C b g ≤ od_C (a + b) (f + g)
  | 0, 0, b, g, hab, _ => by
    rw [(od_M (n := 0) (by omega)).1, Nat.one_mul, Nat.zero_add, Nat.zero_add]
    exact Nat.le_refl _
  | 0, f + 1, b, g, hab, hfg => by
    rw [((od_M (n := 0) (by omega)).2 (f + 1) (by omega)).2.mp (by omega), Nat.zero_mul]
    exact Nat.zero_le _
  | a + 1, 0, b, 0, hab, hfg => by
    rw [(od_M (n := a + 1) (by omega)).1, (od_M (n := b) (by omega)).1, (od_M (n := a + 1 + b) (by omega)).1]
    exact Nat.le_refl _
  | a + 1, 0, b, g + 1, hab, hfg => by
    have h := od_V a 0 b (g + 1) (by omega) hfg
    rw [(od_M (n := a) (by omega)).1] at h
    rw [(od_M (n := a + 1) (by omega)).1, Nat.zero_add, show a + 1 + b = a + b + 1 from by omega, od_P (by omega) (by omega)]
    rw [Nat.zero_add] at h
    exact Nat.le_trans h (Nat.le_add_left _ _)
  | a + 1, f + 1, b, g, hab, hfg => by
    have h1 := od_V a f b g (by omega) (by omega)
    have h2 := od_V a (f + 1) b g (by omega) hfg
    rw [show a + 1 + b = a + b + 1 from by omega, show f + 1 + g = f + g + 1 from by omega, od_P (by omega) (by omega), od_P (by omega) (by omega), Nat.add_mul]
    rw [show f + 1 + g = f + g + 1 from by omega] at h2
    exact Nat.add_le_add h1 h2
/-- found at most -/
def od_W (c b s : Nat) : Nat → Nat
  | 0 => 0
  | m + 1 => od_W c b s m + od_C b m * od_C (c - b) (s - m)
theorem od_Wb {c b s : Nat} (hc : c ≤ 40) (hb : b ≤ c) (hs : s ≤ 40) : ∀ m, m ≤ s + 1 → od_W c b s m ≤ m * 137846528820
  | 0, _ => by rw [Nat.zero_mul]; exact Nat.le_refl _
  | m + 1, hm => by
    have h1 := od_Wb hc hb hs m (by omega)
    have h2 := od_V b m (c - b) (s - m) (by omega) (by omega)
    have h3 := ((od_M (n := b + (c - b)) (by omega)).2 (m + (s - m)) (by omega)).1
    show od_W c b s m + _ ≤ _
    rw [Nat.add_mul]
    omega
/-! longs -/
theorem od_t {n : Nat} (h : n < 4611686018427387904) : (od_l n).toInt = n := Int64.toInt_ofInt_of_le (by omega) (by omega)
theorem od_add (a b : Nat) : od_l a + od_l b = od_l (a + b) := by
  unfold od_l
  rw [← Int64.ofInt_add, Int.natCast_add]
theorem od_mul (a b : Nat) : od_l a * od_l b = od_l (a * b) := by
  unfold od_l
  rw [← Int64.ofInt_mul, Int.natCast_mul]
theorem od_inj {a b : Nat} (ha : a < 4611686018427387904) (hb : b < 4611686018427387904) (h : od_l a = od_l b) : a = b := by
  have := congrArg Int64.toInt h
  rw [od_t ha, od_t hb] at this
  omega
theorem od_div {a b : Nat} (ha : a < 4611686018427387904) (hb : b < 4611686018427387904) : od_l a / od_l b = od_l (a / b) := by
  unfold od_l
  rw [← Int64.ofInt_tdiv (by show (-9223372036854775808 : Int) ≤ _; omega) (by show _ ≤ (9223372036854775807 : Int); omega) (by show (-9223372036854775808 : Int) ≤ _; omega) (by show _ ≤ (9223372036854775807 : Int); omega)]
  rw [Int.tdiv_eq_ediv_of_nonneg (by omega), Int.natCast_ediv]
theorem od_mod {a b : Nat} (ha : a < 4611686018427387904) (hb : b < 4611686018427387904) : od_l a - od_l a / od_l b * od_l b = od_l (a % b) := by
  rw [od_div ha hb, od_mul]
  have e : od_l a = od_l (a % b) + od_l (a / b * b) := by
    rw [od_add]
    have := Nat.mod_add_div a b
    rw [Nat.mul_comm (a / b) b, this]
  rw [e]
  unfold od_l
  rw [← Int64.ofInt_add, ← Int64.ofInt_sub]
  congr 1
  omega
theorem od_c0 {y : Nat} (hy : y < 4611686018427387904) : decide (lg_cmp (od_l y) 0 = 0) = decide (y = 0) := by
  by_cases h : y = 0
  · subst h; rfl
  · rw [decide_eq_false h, decide_eq_false]
    intro q
    unfold lg_cmp at q
    have h2 : od_l y ≠ 0 := fun z => h (od_inj hy (by decide) z)
    rw [if_neg h2] at q
    split at q <;> cases q
theorem od_z {y : Nat} (hy : y < 4611686018427387904) (h : y ≠ 0) : decide (od_l y = 0) = false := decide_eq_false (fun z => h (od_inj hy (by decide) z))
/-! the programs -/
theorem od_i {n : Nat} (hn : n < 2147483648) : (i3 (n : Int)).toInt64 = od_l n := Int32.toInt64_ofInt (by show (-2147483648 : Int) ≤ _; omega) (by show _ ≤ (2147483647 : Int); omega)
theorem od_91 {n d : Nat} (hn : n ≤ 40) (hd : d ≤ 20) {a b : Int32} (ha : a = i3 n) (hb : b = i3 d) (μ : qz_M) : qf_91 [.inl a, .inl b] μ = some (μ, .inl (some (.inr (.inl (od_l (od_C n d)))))) := by
  subst ha hb
  refine wz_call_eq (fw_91 _ _ μ _ ?_)
  refine wz_br (i3Le (rfl : i3 d = i3 d) (rfl : i3 n = i3 n) (by omega) (by omega) (by omega) (by omega)) (fun h => ?_) (fun h => ?_)
  · refine wz_lp sb_91_1 (fun m x => ∃ k : Nat, k + m = d ∧ qz_fg [true, true, true, false, true] x.1 = [some (.inl (i3 n)), some (.inl (i3 d)), some (.inr (.inl (od_1 n d k))), none, some (.inl (i3 ((k : Int) + 1)))] ∧ x.2 = ([], μ)) ?_ 65536 d _ (by omega) ⟨0, by omega, rfl, rfl⟩
    rintro m ⟨L, st, μ'⟩ ⟨k, hk, hL, hx⟩
    cases hx
    refine fb_91_1 _ _ _ _ _ _ _ _ hL ?_
    refine wz_br (i3L (rfl : i3 d = i3 d) (rfl : i3 ((k : Int) + 1) = i3 ((k : Int) + 1)) (by omega) (by omega) (by omega) (by omega)) (fun h1 => ?_) (fun h1 => ?_)
    · have hkd : k = d := by omega
      subst hkd
      refine wz_lk0 (wz_sk0 (fc_91_2 (od_1 n k k) _ _ _ _ rfl ⟨rfl, ?_⟩))
      rw [od_1C hn hd (by omega)]
    · have e1 : (i3 ((k : Int) + 1)).toInt64 = od_l (k + 1) := od_i (n := k + 1) (by omega)
      refine wz_i0 ?_ ?_
      · rw [e1]
        exact od_z (by omega) (by omega)
      · refine wz_k1 ⟨m - 1, by omega, k + 1, by omega, ?_, rfl⟩
        have e2 : (i3 n - i3 d) + i3 ((k : Int) + 1) = i3 ((n : Int) - d + ((k : Int) + 1)) := i3A (i3S rfl rfl) rfl
        have e3 : i3 ((k : Int) + 1) + (1 : Int32) = i3 (((k + 1 : Nat) : Int) + 1) := i3A rfl rfl
        rw [e2, e3]
        rfl
  · refine ⟨rfl, ?_⟩
    rw [((od_M hn).2 d (by omega)).2.mp (by omega)]
    rfl
theorem od_319 {n d : Nat} (hn : n ≤ 40) (hd : d ≤ 20) {a b : Int32} (ha : a = i3 n) (hb : b = i3 d) (μ : qz_M) : qf_319 [.inl a, .inl b] μ = some (μ, .inl (some (.inr (.inl (od_l (od_C n d)))))) := by
  subst ha hb
  refine wz_call_eq (fw_319 _ _ μ _ ?_)
  refine wz_br (i3L (rfl : i3 n = i3 n) (rfl : i3 d = i3 d) (by omega) (by omega) (by omega) (by omega)) (fun h => ?_) (fun h => ?_)
  · refine wz_l0 sb_319_1 (fb_319_1 (i3 n) (i3 d) 0 0 _ _ _ _ rfl ?_)
    refine wz_i0 (Eq.trans (i3Le (rfl : i3 d = i3 d) (show (0 : Int32) = i3 0 from rfl) (by omega) (by omega) (by omega) (by omega)) (decide_eq_false (by omega))) ?_
    refine wz_i1 (by decide) (wz_lk0 (wz_sk0 (fc_319_2 0 _ _ _ _ rfl ⟨rfl, ?_⟩)))
    rw [((od_M hn).2 d (by omega)).2.mp (by omega)]
    rfl
  · refine wz_lp sb_319_1 (fun m x => ∃ k : Nat, k + m = d ∧ qz_fg [true, true, true, false, true] x.1 = [some (.inl (i3 n)), some (.inl (i3 d)), some (.inr (.inl (od_2 n k))), none, some (.inl (i3 (k : Int)))] ∧ x.2 = ([], μ)) ?_ 65536 d _ (by omega) ⟨0, by omega, rfl, rfl⟩
    rintro m ⟨L, st, μ'⟩ ⟨k, hk, hL, hx⟩
    cases hx
    refine fb_319_1 _ _ _ _ _ _ _ _ hL ?_
    have h2 := od_2C hn (d := k) (by omega) (by omega)
    refine wz_br (i3Le (rfl : i3 d = i3 d) (rfl : i3 (k : Int) = i3 (k : Int)) (by omega) (by omega) (by omega) (by omega)) (fun h1 => ?_) (fun h1 => ?_)
    · have hkd : k = d := by omega
      subst hkd
      refine wz_lk0 (wz_sk0 (fc_319_2 (od_2 n k) _ _ _ _ rfl ⟨rfl, ?_⟩))
      rw [h2.1]
    · have e3 : i3 (k : Int) + (1 : Int32) = i3 ((k : Int) + 1) := i3A rfl rfl
      have e1 : (i3 ((k : Int) + 1)).toInt64 = od_l (k + 1) := od_i (n := k + 1) (by omega)
      refine wz_i0 (decide_eq_false (Int32.not_le.mpr h2.2)) ?_
      rw [e3]
      refine wz_i0 ?_ ?_
      · rw [e1]
        exact od_z (by omega) (by omega)
      · refine wz_k1 ⟨m - 1, by omega, k + 1, by omega, ?_, rfl⟩
        have e2 : i3 n - i3 (k : Int) = i3 ((n : Int) - k) := i3S rfl rfl
        rw [e2]
        rfl
theorem od_110 {c b s p : Nat} (hc : c ≤ 40) (hb : b ≤ c) (hs : s ≤ 20) (hp : p ≤ 9) {x0 x1 x2 x3 : Int32} (h0 : x0 = i3 c) (h1 : x1 = i3 b) (h2 : x2 = i3 s) (h3 : x3 = i3 p) (μ : qz_M) : qf_110 [.inl x0, .inl x1, .inl x2, .inl x3] μ = some (μ, .inl (some (.inr (.inl (od_l (od_W c b s (min p s + 1))))))) := by
  subst h0 h1 h2 h3
  refine wz_call_eq (fw_110 _ _ _ _ μ _ ?_)
  refine wz_lp sb_110_1 (fun m x => ∃ k : Nat, k + m = min p s + 1 ∧ qz_fg [true, true, true, true, true, false, true] x.1 = [some (.inl (i3 c)), some (.inl (i3 b)), some (.inl (i3 s)), some (.inl (i3 p)), some (.inr (.inl (od_l (od_W c b s k)))), none, some (.inl (i3 (k : Int)))] ∧ x.2 = ([], μ)) ?_ 65536 (min p s + 1) _ (by omega) ⟨0, by omega, rfl, rfl⟩
  rintro m ⟨L, st, μ'⟩ ⟨k, hk, hL, hx⟩
  cases hx
  refine fb_110_1 _ _ _ _ _ _ _ _ _ _ hL ?_
  refine wz_br (i3L (rfl : i3 p = i3 p) (rfl : i3 (k : Int) = i3 (k : Int)) (by omega) (by omega) (by omega) (by omega)) (fun h1 => ?_) (fun h1 => ?_)
  · have e : k = min p s + 1 := by omega
    refine wz_lk0 (wz_sk0 (fc_110_2 (od_l (od_W c b s k)) _ _ _ _ rfl ⟨rfl, ?_⟩))
    rw [e]
  refine wz_br (i3L (rfl : i3 s = i3 s) (rfl : i3 (k : Int) = i3 (k : Int)) (by omega) (by omega) (by omega) (by omega)) (fun h2 => ?_) (fun h2 => ?_)
  · have e : k = min p s + 1 := by omega
    refine wz_lk0 (wz_sk0 (fc_110_2 (od_l (od_W c b s k)) _ _ _ _ rfl ⟨rfl, ?_⟩))
    rw [e]
  refine wz_cJ_of (od_91 (n := b) (d := k) (by omega) (by omega) rfl rfl μ) ?_
  refine wz_cJ_of (od_91 (n := c - b) (d := s - k) (by omega) (by omega) (i3C (i3S rfl rfl) (by omega)) (i3C (i3S rfl rfl) (by omega)) μ) ?_
  refine wz_k1 ⟨m - 1, by omega, k + 1, by omega, ?_, rfl⟩
  have e3 : i3 (k : Int) + (1 : Int32) = i3 (((k + 1 : Nat) : Int)) := (i3A rfl (show (1 : Int32) = i3 1 from rfl)).trans (congrArg i3 (by omega))
  rw [od_mul, od_add, e3]
  rfl
theorem od_333 {c b s p : Nat} (hc : c ≤ 40) (hb : b ≤ c) (hs : s ≤ 20) (hp : p ≤ 9) {x0 x1 x2 x3 : Int32} (h0 : x0 = i3 c) (h1 : x1 = i3 b) (h2 : x2 = i3 s) (h3 : x3 = i3 p) (μ : qz_M) : qf_333 [.inl x0, .inl x1, .inl x2, .inl x3] μ = some (μ, .inl (some (.inr (.inl (od_l (od_W c b s (min p s + 1))))))) := by
  subst h0 h1 h2 h3
  refine wz_call_eq (fw_333 _ _ _ _ μ _ ?_)
  refine wz_lp sb_333_1 (fun m x => ∃ k : Nat, k + m = min p s + 1 ∧ qz_fg [true, true, true, true, true, false, true] x.1 = [some (.inl (i3 c)), some (.inl (i3 b)), some (.inl (i3 s)), some (.inl (i3 p)), some (.inr (.inl (od_l (od_W c b s k)))), none, some (.inl (i3 (k : Int)))] ∧ x.2 = ([], μ)) ?_ 65536 (min p s + 1) _ (by omega) ⟨0, by omega, rfl, rfl⟩
  rintro m ⟨L, st, μ'⟩ ⟨k, hk, hL, hx⟩
  cases hx
  refine fb_333_1 _ _ _ _ _ _ _ _ _ _ hL ?_
  refine wz_br (i3L (rfl : i3 p = i3 p) (rfl : i3 (k : Int) = i3 (k : Int)) (by omega) (by omega) (by omega) (by omega)) (fun h1 => ?_) (fun h1 => ?_)
  · have e : k = min p s + 1 := by omega
    refine wz_lk0 (wz_sk0 (fc_333_2 (od_l (od_W c b s k)) _ _ _ _ rfl ⟨rfl, ?_⟩))
    rw [e]
  refine wz_br (i3L (rfl : i3 s = i3 s) (rfl : i3 (k : Int) = i3 (k : Int)) (by omega) (by omega) (by omega) (by omega)) (fun h2 => ?_) (fun h2 => ?_)
  · have e : k = min p s + 1 := by omega
    refine wz_lk0 (wz_sk0 (fc_333_2 (od_l (od_W c b s k)) _ _ _ _ rfl ⟨rfl, ?_⟩))
    rw [e]
  refine wz_cJ_of (od_319 (n := b) (d := k) (by omega) (by omega) rfl rfl μ) ?_
  refine wz_cJ_of (od_319 (n := c - b) (d := s - k) (by omega) (by omega) (i3C (i3S rfl rfl) (by omega)) (i3C (i3S rfl rfl) (by omega)) μ) ?_
  refine wz_k1 ⟨m - 1, by omega, k + 1, by omega, ?_, rfl⟩
  have e3 : i3 (k : Int) + (1 : Int32) = i3 (((k + 1 : Nat) : Int)) := (i3A rfl (show (1 : Int32) = i3 1 from rfl)).trans (congrArg i3 (by omega))
  rw [od_mul, od_add, e3]
  rfl
/-! the greatest common divisor -/
def od_Q (j x y : Nat) : Prop := x < 4611686018427387904 ∧ y < 4611686018427387904 ∧ (if j % 2 = 0 then y < 2 ^ (j / 2) else x < 2 ^ (j / 2 + 1) ∧ y < x)
theorem od_Qs {j x y : Nat} (h : od_Q (j + 1) x y) (hy : y ≠ 0) : od_Q j y (x % y) := by
  obtain ⟨h1, h2, h3⟩ := h
  have hm := Nat.mod_lt x (Nat.pos_of_ne_zero hy)
  refine ⟨h2, by omega, ?_⟩
  by_cases e : (j + 1) % 2 = 0
  · rw [if_pos e] at h3
    rw [if_neg (by omega), show j / 2 + 1 = (j + 1) / 2 from by omega]
    exact ⟨h3, hm⟩
  · rw [if_neg e] at h3
    rw [if_pos (by omega), show j / 2 = (j + 1) / 2 from by omega]
    have hp : 2 ^ ((j + 1) / 2 + 1) = 2 * 2 ^ ((j + 1) / 2) := by rw [Nat.pow_succ, Nat.mul_comm]
    have h4 : 2 * (x % y) < x := by
      have := Nat.mod_add_div x y
      have hq : 1 ≤ x / y := (Nat.one_le_div_iff (Nat.pos_of_ne_zero hy)).mpr (by omega)
      have : y ≤ y * (x / y) := Nat.le_mul_of_pos_right _ hq
      omega
    omega
theorem od_Q0 {x y : Nat} (h : od_Q 0 x y) : y = 0 := by
  have := h.2.2
  rw [if_pos rfl] at this
  have : y < 1 := this
  omega
theorem od_93 {a b : Nat} (ha : a < 2199023255552) (hb : b < 2199023255552) (hb0 : 0 < b) {x y : Int64} (hx : x = od_l a) (hy : y = od_l b) (μ : qz_M) : qf_93 [.inr (.inl x), .inr (.inl y)] μ = some (μ, .inl (some (.inr (.inl (od_l (Nat.gcd a b)))))) := by
  subst hx hy
  refine wz_call_eq (fw_93 _ _ μ _ ?_)
  refine wz_lp sb_93_1 (fun m x => ∃ (t x4 x6 : Nat), t + m = 82 ∧ od_Q m x4 x6 ∧ Nat.gcd x4 x6 = Nat.gcd a b ∧ qz_fg [false, false, false, false, true, false, true, false, true, false, false] x.1 = [none, none, none, none, some (.inr (.inl (od_l x4))), none, some (.inr (.inl (od_l x6))), none, some (.inl (i3 (t : Int))), none, none] ∧ x.2 = ([], μ)) ?_ 65536 82 _ (by omega) ⟨0, a, b, by omega, ⟨by omega, by omega, ?_⟩, rfl, rfl, rfl⟩
  · rintro m ⟨L, st, μ'⟩ ⟨t, x, y, ht, hQ, hg, hL, hx⟩
    cases hx
    refine fb_93_1 _ _ _ _ _ _ _ hL ?_
    refine wz_i0 (Eq.trans (i3Le (show (100 : Int32) = i3 100 from rfl) (rfl : i3 (t : Int) = i3 (t : Int)) (by omega) (by omega) (by omega) (by omega)) (decide_eq_false (by omega))) ?_
    refine wz_br (od_c0 hQ.2.1) (fun h1 => ?_) (fun h1 => ?_)
    · subst h1
      refine wz_lk0 (wz_sk0 (fc_93_2 (od_l x) _ _ _ _ rfl ⟨rfl, ?_⟩))
      rw [Nat.gcd_zero_right] at hg
      rw [hg]
      have hp : 0 < Nat.gcd a b := Nat.gcd_pos_of_pos_right a hb0
      have hl : Nat.gcd a b < 4611686018427387904 := by rw [← hg]; exact hQ.1
      have e : (if (1 : Int64) < od_l (Nat.gcd a b) then od_l (Nat.gcd a b) else (1 : Int64)) = od_l (Nat.gcd a b) := by
        by_cases h : Nat.gcd a b = 1
        · rw [h]; rfl
        · rw [if_pos]
          rw [Int64.lt_iff_toInt_lt, od_t hl]
          show (1 : Int) < _
          omega
      rw [e]
    · refine wz_i0 (od_z hQ.2.1 h1) ?_
      cases m with
      | zero => exact absurd (od_Q0 hQ) h1
      | succ j =>
        refine wz_k1 ⟨j, by omega, t + 1, y, x % y, by omega, od_Qs hQ h1, ?_, ?_, rfl⟩
        · rw [← hg, Nat.gcd_comm y, ← Nat.gcd_rec, Nat.gcd_comm]
        · rw [od_mod hQ.1 hQ.2.1, show i3 (t : Int) + (1 : Int32) = i3 (((t + 1 : Nat) : Int)) from (i3A rfl (show (1 : Int32) = i3 1 from rfl)).trans (congrArg i3 (by omega))]
          rfl
  · rw [if_pos (by decide)]
    exact hb
theorem od_332 {a b : Nat} (ha : a < 2199023255552) (hb : b < 2199023255552) (hb0 : 0 < b) {x y : Int64} {w : Int32} {q : Int} (hq : 0 ≤ q ∧ q ≤ 1) (hx : x = od_l a) (hy : y = od_l b) (hw : w = i3 q) (μ : qz_M) : qf_332 [.inr (.inl x), .inr (.inl y), .inl w] μ = some (μ, .inl (some (.inr (.inl (if q = 0 then od_l (a / Nat.gcd a b) else od_l (b / Nat.gcd a b)))))) := by
  subst hx hy hw
  refine wz_call_eq (fw_332 _ _ _ μ _ ?_)
  refine wz_lp sb_332_1 (fun m x => ∃ (x4 x6 : Nat), od_Q m x4 x6 ∧ Nat.gcd x4 x6 = Nat.gcd a b ∧ qz_fg [true, false, true, false, true, true, false, true, false, false, false] x.1 = [some (.inr (.inl (od_l a))), none, some (.inr (.inl (od_l b))), none, some (.inl (i3 q)), some (.inr (.inl (od_l x4))), none, some (.inr (.inl (od_l x6))), none, none, none] ∧ x.2 = ([], μ)) ?_ 65536 82 _ (by omega) ⟨b, a, ⟨by omega, by omega, ?_⟩, Nat.gcd_comm _ _, rfl, rfl⟩
  · rintro m ⟨L, st, μ'⟩ ⟨x, y, hQ, hg, hL, hx⟩
    cases hx
    refine fb_332_1 _ _ _ _ _ _ _ _ _ hL ?_
    refine wz_br (od_c0 hQ.2.1) (fun h1 => ?_) (fun h1 => ?_)
    · subst h1
      rw [Nat.gcd_zero_right] at hg
      subst hg
      have hp : Nat.gcd a b ≠ 0 := Nat.ne_of_gt (Nat.gcd_pos_of_pos_right a hb0)
      refine wz_lk0 (wz_sk0 (fc_332_2 (od_l a) (od_l b) (i3 q) (od_l (Nat.gcd a b)) _ _ _ _ rfl ?_))
      refine wz_br (i3NE (rfl : i3 q = i3 q) (show (0 : Int32) = i3 0 from rfl) (by omega) (by omega) (by omega) (by omega)) (fun h2 => ?_) (fun h2 => ?_)
      · refine wz_i0 (od_z hQ.1 hp) ⟨rfl, ?_⟩
        rw [if_neg h2, od_div (by omega) hQ.1]
      · refine wz_i0 (od_z hQ.1 hp) ⟨rfl, ?_⟩
        rw [if_pos (by omega), od_div (by omega) hQ.1]
    · refine wz_i0 (od_z hQ.2.1 h1) ?_
      cases m with
      | zero => exact absurd (od_Q0 hQ) h1
      | succ j =>
        refine wz_k1 ⟨j, by omega, y, x % y, od_Qs hQ h1, ?_, ?_, rfl⟩
        · rw [← hg, Nat.gcd_comm y, ← Nat.gcd_rec, Nat.gcd_comm]
        · rw [od_mod hQ.1 hQ.2.1]
          rfl
  · rw [if_pos (by decide)]
    exact ha
/-! plan -/
def od_a (c g s p : Nat) : Bool := decide (lg_cmp ((10 : Int64) * od_l (od_W c g s (min p s + 1))) ((9 : Int64) * od_l (od_C c s)) < 0)
def od_b (c r s p : Nat) : Bool := decide (0 < lg_cmp ((10 : Int64) * od_l (od_W c r s (min p s + 1))) (od_l (od_C c s)))
def od_p1 (c g r s : Nat) : Nat → Nat → Option Nat
  | 0, _ => none
  | m + 1, p => bif od_a c g s p then od_p1 c g r s m (p + 1) else bif od_b c r s p then od_p1 c g r s m (p + 1) else some p
def od_s1 (c g r : Nat) : Nat → Nat → Option (Nat × Nat)
  | 0, _ => none
  | m + 1, s => match od_p1 c g r s 10 0 with | some p => some (s, p) | none => od_s1 c g r m (s + 1)
theorem od_sn {k : Nat} : i3 (k : Int) + (1 : Int32) = i3 (((k + 1 : Nat) : Int)) := (i3A rfl (show (1 : Int32) = i3 1 from rfl)).trans (congrArg i3 (by omega))
def od_r1 (o : Option (Nat × Nat)) : Int := match o with | none => -1 | some q => 10 * (q.1 : Int) + q.2
def od_r2 (o : Option (Nat × Nat)) (w : Int) : Int := match o with | none => -1 | some q => if w = 0 then (q.1 : Int) else q.2
theorem od_101 {c g r : Nat} (hc : c ≤ 40) (hg : g ≤ c) (hr : r ≤ c) {x0 x1 x2 : Int32} (h0 : x0 = i3 c) (h1 : x1 = i3 g) (h2 : x2 = i3 r) (μ : qz_M) : qf_101 [.inl x0, .inl x1, .inl x2] μ = some (μ, .inl (some (.inl (i3 (od_r1 (od_s1 c g r (min 20 c) 1)))))) := by
  subst h0 h1 h2
  refine wz_call_eq (fw_101 _ _ _ μ _ ?_)
  generalize hQ : od_s1 c g r (min 20 c) 1 = Q
  refine wz_lp sb_101_3 (fun m x => ∃ s : Nat, s + m = min 20 c + 1 ∧ 1 ≤ s ∧ od_s1 c g r m s = Q ∧ qz_fg [true, true, true, true, false, false, false] x.1 = [some (.inl (i3 c)), some (.inl (i3 g)), some (.inl (i3 r)), some (.inl (i3 (s : Int))), none, none, none] ∧ x.2 = ([], μ)) ?_ 65536 (min 20 c) _ (by omega) ⟨1, by omega, by omega, hQ, rfl, rfl⟩
  rintro m ⟨L, st, μ'⟩ ⟨s, hm, hs1, hs, hL, hx⟩
  cases hx
  refine fb_101_3 _ _ _ _ _ _ _ _ hL ?_
  cases m with
  | zero =>
    have e0 : Q = none := hs.symm
    subst e0
    refine wz_br (i3L (show (20 : Int32) = i3 20 from rfl) (rfl : i3 (s : Int) = i3 (s : Int)) (by omega) (by omega) (by omega) (by omega)) (fun h1 => ?_) (fun h1 => ?_)
    · exact wz_lk0 (wz_sk0 (fc_101_4 _ _ _ _ rfl ⟨rfl, rfl⟩))
    refine wz_i1 (Eq.trans (i3L (rfl : i3 c = i3 c) (rfl : i3 (s : Int) = i3 (s : Int)) (by omega) (by omega) (by omega) (by omega)) (decide_eq_true (by omega))) ?_
    exact wz_lk0 (wz_sk0 (fc_101_4 _ _ _ _ rfl ⟨rfl, rfl⟩))
  | succ m =>
    refine wz_i0 (Eq.trans (i3L (show (20 : Int32) = i3 20 from rfl) (rfl : i3 (s : Int) = i3 (s : Int)) (by omega) (by omega) (by omega) (by omega)) (decide_eq_false (by omega))) ?_
    refine wz_i0 (Eq.trans (i3L (rfl : i3 c = i3 c) (rfl : i3 (s : Int) = i3 (s : Int)) (by omega) (by omega) (by omega) (by omega)) (decide_eq_false (by omega))) ?_
    refine wz_cJ_of (od_91 (n := c) (d := s) (by omega) (by omega) rfl rfl μ) ?_
    refine wz_lp sb_101_1 (fun m1 x => ∃ p : Nat, p + m1 = 10 ∧ (match od_p1 c g r s m1 p with | some p => some (s, p) | none => od_s1 c g r m (s + 1)) = Q ∧ qz_fg [true, true, true, true, true, false, true] x.1 = [some (.inl (i3 c)), some (.inl (i3 g)), some (.inl (i3 r)), some (.inl (i3 (s : Int))), some (.inr (.inl (od_l (od_C c s)))), none, some (.inl (i3 (p : Int)))] ∧ x.2 = ([], μ)) ?_ 65536 10 _ (by omega) ⟨0, by omega, hs, rfl, rfl⟩
    rintro m1 ⟨L, st, μ'⟩ ⟨p, hp, hs2, hL, hx⟩
    cases hx
    refine fb_101_1 _ _ _ _ _ _ _ _ _ _ hL ?_
    cases m1 with
    | zero =>
      refine wz_i1 (Eq.trans (i3L (show (9 : Int32) = i3 9 from rfl) (rfl : i3 (p : Int) = i3 (p : Int)) (by omega) (by omega) (by omega) (by omega)) (decide_eq_true (by omega))) ?_
      refine wz_lk0 (wz_sk0 (fc_101_2 (i3 c) (i3 g) (i3 r) (i3 (s : Int)) _ _ _ _ rfl ?_))
      refine wz_kbs (wz_k1 ⟨m, by omega, s + 1, by omega, by omega, hs2, ?_, rfl⟩)
      rw [od_sn]
      rfl
    | succ m1 =>
      refine wz_i0 (Eq.trans (i3L (show (9 : Int32) = i3 9 from rfl) (rfl : i3 (p : Int) = i3 (p : Int)) (by omega) (by omega) (by omega) (by omega)) (decide_eq_false (by omega))) ?_
      refine wz_cJ_of (od_110 hc hg (s := s) (p := p) (by omega) (by omega) rfl rfl rfl rfl μ) ?_
      unfold od_p1 at hs2
      refine wz_if (fun ha => ?_) (fun ha => ?_)
      · rw [show od_a c g s p = true from ha] at hs2
        refine wz_k1 ⟨m1, by omega, p + 1, by omega, hs2, ?_, rfl⟩
        rw [od_sn]
        rfl
      rw [show od_a c g s p = false from ha] at hs2
      refine wz_cJ_of (od_110 hc hr (s := s) (p := p) (by omega) (by omega) rfl rfl rfl rfl μ) ?_
      refine wz_if (fun hb => ?_) (fun hb => ?_)
      · rw [show od_b c r s p = true from hb] at hs2
        refine wz_k1 ⟨m1, by omega, p + 1, by omega, hs2, ?_, rfl⟩
        rw [od_sn]
        rfl
      rw [show od_b c r s p = false from hb] at hs2
      have e0 : some (s, p) = Q := hs2
      subst e0
      exact ⟨rfl, congrArg (fun v => Sum.inl (some (Sum.inl v))) (i3A (i3M (show (10 : Int32) = i3 10 from rfl) (rfl : i3 (s : Int) = i3 (s : Int))) (rfl : i3 (p : Int) = i3 (p : Int)))⟩
theorem od_r1r (c g r : Nat) : ∀ m s, s + m ≤ 21 → od_r1 (od_s1 c g r m s) = -1 ∧ od_s1 c g r m s = none ∨ ∃ s1 p1, od_s1 c g r m s = some (s1, p1) ∧ 1 * s ≤ s1 ∧ s1 ≤ 20 ∧ p1 ≤ 9
  | 0, s, _ => .inl ⟨rfl, rfl⟩
  | m + 1, s, h => by
    have key : ∀ m p, p + m ≤ 10 → od_p1 c g r s m p = none ∨ ∃ p1, od_p1 c g r s m p = some p1 ∧ p1 ≤ 9 := by
      intro m
      induction m with
      | zero => intro p _; exact .inl rfl
      | succ m ih =>
        intro p hp
        unfold od_p1
        cases od_a c g s p
        · cases od_b c r s p
          · exact .inr ⟨p, rfl, by omega⟩
          · exact ih (p + 1) (by omega)
        · exact ih (p + 1) (by omega)
    unfold od_s1
    rcases key 10 0 (by omega) with e | ⟨p1, e, hp⟩
    · rw [e]
      rcases od_r1r c g r m (s + 1) (by omega) with q | ⟨s1, p1, q1, q2, q3⟩
      · exact .inl q
      · exact .inr ⟨s1, p1, q1, by omega, q3⟩
    · rw [e]
      exact .inr ⟨s, p1, rfl, by omega, by omega, hp⟩
def od_pl (a1 a2 a3 a4 : Int) : Int := od_r2 (od_s1 a1.toNat a2.toNat a3.toNat (min 20 a1.toNat) 1) a4
def zg_229 (a1 a2 a3 a4 : Int) : Int × Int := if (1 ≤ a1 ∧ a1 ≤ 40) ∧ (0 ≤ a2 ∧ a2 ≤ a1) ∧ (0 ≤ a3 ∧ a3 ≤ a1) ∧ (0 ≤ a4 ∧ a4 ≤ 1) ∧ (a2 + 1 ≤ a3) then (od_pl a1 a2 a3 a4, 0) else (0, 13)
def zg_452 (a1 a2 a3 a4 : Int) : Int × Int := if (1 ≤ a1 ∧ a1 ≤ 40) ∧ (0 ≤ a2 ∧ a2 ≤ a1) ∧ (0 ≤ a3 ∧ a3 ≤ a1) ∧ (0 ≤ a4 ∧ a4 ≤ 1) ∧ (a2 + 1 ≤ a3) then (od_pl a1 a2 a3 a4, 0) else (0, 1)
theorem sg_229 {Z : qz_Z} {ν : qz_N} (hZ : zI none Z) (hF : zF Z) {a1 : Int} (g1 : -2147483648 ≤ a1 ∧ a1 ≤ 2147483647) {a2 : Int} (g2 : -2147483648 ≤ a2 ∧ a2 ≤ 2147483647) {a3 : Int} (g3 : -2147483648 ≤ a3 ∧ a3 ≤ 2147483647) {a4 : Int} (g4 : -2147483648 ≤ a4 ∧ a4 ≤ 2147483647) : ∃ (Z1 : qz_Z) (ν1 : qz_N) (v E : Int), (v, E) = zg_229 a1 a2 a3 a4 ∧ qf_229 [.inr (.inr (some (0, 0, 0))), .inl (i3 a1), .inl (i3 a2), .inl (i3 a3), .inl (i3 a4)] (zm Z ν) = some (zm Z1 ν1, zoX v E) ∧ (fun Z1 ν1 => zI none Z1 ∧ zK [] Z Z1 ∧ zN ν ν1) Z1 ν1 := by
  obtain ⟨P, hP⟩ := zx (zg_229 a1 a2 a3 a4)
  refine zc_X (Q := fun Z1 ν1 => zI none Z1 ∧ zK [] Z Z1 ∧ zN ν ν1) hP (fw_229 (i3 a1) (i3 a2) (i3 a3) (i3 a4) _ _ ?_)
  unfold zg_229 at hP
  have hn : ¬ ((1 ≤ a1 ∧ a1 ≤ 40) ∧ (0 ≤ a2 ∧ a2 ≤ a1) ∧ (0 ≤ a3 ∧ a3 ≤ a1) ∧ (0 ≤ a4 ∧ a4 ≤ 1) ∧ (a2 + 1 ≤ a3)) → zpX (fun Z1 ν1 => zI none Z1 ∧ zK [] Z Z1 ∧ zN ν ν1) P (qz_kk (zm Z ν) 1 6) (.inr 13) := fun h => zlXe (E := 12) (show zE P (0, 13) from (hP.trans (if_neg h))) ⟨hZ, zK_r, zN_k rfl⟩
  refine wz_inR (rfl : i3 a1 = i3 a1) (show (1 : Int32) = i3 1 from rfl) (show (40 : Int32) = i3 40 from rfl) (by omega) (by omega) (by omega) (by omega) (by omega) (by omega) (fun h1 => ?_) (fun h1 => hn (by omega))
  refine wz_inR (rfl : i3 a2 = i3 a2) (show (0 : Int32) = i3 0 from rfl) (rfl : i3 a1 = i3 a1) (by omega) (by omega) (by omega) (by omega) (by omega) (by omega) (fun h2 => ?_) (fun h2 => hn (by omega))
  refine wz_inR (rfl : i3 a3 = i3 a3) (show (0 : Int32) = i3 0 from rfl) (rfl : i3 a1 = i3 a1) (by omega) (by omega) (by omega) (by omega) (by omega) (by omega) (fun h3 => ?_) (fun h3 => hn (by omega))
  refine wz_inR (rfl : i3 a4 = i3 a4) (show (0 : Int32) = i3 0 from rfl) (show (1 : Int32) = i3 1 from rfl) (by omega) (by omega) (by omega) (by omega) (by omega) (by omega) (fun h4 => ?_) (fun h4 => hn (by omega))
  refine wz_inR (rfl : i3 a3 = i3 a3) (i3A (rfl : i3 a2 = i3 a2) (show (1 : Int32) = i3 1 from rfl)) (rfl : i3 a1 = i3 a1) (by omega) (by omega) (by omega) (by omega) (by omega) (by omega) (fun h5 => ?_) (fun h5 => hn (by omega))
  rw [if_pos ⟨h1, h2, h3, h4, by omega⟩] at hP
  have q := od_101 (c := a1.toNat) (g := a2.toNat) (r := a3.toNat) (by omega) (by omega) (by omega) (congrArg i3 (by omega)) (congrArg i3 (by omega)) (congrArg i3 (by omega)) (zm Z ν) (x0 := i3 a1) (x1 := i3 a2) (x2 := i3 a3)
  have r := od_r1r a1.toNat a2.toNat a3.toNat (min 20 a1.toNat) 1 (by omega)
  unfold od_pl at hP
  revert q r hP
  generalize od_s1 a1.toNat a2.toNat a3.toNat (min 20 a1.toNat) 1 = o
  intro hP q r
  refine wz_cI_of q ?_
  rcases r with ⟨r1, r2⟩ | ⟨s1, p1, r1, r2, r3, r4⟩
  · subst r2
    refine wz_i0 (by decide) ?_
    exact zlX (show zE P (-1, 0) from hP) (show (-1 : Int32) = i3 (-1) from rfl) ⟨hZ, zK_r, zN_r⟩
  · subst r1
    have e : od_r1 (some (s1, p1)) = 10 * (s1 : Int) + p1 := rfl
    rw [e]
    refine wz_i1 (Eq.trans (i3NE (rfl : i3 (10 * (s1 : Int) + p1) = _) (show (-1 : Int32) = i3 (-1) from rfl) (by omega) (by omega) (by omega) (by omega)) (decide_eq_true (by omega))) ?_
    refine wz_br (i3NE (rfl : i3 a4 = i3 a4) (show (0 : Int32) = i3 0 from rfl) (by omega) (by omega) (by omega) (by omega)) (fun h6 => ?_) (fun h6 => ?_)
    · refine zlX (e := (p1 : Int)) (show P = _ from hP.trans ?_) (i3C (i3R (rfl : i3 (10 * (s1 : Int) + p1) = _) (show (10 : Int32) = i3 10 from rfl) (by omega) (by omega) (by omega) (by omega)) (by omega)) ⟨hZ, zK_r, zN_r⟩
      show ((if a4 = 0 then (s1 : Int) else p1), (0 : Int)) = _
      rw [if_neg h6]
    · refine zlX (e := (s1 : Int)) (show P = _ from hP.trans ?_) (i3C (i3D (rfl : i3 (10 * (s1 : Int) + p1) = _) (show (10 : Int32) = i3 10 from rfl) (by omega) (by omega) (by omega) (by omega)) (by omega)) ⟨hZ, zK_r, zN_r⟩
      show ((if a4 = 0 then (s1 : Int) else p1), (0 : Int)) = _
      rw [if_pos (by omega)]
theorem od_452 {c g r : Nat} {w : Int} (hw : 0 ≤ w ∧ w ≤ 1) (hc : c ≤ 40) (hg : g ≤ c) (hr : r ≤ c) (μ : qz_M) {R : wz_R} (hR : R μ (.inl (some (.inl (i3 (od_r2 (od_s1 c g r (min 20 c) 1) w)))))) : wz_loop qb_452_3 65536 (wz_sk gc_452_4 wz_k0 R) R ([some (.inr (.inr (some (1, 0, 0)))), some (.inl (i3 c)), some (.inl (i3 g)), some (.inl (i3 r)), some (.inl (i3 w)), some (.inl (1 : Int32)), some (.inl (1 : Int32)), none, none, none], [], μ) := by
  revert hR
  generalize hQ : od_s1 c g r (min 20 c) 1 = Q
  intro hR
  refine wz_lp sb_452_3 (fun m x => ∃ s : Nat, s + m = min 20 c + 1 ∧ 1 ≤ s ∧ od_s1 c g r m s = Q ∧ qz_fg [false, true, true, true, true, false, true, false, false, false] x.1 = [none, some (.inl (i3 c)), some (.inl (i3 g)), some (.inl (i3 r)), some (.inl (i3 w)), none, some (.inl (i3 (s : Int))), none, none, none] ∧ x.2 = ([], μ)) ?_ 65536 (min 20 c) _ (by omega) ⟨1, by omega, by omega, hQ, rfl, rfl⟩
  rintro m ⟨L, st, μ'⟩ ⟨s, hm, hs1, hs, hL, hx⟩
  cases hx
  refine fb_452_3 _ _ _ _ _ _ _ _ _ hL ?_
  cases m with
  | zero =>
    have e0 : Q = none := hs.symm
    subst e0
    refine wz_br (i3L (rfl : i3 c = i3 c) (rfl : i3 (s : Int) = i3 (s : Int)) (by omega) (by omega) (by omega) (by omega)) (fun h1 => ?_) (fun h1 => ?_)
    · exact wz_lk0 (wz_sk0 (fc_452_4 _ _ _ _ rfl hR))
    refine wz_i1 (Eq.trans (i3L (show (20 : Int32) = i3 20 from rfl) (rfl : i3 (s : Int) = i3 (s : Int)) (by omega) (by omega) (by omega) (by omega)) (decide_eq_true (by omega))) ?_
    exact wz_lk0 (wz_sk0 (fc_452_4 _ _ _ _ rfl hR))
  | succ m =>
    refine wz_i0 (Eq.trans (i3L (rfl : i3 c = i3 c) (rfl : i3 (s : Int) = i3 (s : Int)) (by omega) (by omega) (by omega) (by omega)) (decide_eq_false (by omega))) ?_
    refine wz_i0 (Eq.trans (i3L (show (20 : Int32) = i3 20 from rfl) (rfl : i3 (s : Int) = i3 (s : Int)) (by omega) (by omega) (by omega) (by omega)) (decide_eq_false (by omega))) ?_
    refine wz_cJ_of (od_319 (n := c) (d := s) (by omega) (by omega) rfl rfl μ) ?_
    refine wz_lp sb_452_1 (fun m1 x => ∃ p : Nat, p + m1 = 10 ∧ (match od_p1 c g r s m1 p with | some p => some (s, p) | none => od_s1 c g r m (s + 1)) = Q ∧ qz_fg [false, true, true, true, true, false, true, true, false, true] x.1 = [none, some (.inl (i3 c)), some (.inl (i3 g)), some (.inl (i3 r)), some (.inl (i3 w)), none, some (.inl (i3 (s : Int))), some (.inr (.inl (od_l (od_C c s)))), none, some (.inl (i3 (p : Int)))] ∧ x.2 = ([], μ)) ?_ 65536 10 _ (by omega) ⟨0, by omega, hs, rfl, rfl⟩
    rintro m1 ⟨L, st, μ'⟩ ⟨p, hp, hs2, hL, hx⟩
    cases hx
    refine fb_452_1 _ _ _ _ _ _ _ _ _ _ _ hL ?_
    cases m1 with
    | zero =>
      refine wz_i1 (Eq.trans (i3Le (show (10 : Int32) = i3 10 from rfl) (rfl : i3 (p : Int) = i3 (p : Int)) (by omega) (by omega) (by omega) (by omega)) (decide_eq_true (by omega))) ?_
      refine wz_lk0 (wz_sk0 (fc_452_2 (i3 c) (i3 g) (i3 r) (i3 w) (i3 (s : Int)) _ _ _ _ rfl ?_))
      refine wz_kbs (wz_k1 ⟨m, by omega, s + 1, by omega, by omega, hs2, ?_, rfl⟩)
      rw [od_sn]
      rfl
    | succ m1 =>
      refine wz_i0 (Eq.trans (i3Le (show (10 : Int32) = i3 10 from rfl) (rfl : i3 (p : Int) = i3 (p : Int)) (by omega) (by omega) (by omega) (by omega)) (decide_eq_false (by omega))) ?_
      refine wz_cJ_of (od_333 hc hg (s := s) (p := p) (by omega) (by omega) rfl rfl rfl rfl μ) ?_
      unfold od_p1 at hs2
      refine wz_if (fun ha => ?_) (fun ha => ?_)
      · rw [show od_a c g s p = true from ha] at hs2
        refine wz_k1 ⟨m1, by omega, p + 1, by omega, hs2, ?_, rfl⟩
        rw [od_sn]
        rfl
      rw [show od_a c g s p = false from ha] at hs2
      refine wz_cJ_of (od_333 hc hr (s := s) (p := p) (by omega) (by omega) rfl rfl rfl rfl μ) ?_
      refine wz_if (fun hb => ?_) (fun hb => ?_)
      · rw [show od_b c r s p = true from hb] at hs2
        refine wz_k1 ⟨m1, by omega, p + 1, by omega, hs2, ?_, rfl⟩
        rw [od_sn]
        rfl
      rw [show od_b c r s p = false from hb] at hs2
      have e0 : some (s, p) = Q := hs2
      subst e0
      have e1 : od_r2 (some (s, p)) w = if w = 0 then (s : Int) else p := rfl
      rw [e1] at hR
      refine wz_br (i3NE (rfl : i3 w = i3 w) (show (0 : Int32) = i3 0 from rfl) (by omega) (by omega) (by omega) (by omega)) (fun h6 => ?_) (fun h6 => ?_)
      · rw [if_neg h6] at hR
        exact hR
      · rw [if_pos (by omega)] at hR
        exact hR
theorem od_fail {Z : qz_Z} {ν : qz_N} {P : Int × Int} (hZ : zI none Z) (hP : P = (0, 1)) : wz_wr (qz_wI (zm Z ν) (1, 0, 0) 2 (1 : Int32)) (fun μ9 => zpM (fun Z1 ν1 => zI none Z1 ∧ zK [1] Z Z1 ∧ zN ν ν1) P μ9 (.inl (some (.inl (0 : Int32))))) := by
  obtain ⟨Z2, hZ2⟩ := zx (zu Z 1 0 0 2 1)
  have hZ2I := zI_u hZ hZ2 (lo := -2147483648) (hi := 2147483647) (by decide) rfl (by omega) ⟨by decide, by decide⟩ (Or.inr (by decide))
  intro μ9 e9
  replace e9 := e9.trans (zm_wI (Z := Z) (ν := ν) hZ2 (show ((0 : Nat) : Int) = 0 from rfl) (show ((0 : Nat) : Int) = 0 from rfl) (show ((2 : Nat) : Int) = 2 from rfl) (show (1 : Int32) = i3 1 from rfl))
  subst e9
  exact zlM (show zE P (0, 1) from hP) (show (0 : Int32) = i3 0 from rfl) (zu_at hZ2) ⟨hZ2I, zK_u zK_r hZ2 (by decide), zN_r⟩
theorem sg_452 {Z : qz_Z} {ν : qz_N} (hZ : zI none Z) (hF : zFm Z) {a1 : Int} (g1 : -2147483648 ≤ a1 ∧ a1 ≤ 2147483647) {a2 : Int} (g2 : -2147483648 ≤ a2 ∧ a2 ≤ 2147483647) {a3 : Int} (g3 : -2147483648 ≤ a3 ∧ a3 ≤ 2147483647) {a4 : Int} (g4 : -2147483648 ≤ a4 ∧ a4 ≤ 2147483647) : ∃ (Z1 : qz_Z) (ν1 : qz_N) (v t : Int), (v, t) = zg_452 a1 a2 a3 a4 ∧ qf_452 [.inr (.inr (some (1, 0, 0))), .inl (i3 a1), .inl (i3 a2), .inl (i3 a3), .inl (i3 a4)] (zm Z ν) = some (zm Z1 ν1, .inl (some (.inl (i3 v)))) ∧ Z1 1 0 0 2 = t ∧ (fun Z1 ν1 => zI none Z1 ∧ zK [1] Z Z1 ∧ zN ν ν1) Z1 ν1 := by
  obtain ⟨P, hP⟩ := zx (zg_452 a1 a2 a3 a4)
  refine zc_M (Q := fun Z1 ν1 => zI none Z1 ∧ zK [1] Z Z1 ∧ zN ν ν1) hP (fw_452 (i3 a1) (i3 a2) (i3 a3) (i3 a4) _ _ ?_)
  unfold zg_452 at hP
  have hn : ¬ ((1 ≤ a1 ∧ a1 ≤ 40) ∧ (0 ≤ a2 ∧ a2 ≤ a1) ∧ (0 ≤ a3 ∧ a3 ≤ a1) ∧ (0 ≤ a4 ∧ a4 ≤ 1) ∧ (a2 + 1 ≤ a3)) → wz_wr (qz_wI (zm Z ν) (1, 0, 0) 2 (1 : Int32)) (fun μ9 => zpM (fun Z1 ν1 => zI none Z1 ∧ zK [1] Z Z1 ∧ zN ν ν1) P μ9 (.inl (some (.inl (0 : Int32))))) := fun h => od_fail hZ (hP.trans (if_neg h))
  have c0 : (0 : Int32) = i3 0 := rfl
  have c1 : (1 : Int32) = i3 1 := rfl
  have c40 : (40 : Int32) = i3 40 := rfl
  refine wz_br (i3L (rfl : i3 a1 = i3 a1) c1 (by omega) (by omega) (by omega) (by omega)) (fun h1 => hn (by omega)) (fun h1 => ?_)
  refine wz_br (i3L c40 (rfl : i3 a1 = i3 a1) (by omega) (by omega) (by omega) (by omega)) (fun h2 => hn (by omega)) (fun h2 => ?_)
  refine wz_br (i3L (rfl : i3 a2 = i3 a2) c0 (by omega) (by omega) (by omega) (by omega)) (fun h3 => hn (by omega)) (fun h3 => ?_)
  refine wz_br (i3L (rfl : i3 a1 = i3 a1) (rfl : i3 a2 = i3 a2) (by omega) (by omega) (by omega) (by omega)) (fun h4 => hn (by omega)) (fun h4 => ?_)
  refine wz_br (i3L (rfl : i3 a3 = i3 a3) c0 (by omega) (by omega) (by omega) (by omega)) (fun h5 => hn (by omega)) (fun h5 => ?_)
  refine wz_br (i3L (rfl : i3 a1 = i3 a1) (rfl : i3 a3 = i3 a3) (by omega) (by omega) (by omega) (by omega)) (fun h6 => hn (by omega)) (fun h6 => ?_)
  refine wz_br (i3L (rfl : i3 a4 = i3 a4) c0 (by omega) (by omega) (by omega) (by omega)) (fun h7 => hn (by omega)) (fun h7 => ?_)
  refine wz_br (i3L c1 (rfl : i3 a4 = i3 a4) (by omega) (by omega) (by omega) (by omega)) (fun h8 => hn (by omega)) (fun h8 => ?_)
  refine wz_br (i3Le (rfl : i3 a3 = i3 a3) (rfl : i3 a2 = i3 a2) (by omega) (by omega) (by omega) (by omega)) (fun h9 => hn (by omega)) (fun h9 => ?_)
  rw [if_pos (by omega)] at hP
  obtain ⟨Z2, hZ2⟩ := zx (zu Z 1 0 0 2 0)
  have hZ2I := zI_0 hZ hZ2 (by decide) (Or.inr (by decide))
  intro μ9 e9
  replace e9 := e9.trans (zm_wI (Z := Z) (ν := ν) hZ2 (show ((0 : Nat) : Int) = 0 from rfl) (show ((0 : Nat) : Int) = 0 from rfl) (show ((2 : Nat) : Int) = 2 from rfl) (show (0 : Int32) = i3 0 from rfl))
  subst e9
  have e1 : a1 = ((a1.toNat : Nat) : Int) := by omega
  have e2 : a2 = ((a2.toNat : Nat) : Int) := by omega
  have e3 : a3 = ((a3.toNat : Nat) : Int) := by omega
  rw [congrArg i3 e1, congrArg i3 e2, congrArg i3 e3]
  exact od_452 (c := a1.toNat) (g := a2.toNat) (r := a3.toNat) (by omega) (by omega) (by omega) (by omega) (zm Z2 ν) (zlM (show zE P _ from hP) rfl (zu_at hZ2) ⟨hZ2I, zK_u zK_r hZ2 (by decide), zN_r⟩)
theorem cm_plan {a1 : Int} (g1 : -2147483648 ≤ a1 ∧ a1 ≤ 2147483647) {a2 : Int} (g2 : -2147483648 ≤ a2 ∧ a2 ≤ 2147483647) {a3 : Int} (g3 : -2147483648 ≤ a3 ∧ a3 ≤ 2147483647) {a4 : Int} (g4 : -2147483648 ≤ a4 ∧ a4 ≤ 2147483647) {v E w t : Int} (h1 : (v, E) = zg_229 a1 a2 a3 a4) (h2 : (w, t) = zg_452 a1 a2 a3 a4) : t = (if E = 13 then 1 else 0) ∧ (E = 0 → v = w) ∧ (E = 0 ∨ E = 13) := by
  unfold zg_229 at h1
  unfold zg_452 at h2
  split at h1
  · rename_i h
    rw [if_pos h] at h2
    cases h1; cases h2
    exact ⟨rfl, fun _ => rfl, .inl rfl⟩
  · rename_i h
    rw [if_neg h] at h2
    cases h1; cases h2
    exact ⟨rfl, fun q => absurd q (by decide), .inr rfl⟩
/- plan -/
theorem lw_plan {Z : qz_Z} {ν : qz_N} (h : zNew Z ν) {a1 : Int} (g1 : -2147483648 ≤ a1 ∧ a1 ≤ 2147483647) {a2 : Int} (g2 : -2147483648 ≤ a2 ∧ a2 ≤ 2147483647) {a3 : Int} (g3 : -2147483648 ≤ a3 ∧ a3 ≤ 2147483647) {a4 : Int} (g4 : -2147483648 ≤ a4 ∧ a4 ≤ 2147483647) : ∃ (Z2 : qz_Z) (ν2 : qz_N) (v E : Int), (v, E) = zg_229 a1 a2 a3 a4 ∧ qf_608 [.inr (.inr (some (0, 0, 0))), .inl (i3 a1), .inl (i3 a2), .inl (i3 a3), .inl (i3 a4), .inr (.inr (some (71, 0, 0)))] (zm Z ν) = some (zm Z2 ν2, .inl (some (.inl (i3 (tcL [(13, 1)] E))))) ∧ zW Z ν v E Z2 ν2 := by
  refine wrap_ok (hs := [(13, 1)]) (WS := []) h.2.2.1 h.2.2.2.1 h.2.2.2.2 (zF_m h.2.1) (fun R hR => fv_608 (i3 a1) (i3 a2) (i3 a3) (i3 a4) _ R hR) (sg_229 h.1 h.2.1 g1 g2 g3 g4) (fun v E he => ?_) (by decide) (by decide)
  obtain ⟨-, -, c3⟩ := cm_plan g1 g2 g3 g4 he (w := (zg_452 a1 a2 a3 a4).1) (t := (zg_452 a1 a2 a3 a4).2) rfl
  rcases c3 with c3 | c3
  · exact .inl c3
  · exact .inr ⟨(13, 1), by decide, c3⟩
theorem lc_5 {Z : qz_Z} {ν : qz_N} (h : zNew Z ν) {k : wz_K} {R : wz_R} (hk : ∀ Z3 ν3 v2 v4, zEnd ν3 → k 59 ([some (.inr (.inr (some (200, 0, 0)))), some (.inr (.inr (some (0, 0, 0)))), some (.inr (.inr (some (1, 0, 0)))), some (.inr (.inr (some (71, 0, 0)))), some (.inl (0 : Int32)), some (.inl v2), some (.inl v4), none], [], zm Z3 ν3)) : gx_5 k R (gx_L 0, [], zm Z ν) := by
  refine fk_5 0 (zm Z ν) k R ?_
  have st := zNew_S h
  refine wz_i1 (zS_t st) (wz_i0 (zS_o st (by decide)) ?_)
  refine wz_i1 (zS_t st) (wz_i0 (zS_o st (by decide)) ?_)
  refine wz_i1 (zS_t st) (wz_i0 (zS_o st (by decide)) ?_)
  refine wz_i1 (zS_t st) (wz_i0 (zS_o st (by decide)) ?_)
  have g1 := zI_f h.1 200 0 0 1
  have g2 := zI_f h.1 200 0 0 2
  have g3 := zI_f h.1 200 0 0 3
  have g4 := zI_f h.1 200 0 0 4
  obtain ⟨Z2, ν2, v, E, hP, hq, hE0, st2, hs2⟩ := lw_plan h g1 g2 g3 g4
  refine wz_cI_of hq ?_
  refine wz_i1 (zS_t st2) (wz_i0 (zS_o st2 (by decide)) ?_)
  refine wz_i1 (zS_t st2) (wz_i0 (zS_o st2 (by decide)) ?_)
  refine wz_i1 (zS_t st2) (wz_i0 (zS_o st2 (by decide)) ?_)
  refine wz_i1 (zS_t st2) (wz_i0 (zS_o st2 (by decide)) ?_)
  have f1 := zI_f st2.1 200 0 0 1
  have f2 := zI_f st2.1 200 0 0 2
  have f3 := zI_f st2.1 200 0 0 3
  have f4 := zI_f st2.1 200 0 0 4
  obtain ⟨Z3, ν3, w, t, hP2, hq2, ht, hI3, hK3, hN3⟩ := sg_452 st2.1 st2.2.1 f1 f2 f3 f4
  refine wz_cI_of hq2 ?_
  rw [hs2 1, hs2 2, hs2 3, hs2 4] at hP2
  obtain ⟨c1, c2, c3⟩ := cm_plan g1 g2 g3 g4 hP hP2
  have hend : zEnd ν3 := ⟨⟨(hN3.2.2.1 0 (by have := st2.2.2.1.2; omega)).trans st2.2.2.1.1, by have := st2.2.2.1.2; have := hN3.2.2.2.1; omega⟩, by have := st2.2.2.2.2.1; have := hN3.2.2.2.2.1; omega, by have := st2.2.2.2.2.2; have := hN3.2.2.2.2.2; omega⟩
  refine wz_i1 (decide_eq_true (show i3 (Z3 1 0 0 2) = i3 (tcL [(13, 1)] E) by rw [ht, c1]; rfl)) ?_
  rcases c3 with rfl | rfl
  · refine wz_i0 (by decide) (wz_i1 (decide_eq_true ?_) (hk _ _ _ _ hend))
    have e1 : qz_lm (zm Z3 ν3) 71 0 0 0 = (i3 v).toInt64 := (hN3.1 71 0 0 0 (by decide)).trans (hE0 rfl)
    rw [e1, c2 rfl]
    exact lg_self _
  · exact wz_i1 (by decide) (hk _ _ _ _ hend)
/-! odds -/
def od_G (c b s p : Nat) (w : Int) : Int64 := if w = 0 then od_l (od_W c b s (min p s + 1) / Nat.gcd (od_W c b s (min p s + 1)) (od_C c s)) else od_l (od_C c s / Nat.gcd (od_W c b s (min p s + 1)) (od_C c s))
theorem od_cap {c b s p : Nat} (hc : c ≤ 40) (hb : b ≤ c) (hs1 : 1 ≤ s) (hs : s ≤ c) (hs2 : s ≤ 20) (hp : p ≤ 9) : od_W c b s (min p s + 1) < 2199023255552 ∧ od_C c s < 2199023255552 ∧ 0 < od_C c s := by
  have h1 := od_Wb hc hb (s := s) (by omega) (min p s + 1) (by omega)
  have h2 := (od_M hc).2 s (by omega)
  have h3 : (min p s + 1) * 137846528820 ≤ 10 * 137846528820 := Nat.mul_le_mul_right _ (by omega)
  refine ⟨by omega, by omega, ?_⟩
  have h4 : od_C c s ≠ 0 := fun q => by have := h2.2.mpr q; omega
  omega
theorem od_219 {Z : qz_Z} {ν : qz_N} {a1 : Int} (g1 : -2147483648 ≤ a1 ∧ a1 ≤ 2147483647) {a2 : Int} (g2 : -2147483648 ≤ a2 ∧ a2 ≤ 2147483647) {a3 : Int} (g3 : -2147483648 ≤ a3 ∧ a3 ≤ 2147483647) {a4 : Int} (g4 : -2147483648 ≤ a4 ∧ a4 ≤ 2147483647) {a5 : Int} (g5 : -2147483648 ≤ a5 ∧ a5 ≤ 2147483647) : qf_219 [.inr (.inr (some (0, 0, 0))), .inl (i3 a1), .inl (i3 a2), .inl (i3 a3), .inl (i3 a4), .inl (i3 a5)] (zm Z ν) = if (1 ≤ a1 ∧ a1 ≤ 40) ∧ (0 ≤ a2 ∧ a2 ≤ a1) ∧ (1 ≤ a3 ∧ a3 ≤ a1 ∧ a3 ≤ 20) ∧ (0 ≤ a4 ∧ a4 ≤ 9) ∧ (0 ≤ a5 ∧ a5 ≤ 1) then some (zm Z ν, .inl (some (.inr (.inl (od_G a1.toNat a2.toNat a3.toNat a4.toNat a5))))) else some (qz_kk (zm Z ν) 1 6, .inr 13) := by
  by_cases h : (1 ≤ a1 ∧ a1 ≤ 40) ∧ (0 ≤ a2 ∧ a2 ≤ a1) ∧ (1 ≤ a3 ∧ a3 ≤ a1 ∧ a3 ≤ 20) ∧ (0 ≤ a4 ∧ a4 ≤ 9) ∧ (0 ≤ a5 ∧ a5 ≤ 1)
  · rw [if_pos h]
    obtain ⟨h1, h2, h3, h4, h5⟩ := h
    refine wz_call_eq (fw_219 (i3 a1) (i3 a2) (i3 a3) (i3 a4) (i3 a5) _ _ ?_)
    refine wz_inR_y (rfl : i3 a1 = i3 a1) (show (1 : Int32) = i3 1 from rfl) (show (40 : Int32) = i3 40 from rfl) (by omega) (by omega) (by omega) (by omega) (by omega) (by omega) h1 ?_
    refine wz_inR_y (rfl : i3 a2 = i3 a2) (show (0 : Int32) = i3 0 from rfl) (rfl : i3 a1 = i3 a1) (by omega) (by omega) (by omega) (by omega) (by omega) (by omega) h2 ?_
    refine wz_inR_y (rfl : i3 a3 = i3 a3) (show (1 : Int32) = i3 1 from rfl) (i3Mn (rfl : i3 a1 = i3 a1) (show (20 : Int32) = i3 20 from rfl) (by omega) (by omega) (by omega) (by omega)) (by omega) (by omega) (by omega) (by omega) (by omega) (by omega) (by omega) ?_
    refine wz_inR_y (rfl : i3 a4 = i3 a4) (show (0 : Int32) = i3 0 from rfl) (show (9 : Int32) = i3 9 from rfl) (by omega) (by omega) (by omega) (by omega) (by omega) (by omega) h4 ?_
    refine wz_inR_y (rfl : i3 a5 = i3 a5) (show (0 : Int32) = i3 0 from rfl) (show (1 : Int32) = i3 1 from rfl) (by omega) (by omega) (by omega) (by omega) (by omega) (by omega) h5 ?_
    have cap := od_cap (c := a1.toNat) (b := a2.toNat) (s := a3.toNat) (p := a4.toNat) (by omega) (by omega) (by omega) (by omega) (by omega) (by omega)
    refine wz_cJ_of (od_110 (c := a1.toNat) (b := a2.toNat) (s := a3.toNat) (p := a4.toNat) (by omega) (by omega) (by omega) (by omega) (congrArg i3 (by omega)) (congrArg i3 (by omega)) (congrArg i3 (by omega)) (congrArg i3 (by omega)) _) ?_
    refine wz_cJ_of (od_91 (n := a1.toNat) (d := a3.toNat) (by omega) (by omega) (congrArg i3 (by omega)) (congrArg i3 (by omega)) _) ?_
    refine wz_cJ_of (od_93 cap.1 cap.2.1 cap.2.2 rfl rfl _) ?_
    have hp : Nat.gcd (od_W a1.toNat a2.toNat a3.toNat (min a4.toNat a3.toNat + 1)) (od_C a1.toNat a3.toNat) ≠ 0 := Nat.ne_of_gt (Nat.gcd_pos_of_pos_right _ cap.2.2)
    have hl : Nat.gcd (od_W a1.toNat a2.toNat a3.toNat (min a4.toNat a3.toNat + 1)) (od_C a1.toNat a3.toNat) ≤ od_C a1.toNat a3.toNat := Nat.gcd_le_right _ cap.2.2
    unfold od_G
    revert cap hp hl
    generalize od_W a1.toNat a2.toNat a3.toNat (min a4.toNat a3.toNat + 1) = W
    generalize od_C a1.toNat a3.toNat = C
    intro cap hp hl
    refine wz_br (i3NE (rfl : i3 a5 = i3 a5) (show (0 : Int32) = i3 0 from rfl) (by omega) (by omega) (by omega) (by omega)) (fun h6 => ?_) (fun h6 => ?_)
    · refine wz_i0 (od_z (by omega) hp) ⟨rfl, ?_⟩
      rw [if_neg h6, od_div (by omega) (by omega)]
    · refine wz_i0 (od_z (by omega) hp) ⟨rfl, ?_⟩
      rw [if_pos (by omega), od_div (by omega) (by omega)]
  · rw [if_neg h]
    refine wz_call_eq (fw_219 (i3 a1) (i3 a2) (i3 a3) (i3 a4) (i3 a5) _ _ ?_)
    refine wz_inR (rfl : i3 a1 = i3 a1) (show (1 : Int32) = i3 1 from rfl) (show (40 : Int32) = i3 40 from rfl) (by omega) (by omega) (by omega) (by omega) (by omega) (by omega) (fun h1 => ?_) (fun _ => ⟨rfl, rfl⟩)
    refine wz_inR (rfl : i3 a2 = i3 a2) (show (0 : Int32) = i3 0 from rfl) (rfl : i3 a1 = i3 a1) (by omega) (by omega) (by omega) (by omega) (by omega) (by omega) (fun h2 => ?_) (fun _ => ⟨rfl, rfl⟩)
    refine wz_inR (rfl : i3 a3 = i3 a3) (show (1 : Int32) = i3 1 from rfl) (i3Mn (rfl : i3 a1 = i3 a1) (show (20 : Int32) = i3 20 from rfl) (by omega) (by omega) (by omega) (by omega)) (by omega) (by omega) (by omega) (by omega) (by omega) (by omega) (fun h3 => ?_) (fun _ => ⟨rfl, rfl⟩)
    refine wz_inR (rfl : i3 a4 = i3 a4) (show (0 : Int32) = i3 0 from rfl) (show (9 : Int32) = i3 9 from rfl) (by omega) (by omega) (by omega) (by omega) (by omega) (by omega) (fun h4 => ?_) (fun _ => ⟨rfl, rfl⟩)
    refine wz_inR_n (rfl : i3 a5 = i3 a5) (show (0 : Int32) = i3 0 from rfl) (show (1 : Int32) = i3 1 from rfl) (by omega) (by omega) (by omega) (by omega) (by omega) (by omega) (by omega) ⟨rfl, rfl⟩
theorem od_440 {Z : qz_Z} {ν : qz_N} (hZ : zI none Z) {a1 : Int} (g1 : -2147483648 ≤ a1 ∧ a1 ≤ 2147483647) {a2 : Int} (g2 : -2147483648 ≤ a2 ∧ a2 ≤ 2147483647) {a3 : Int} (g3 : -2147483648 ≤ a3 ∧ a3 ≤ 2147483647) {a4 : Int} (g4 : -2147483648 ≤ a4 ∧ a4 ≤ 2147483647) {a5 : Int} (g5 : -2147483648 ≤ a5 ∧ a5 ≤ 2147483647) : ∃ Z1 v, qf_440 [.inr (.inr (some (1, 0, 0))), .inl (i3 a1), .inl (i3 a2), .inl (i3 a3), .inl (i3 a4), .inl (i3 a5)] (zm Z ν) = some (zm Z1 ν, .inl (some (.inr (.inl v)))) ∧ (((1 ≤ a1 ∧ a1 ≤ 40) ∧ (0 ≤ a2 ∧ a2 ≤ a1) ∧ (1 ≤ a3 ∧ a3 ≤ a1 ∧ a3 ≤ 20) ∧ (0 ≤ a4 ∧ a4 ≤ 9) ∧ (0 ≤ a5 ∧ a5 ≤ 1)) ∧ Z1 1 0 0 2 = 0 ∧ v = od_G a1.toNat a2.toNat a3.toNat a4.toNat a5 ∨ ¬ ((1 ≤ a1 ∧ a1 ≤ 40) ∧ (0 ≤ a2 ∧ a2 ≤ a1) ∧ (1 ≤ a3 ∧ a3 ≤ a1 ∧ a3 ≤ 20) ∧ (0 ≤ a4 ∧ a4 ≤ 9) ∧ (0 ≤ a5 ∧ a5 ≤ 1)) ∧ Z1 1 0 0 2 = 1) := by
  by_cases h : (1 ≤ a1 ∧ a1 ≤ 40) ∧ (0 ≤ a2 ∧ a2 ≤ a1) ∧ (1 ≤ a3 ∧ a3 ≤ a1 ∧ a3 ≤ 20) ∧ (0 ≤ a4 ∧ a4 ≤ 9) ∧ (0 ≤ a5 ∧ a5 ≤ 1)
  · obtain ⟨Z2, hZ2⟩ := zx (zu Z 1 0 0 2 0)
    refine ⟨Z2, od_G a1.toNat a2.toNat a3.toNat a4.toNat a5, ?_, .inl ⟨h, zu_at hZ2, rfl⟩⟩
    obtain ⟨h1, h2, h3, h4, h5⟩ := h
    refine wz_call_eq (fw_440 (i3 a1) (i3 a2) (i3 a3) (i3 a4) (i3 a5) _ _ ?_)
    have c0 : (0 : Int32) = i3 0 := rfl
    have c1 : (1 : Int32) = i3 1 := rfl
    have c9 : (9 : Int32) = i3 9 := rfl
    have c20 : (20 : Int32) = i3 20 := rfl
    have c40 : (40 : Int32) = i3 40 := rfl
    have cap := od_cap (c := a1.toNat) (b := a2.toNat) (s := a3.toNat) (p := a4.toNat) (by omega) (by omega) (by omega) (by omega) (by omega) (by omega)
    have key : ∀ μ9, μ9 = qz_wI (zm Z ν) (1, 0, 0) 2 (0 : Int32) → wz_cJ qf_333 [.inl (i3 a1), .inl (i3 a2), .inl (i3 a3), .inl (i3 a4)] μ9 (fun μ12 v13 => (wz_cJ qf_319 [.inl (i3 a1), .inl (i3 a3)] μ12 (fun μ14 v15 => (wz_cJ qf_332 [.inr (.inl v13), .inr (.inl v15), .inl (i3 a5)] μ14 (fun μ16 v17 => (μ16 = zm Z2 ν ∧ (.inl (some (.inr (.inl v17))) : qz_Oc) = .inl (some (.inr (.inl (od_G a1.toNat a2.toNat a3.toNat a4.toNat a5)))))) (fun μ16 e => (μ16 = zm Z2 ν ∧ (.inr e : qz_Oc) = .inl (some (.inr (.inl (od_G a1.toNat a2.toNat a3.toNat a4.toNat a5)))))))) (fun μ14 e => (μ14 = zm Z2 ν ∧ (.inr e : qz_Oc) = .inl (some (.inr (.inl (od_G a1.toNat a2.toNat a3.toNat a4.toNat a5)))))))) (fun μ12 e => (μ12 = zm Z2 ν ∧ (.inr e : qz_Oc) = .inl (some (.inr (.inl (od_G a1.toNat a2.toNat a3.toNat a4.toNat a5)))))) := by
      intro μ9 e9
      replace e9 := e9.trans (zm_wI (Z := Z) (ν := ν) hZ2 (show ((0 : Nat) : Int) = 0 from rfl) (show ((0 : Nat) : Int) = 0 from rfl) (show ((2 : Nat) : Int) = 2 from rfl) (show (0 : Int32) = i3 0 from rfl))
      subst e9
      refine wz_cJ_of (od_333 (c := a1.toNat) (b := a2.toNat) (s := a3.toNat) (p := a4.toNat) (by omega) (by omega) (by omega) (by omega) (congrArg i3 (by omega)) (congrArg i3 (by omega)) (congrArg i3 (by omega)) (congrArg i3 (by omega)) _) ?_
      refine wz_cJ_of (od_319 (n := a1.toNat) (d := a3.toNat) (by omega) (by omega) (congrArg i3 (by omega)) (congrArg i3 (by omega)) _) ?_
      exact wz_cJ_of (od_332 cap.1 cap.2.1 cap.2.2 (by omega) rfl rfl rfl _) ⟨rfl, rfl⟩
    refine wz_i0 (Eq.trans (i3L (rfl : i3 a1 = i3 a1) c1 (by omega) (by omega) (by omega) (by omega)) (decide_eq_false (by omega))) ?_
    refine wz_i0 (Eq.trans (i3L c40 (rfl : i3 a1 = i3 a1) (by omega) (by omega) (by omega) (by omega)) (decide_eq_false (by omega))) ?_
    refine wz_i0 (Eq.trans (i3L (rfl : i3 a2 = i3 a2) c0 (by omega) (by omega) (by omega) (by omega)) (decide_eq_false (by omega))) ?_
    refine wz_i0 (Eq.trans (i3L (rfl : i3 a1 = i3 a1) (rfl : i3 a2 = i3 a2) (by omega) (by omega) (by omega) (by omega)) (decide_eq_false (by omega))) ?_
    refine wz_br (i3Le c20 (rfl : i3 a1 = i3 a1) (by omega) (by omega) (by omega) (by omega)) (fun h6 => ?_) (fun h6 => ?_)
    · refine wz_i0 (Eq.trans (i3L (rfl : i3 a3 = i3 a3) c1 (by omega) (by omega) (by omega) (by omega)) (decide_eq_false (by omega))) ?_
      refine wz_i0 (Eq.trans (i3L c20 (rfl : i3 a3 = i3 a3) (by omega) (by omega) (by omega) (by omega)) (decide_eq_false (by omega))) ?_
      refine wz_i0 (Eq.trans (i3L (rfl : i3 a4 = i3 a4) c0 (by omega) (by omega) (by omega) (by omega)) (decide_eq_false (by omega))) ?_
      refine wz_i0 (Eq.trans (i3L c9 (rfl : i3 a4 = i3 a4) (by omega) (by omega) (by omega) (by omega)) (decide_eq_false (by omega))) ?_
      refine wz_i0 (Eq.trans (i3L (rfl : i3 a5 = i3 a5) c0 (by omega) (by omega) (by omega) (by omega)) (decide_eq_false (by omega))) ?_
      refine wz_i0 (Eq.trans (i3L c1 (rfl : i3 a5 = i3 a5) (by omega) (by omega) (by omega) (by omega)) (decide_eq_false (by omega))) ?_
      exact key
    · refine wz_i0 (Eq.trans (i3L (rfl : i3 a3 = i3 a3) c1 (by omega) (by omega) (by omega) (by omega)) (decide_eq_false (by omega))) ?_
      refine wz_i0 (Eq.trans (i3L (rfl : i3 a1 = i3 a1) (rfl : i3 a3 = i3 a3) (by omega) (by omega) (by omega) (by omega)) (decide_eq_false (by omega))) ?_
      refine wz_i0 (Eq.trans (i3L (rfl : i3 a4 = i3 a4) c0 (by omega) (by omega) (by omega) (by omega)) (decide_eq_false (by omega))) ?_
      refine wz_i0 (Eq.trans (i3L c9 (rfl : i3 a4 = i3 a4) (by omega) (by omega) (by omega) (by omega)) (decide_eq_false (by omega))) ?_
      refine wz_i0 (Eq.trans (i3L (rfl : i3 a5 = i3 a5) c0 (by omega) (by omega) (by omega) (by omega)) (decide_eq_false (by omega))) ?_
      refine wz_i0 (Eq.trans (i3L c1 (rfl : i3 a5 = i3 a5) (by omega) (by omega) (by omega) (by omega)) (decide_eq_false (by omega))) ?_
      exact key
  · obtain ⟨Z2, hZ2⟩ := zx (zu Z 1 0 0 2 1)
    refine ⟨Z2, 0, ?_, .inr ⟨h, zu_at hZ2⟩⟩
    refine wz_call_eq (fw_440 (i3 a1) (i3 a2) (i3 a3) (i3 a4) (i3 a5) _ _ ?_)
    have c0 : (0 : Int32) = i3 0 := rfl
    have c1 : (1 : Int32) = i3 1 := rfl
    have c9 : (9 : Int32) = i3 9 := rfl
    have c20 : (20 : Int32) = i3 20 := rfl
    have c40 : (40 : Int32) = i3 40 := rfl
    have hn : wz_wr (qz_wI (zm Z ν) (1, 0, 0) 2 (1 : Int32)) (fun μ9 => μ9 = zm Z2 ν ∧ (.inl (some (.inr (.inl (0 : Int64)))) : qz_Oc) = .inl (some (.inr (.inl 0)))) := by
      intro μ9 e9
      exact ⟨e9.trans (zm_wI (Z := Z) (ν := ν) hZ2 (show ((0 : Nat) : Int) = 0 from rfl) (show ((0 : Nat) : Int) = 0 from rfl) (show ((2 : Nat) : Int) = 2 from rfl) c1), rfl⟩
    refine wz_br (i3L (rfl : i3 a1 = i3 a1) c1 (by omega) (by omega) (by omega) (by omega)) (fun _ => hn) (fun h1 => ?_)
    refine wz_br (i3L c40 (rfl : i3 a1 = i3 a1) (by omega) (by omega) (by omega) (by omega)) (fun _ => hn) (fun h2 => ?_)
    refine wz_br (i3L (rfl : i3 a2 = i3 a2) c0 (by omega) (by omega) (by omega) (by omega)) (fun _ => hn) (fun h3 => ?_)
    refine wz_br (i3L (rfl : i3 a1 = i3 a1) (rfl : i3 a2 = i3 a2) (by omega) (by omega) (by omega) (by omega)) (fun _ => hn) (fun h4 => ?_)
    refine wz_br (i3Le c20 (rfl : i3 a1 = i3 a1) (by omega) (by omega) (by omega) (by omega)) (fun h5 => ?_) (fun h5 => ?_)
    · refine wz_br (i3L (rfl : i3 a3 = i3 a3) c1 (by omega) (by omega) (by omega) (by omega)) (fun _ => hn) (fun h6 => ?_)
      refine wz_br (i3L c20 (rfl : i3 a3 = i3 a3) (by omega) (by omega) (by omega) (by omega)) (fun _ => hn) (fun h7 => ?_)
      refine wz_br (i3L (rfl : i3 a4 = i3 a4) c0 (by omega) (by omega) (by omega) (by omega)) (fun _ => hn) (fun h8 => ?_)
      refine wz_br (i3L c9 (rfl : i3 a4 = i3 a4) (by omega) (by omega) (by omega) (by omega)) (fun _ => hn) (fun h9 => ?_)
      refine wz_br (i3L (rfl : i3 a5 = i3 a5) c0 (by omega) (by omega) (by omega) (by omega)) (fun _ => hn) (fun h10 => ?_)
      refine wz_i1 (Eq.trans (i3L c1 (rfl : i3 a5 = i3 a5) (by omega) (by omega) (by omega) (by omega)) (decide_eq_true (by omega))) hn
    · refine wz_br (i3L (rfl : i3 a3 = i3 a3) c1 (by omega) (by omega) (by omega) (by omega)) (fun _ => hn) (fun h6 => ?_)
      refine wz_br (i3L (rfl : i3 a1 = i3 a1) (rfl : i3 a3 = i3 a3) (by omega) (by omega) (by omega) (by omega)) (fun _ => hn) (fun h7 => ?_)
      refine wz_br (i3L (rfl : i3 a4 = i3 a4) c0 (by omega) (by omega) (by omega) (by omega)) (fun _ => hn) (fun h8 => ?_)
      refine wz_br (i3L c9 (rfl : i3 a4 = i3 a4) (by omega) (by omega) (by omega) (by omega)) (fun _ => hn) (fun h9 => ?_)
      refine wz_br (i3L (rfl : i3 a5 = i3 a5) c0 (by omega) (by omega) (by omega) (by omega)) (fun _ => hn) (fun h10 => ?_)
      refine wz_i1 (Eq.trans (i3L c1 (rfl : i3 a5 = i3 a5) (by omega) (by omega) (by omega) (by omega)) (decide_eq_true (by omega))) hn
theorem lw_odds {Z : qz_Z} {ν : qz_N} (h : zNew Z ν) {a1 : Int} (g1 : -2147483648 ≤ a1 ∧ a1 ≤ 2147483647) {a2 : Int} (g2 : -2147483648 ≤ a2 ∧ a2 ≤ 2147483647) {a3 : Int} (g3 : -2147483648 ≤ a3 ∧ a3 ≤ 2147483647) {a4 : Int} (g4 : -2147483648 ≤ a4 ∧ a4 ≤ 2147483647) {a5 : Int} (g5 : -2147483648 ≤ a5 ∧ a5 ≤ 2147483647) : ∃ (Z2 : qz_Z) (ν2 : qz_N) (r : Int32), qf_598 [.inr (.inr (some (0, 0, 0))), .inl (i3 a1), .inl (i3 a2), .inl (i3 a3), .inl (i3 a4), .inl (i3 a5), .inr (.inr (some (71, 0, 0)))] (zm Z ν) = some (zm Z2 ν2, .inl (some (.inl r))) ∧ (((1 ≤ a1 ∧ a1 ≤ 40) ∧ (0 ≤ a2 ∧ a2 ≤ a1) ∧ (1 ≤ a3 ∧ a3 ≤ a1 ∧ a3 ≤ 20) ∧ (0 ≤ a4 ∧ a4 ≤ 9) ∧ (0 ≤ a5 ∧ a5 ≤ 1)) ∧ r = 0 ∧ ν2.1 71 0 0 0 = od_G a1.toNat a2.toNat a3.toNat a4.toNat a5 ∨ ¬ ((1 ≤ a1 ∧ a1 ≤ 40) ∧ (0 ≤ a2 ∧ a2 ≤ a1) ∧ (1 ≤ a3 ∧ a3 ≤ a1 ∧ a3 ≤ 20) ∧ (0 ≤ a4 ∧ a4 ≤ 9) ∧ (0 ≤ a5 ∧ a5 ≤ 1)) ∧ r = 1) ∧ zSt Z2 ν2 ∧ (∀ j, Z2 200 0 0 j = Z 200 0 0 j) := by
  have st := zNew_S h
  have q := od_219 (Z := Z) (ν := ν) g1 g2 g3 g4 g5
  by_cases hp : (1 ≤ a1 ∧ a1 ≤ 40) ∧ (0 ≤ a2 ∧ a2 ≤ a1) ∧ (1 ≤ a3 ∧ a3 ≤ a1 ∧ a3 ≤ 20) ∧ (0 ≤ a4 ∧ a4 ≤ 9) ∧ (0 ≤ a5 ∧ a5 ≤ 1)
  · rw [if_pos hp] at q
    have h1 := wz_call_eq (fv_598 (i3 a1) (i3 a2) (i3 a3) (i3 a4) (i3 a5) (zm Z ν) (fun μ o => μ = qz_wL (zm Z ν) (71, 0, 0) 0 (od_G a1.toNat a2.toNat a3.toNat a4.toNat a5) ∧ o = .inl (some (.inl (0 : Int32)))) (wz_cJ_of q (fun μ9 e9 => ⟨e9, rfl⟩)))
    exact ⟨Z, (qz_wL (zm Z ν) (71, 0, 0) 0 (od_G a1.toNat a2.toNat a3.toNat a4.toNat a5)).2, 0, h1, .inl ⟨hp, rfl, (if_pos ⟨rfl, rfl, rfl, rfl⟩ : (if 71 = 71 ∧ 0 = 0 ∧ 0 = 0 ∧ 0 = 0 then (od_G a1.toNat a2.toNat a3.toNat a4.toNat a5) else ν.1 71 0 0 0) = _)⟩, st, fun _ => rfl⟩
  · rw [if_neg hp] at q
    obtain ⟨Z2, ν2, v, E, hP, hq, hE0, st2, hs2⟩ := wrap_e (hs := [(13, 1)]) (f := qf_219) (as := [.inr (.inr (some (0, 0, 0))), .inl (i3 a1), .inl (i3 a2), .inl (i3 a3), .inl (i3 a4), .inl (i3 a5)]) (P0 := (0, 13)) (WS := []) (KV := fun _ _ _ => True) h.2.2.1 h.2.2.2.1 h.2.2.2.2 (zF_m h.2.1) (fun R hR => fv_598 (i3 a1) (i3 a2) (i3 a3) (i3 a4) (i3 a5) _ R (by
      obtain ⟨μ', o, e, hh⟩ := hR
      rw [q] at e
      cases e
      refine ⟨_, _, q, ?_⟩
      exact hh)) ⟨Z, nkk ν 1 6, 0, 13, rfl, q, h.1, zK_r, zN_k rfl⟩ (fun v E he => by cases he; exact ⟨by decide, (13, 1), by decide, rfl⟩) (by decide)
    cases hP
    exact ⟨Z2, ν2, 1, hq, .inr ⟨hp, rfl⟩, st2, hs2⟩
theorem lc_4 {Z : qz_Z} {ν : qz_N} (h : zNew Z ν) {k : wz_K} {R : wz_R} (hk : ∀ Z3 ν3 v2 v4, zEnd ν3 → k 60 ([some (.inr (.inr (some (200, 0, 0)))), some (.inr (.inr (some (0, 0, 0)))), some (.inr (.inr (some (1, 0, 0)))), some (.inr (.inr (some (71, 0, 0)))), some (.inl (0 : Int32)), some (.inl v2), some (.inr (.inl v4)), none], [], zm Z3 ν3)) : gx_4 k R (gx_L 0, [], zm Z ν) := by
  refine fk_4 0 (zm Z ν) k R ?_
  have st := zNew_S h
  refine wz_i1 (zS_t st) (wz_i0 (zS_o st (by decide)) ?_)
  refine wz_i1 (zS_t st) (wz_i0 (zS_o st (by decide)) ?_)
  refine wz_i1 (zS_t st) (wz_i0 (zS_o st (by decide)) ?_)
  refine wz_i1 (zS_t st) (wz_i0 (zS_o st (by decide)) ?_)
  refine wz_i1 (zS_t st) (wz_i0 (zS_o st (by decide)) ?_)
  have g1 := zI_f h.1 200 0 0 1
  have g2 := zI_f h.1 200 0 0 2
  have g3 := zI_f h.1 200 0 0 3
  have g4 := zI_f h.1 200 0 0 4
  have g5 := zI_f h.1 200 0 0 5
  obtain ⟨Z2, ν2, r, hq, hE0, st2, hs2⟩ := lw_odds h g1 g2 g3 g4 g5
  refine wz_cI_of hq ?_
  refine wz_i1 (zS_t st2) (wz_i0 (zS_o st2 (by decide)) ?_)
  refine wz_i1 (zS_t st2) (wz_i0 (zS_o st2 (by decide)) ?_)
  refine wz_i1 (zS_t st2) (wz_i0 (zS_o st2 (by decide)) ?_)
  refine wz_i1 (zS_t st2) (wz_i0 (zS_o st2 (by decide)) ?_)
  refine wz_i1 (zS_t st2) (wz_i0 (zS_o st2 (by decide)) ?_)
  have f1 := zI_f st2.1 200 0 0 1
  have f2 := zI_f st2.1 200 0 0 2
  have f3 := zI_f st2.1 200 0 0 3
  have f4 := zI_f st2.1 200 0 0 4
  have f5 := zI_f st2.1 200 0 0 5
  obtain ⟨Z3, w, hq2, hw⟩ := od_440 (ν := ν2) st2.1 f1 f2 f3 f4 f5
  refine wz_cJ_of hq2 ?_
  rw [hs2 1, hs2 2, hs2 3, hs2 4, hs2 5] at hw
  have hend : zEnd ν2 := ⟨⟨st2.2.2.1.1, st2.2.2.1.2⟩, by have := st2.2.2.2.2.1; omega, by have := st2.2.2.2.2.2; omega⟩
  rcases hE0 with ⟨hp, hr, hv⟩ | ⟨hp, hr⟩
  · rcases hw with ⟨_, h2, h3⟩ | ⟨hn, _⟩
    · subst hr h3
      refine wz_i1 (decide_eq_true (show i3 (Z3 1 0 0 2) = 0 by rw [h2]; rfl)) ?_
      refine wz_i0 (by decide) (wz_i1 (decide_eq_true ?_) (hk _ _ _ _ hend))
      show lg_cmp (ν2.1 71 0 0 0) _ = 0
      rw [hv]
      exact lg_self _
    · exact absurd hp hn
  · rcases hw with ⟨hn, _⟩ | ⟨_, h2⟩
    · exact absurd hn hp
    · subst hr
      refine wz_i1 (decide_eq_true (show i3 (Z3 1 0 0 2) = 1 by rw [h2]; rfl)) ?_
      exact wz_i1 (by decide) (hk _ _ _ _ hend)
