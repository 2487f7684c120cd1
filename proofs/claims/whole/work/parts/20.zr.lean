/-! WHAT STANDS WHERE: ranges. -/
/-- what stands in the columns of a kind -/
def zrt : List (List (Int × Int)) := [[], [(-2147483648, 2147483647), (-2147483648, 2147483647), (-2147483648, 2147483647), (0, 65535), (-2147483648, 2147483647), (0, 3), (-2147483648, 2147483647), (0, 342), (-2147483648, 2147483647), (-2147483648, 2147483647), (-2147483648, 2147483647), (-2147483648, 2147483647), (-2147483648, 2147483647), (-2147483648, 2147483647), (-2147483648, 2147483647), (-2147483648, 2147483647), (-2147483648, 2147483647), (-2147483648, 2147483647), (-2147483648, 2147483647), (-2147483648, 2147483647), (-2147483648, 2147483647), (-2147483648, 2147483647), (-2147483648, 2147483647), (-2147483648, 2147483647), (0, 5), (-2147483648, 2147483647), (-2147483648, 2147483647), (-2147483648, 2147483647), (0, 60), (-2147483648, 2147483647), (-2147483648, 2147483647), (-2147483648, 2147483647), (-2147483648, 2147483647), (-2147483648, 2147483647), (0, 8), (0, 1), (-2147483648, 2147483647), (-2147483648, 2147483647), (-2147483648, 2147483647), (-2147483648, 2147483647), (-2147483648, 2147483647), (-2147483648, 2147483647), (-2147483648, 2147483647), (-2147483648, 2147483647), (-2147483648, 2147483647), (-2147483648, 2147483647), (-2147483648, 2147483647), (-2147483648, 2147483647), (-2147483648, 2147483647), (0, 120), (-2147483648, 2147483647), (-2147483648, 2147483647)], [], [(-2147483648, 2147483647), (-2147483648, 2147483647), (-2147483648, 2147483647), (-2147483648, 2147483647), (-2147483648, 2147483647), (-2147483648, 2147483647), (0, 520), (0, 7), (0, 8)], [(-2147483648, 2147483647), (0, 120), (-2147483648, 2147483647)], [], [], [], [], [], [], [(0, 5), (0, 6), (0, 6), (0, 48), (0, 8), (0, 24), (0, 60), (0, 2), (0, 4), (0, 2), (0, 12), (-2147483648, 2147483647), (-2147483648, 2147483647), (0, 671), (0, 4), (-2147483648, 2147483647), (-1, 519)], [(0, 40), (0, 40), (0, 40), (0, 40), (0, 40), (0, 40), (0, 40), (0, 40), (0, 40), (0, 40), (0, 40), (0, 40), (0, 40), (0, 40), (0, 40), (0, 40), (0, 40), (0, 40), (0, 40), (0, 40), (0, 40), (0, 40), (0, 40), (0, 40), (0, 40), (0, 40), (0, 40), (0, 40)], [(0, 99999), (0, 99999), (0, 99999), (0, 99999)], [(-2147483648, 2147483647), (-2147483648, 2147483647), (-2147483648, 2147483647), (-2147483648, 2147483647), (-2147483648, 2147483647), (-2147483648, 2147483647), (-2147483648, 2147483647), (-2147483648, 2147483647), (-2147483648, 2147483647), (-2147483648, 2147483647)], [], [], [], [], [], [], [], [], [], [], [], [], [], [], [], [], [], [], [], [], [], [], [], [], [], [(0, 12), (0, 12), (0, 12), (0, 12), (0, 12), (0, 12)], [(0, 9), (0, 12), (0, 12), (0, 600), (0, 99)], [(0, 25), (0, 9), (-2147483648, 2147483647), (-2147483648, 2147483647), (-2147483648, 2147483647), (-2147483648, 2147483647), (-2147483648, 2147483647)], [(0, 12), (0, 9), (0, 9), (0, 40), (0, 1), (0, 40), (-2147483648, 2147483647), (-2147483648, 2147483647), (-2147483648, 2147483647), (-2147483648, 2147483647), (-1, 695)], [(0, 5), (0, 4), (0, 671), (0, 40), (0, 40), (0, 40), (-2147483648, 2147483647), (0, 2000), (0, 999), (-1, 3), (0, 4), (-2147483648, 2147483647), (-1, 6), (-2147483648, 2147483647), (-2147483648, 2147483647), (-1, 20)], [(0, 4), (0, 9999999), (0, 14), (-2147483648, 2147483647), (-2147483648, 2147483647), (-2147483648, 2147483647), (-2147483648, 2147483647), (0, 1), (-2147483648, 2147483647), (-2147483648, 2147483647), (-2147483648, 2147483647), (-2147483648, 2147483647), (-2147483648, 2147483647), (-2147483648, 2147483647), (-2147483648, 2147483647)], [(0, 7), (0, 4), (0, 3), (0, 99), (0, 9999), (0, 127), (0, 99), (0, 1), (-2147483648, 2147483647), (-2147483648, 2147483647)], [(0, 47), (0, 7), (0, 23), (0, 40), (0, 40), (0, 9999), (0, 671), (-1, 3), (0, 2000), (0, 3), (-1, 3), (0, 2000), (0, 999), (-2147483648, 2147483647), (-1, 671), (-1, 2000), (-1, 999), (-1, 671), (0, 399960), (-2147483648, 2147483647), (0, 41)], [(0, 23), (0, 6), (0, 6), (0, 500), (0, 9), (0, 12), (-1, 9999), (-1, 47), (-2147483648, 2147483647), (-2147483648, 2147483647), (-2147483648, 2147483647), (-2147483648, 2147483647)], [(0, 47), (0, 9999), (0, 9999)], [(0, 99), (0, 40), (0, 1), (-1, 671), (-2147483648, 2147483647), (-2147483648, 2147483647), (-2147483648, 2147483647), (-1, 671), (-1, 743), (-2147483648, 2147483647), (-2147483648, 2147483647), (-2147483648, 2147483647), (-1, 4), (-1, 4), (-1, 4), (-1, 4), (-1, 4), (-1, 743), (-1, 743), (-1, 743), (-1, 743), (-1, 743)], [(0, 18), (0, 3), (0, 127), (0, 999999), (-2147483648, 2147483647), (-2147483648, 2147483647), (-2147483648, 2147483647), (-1, 671)], [(0, 1), (0, 671), (0, 47), (0, 2), (0, 9), (-1, 3)], [(-2147483648, 2147483647), (-2147483648, 2147483647), (-2147483648, 2147483647), (-2147483648, 2147483647), (-2147483648, 2147483647)], [(0, 59), (0, 3), (0, 2), (-2147483648, 2147483647), (-2147483648, 2147483647), (-2147483648, 2147483647), (-2147483648, 2147483647), (0, 671)]]
abbrev z_F : Int × Int := (-2147483648, 2147483647)
def zrt_110 : List (Int × Int) := [(0, 9), (0, 12), (0, 12), (0, 600), (0, 99)]
def zrt_140 : List (Int × Int) := [(0, 25), (0, 9)]
def zrt_200 : List (Int × Int) := [(0, 5), (0, 4), (0, 671), (0, 40), (0, 40), (0, 40), (-2147483648, 2147483647), (0, 2000), (0, 999), (-1, 3), (0, 4), (-1, 6), (-2147483648, 2147483647), (-1, 20), (-2147483648, 2147483647), (-2147483648, 2147483647), (-2147483648, 2147483647), (-2147483648, 2147483647), (-2147483648, 2147483647), (-2147483648, 2147483647)]
def zrt_1210 : List (Int × Int) := [(0, 12), (0, 9), (0, 9), (0, 40), (0, 1), (0, 40), (-2147483648, 2147483647), (-2147483648, 2147483647), (-2147483648, 2147483647), (-2147483648, 2147483647), (-2147483648, 2147483647), (-2147483648, 2147483647)]
def zrt_1410 : List (Int × Int) := [(0, 4), (0, 9999999), (0, 14), (-2147483648, 2147483647), (0, 1), (-2147483648, 2147483647), (-2147483648, 2147483647), (-2147483648, 2147483647), (-2147483648, 2147483647), (-2147483648, 2147483647), (-2147483648, 2147483647), (-2147483648, 2147483647)]
def zrt_1510 : List (Int × Int) := [(0, 7), (0, 4), (0, 3), (0, 99), (0, 9999), (0, 127), (0, 99), (0, 1), (-2147483648, 2147483647), (-2147483648, 2147483647), (-2147483648, 2147483647), (-2147483648, 2147483647)]
def zrt_1810 : List (Int × Int) := [(-2147483648, 2147483647), (0, 41)]
def zrt_2010 : List (Int × Int) := [(0, 47), (0, 7), (0, 23), (0, 40), (0, 40), (0, 9999), (0, 671), (-1, 3), (0, 2000), (0, 3), (-1, 3), (0, 2000), (0, 999), (-1, 671), (-1, 2000), (-1, 999)]
def zrt_3010 : List (Int × Int) := [(0, 23), (0, 6), (0, 6), (0, 500), (0, 9), (0, 12), (-1, 9999), (-1, 47), (-2147483648, 2147483647), (-2147483648, 2147483647), (-2147483648, 2147483647), (-2147483648, 2147483647), (0, 47), (0, 9999), (0, 9999), (0, 47), (0, 9999), (0, 9999), (0, 47), (0, 9999), (0, 9999), (0, 47), (0, 9999), (0, 9999), (0, 47), (0, 9999), (0, 9999), (0, 47), (0, 9999), (0, 9999), (0, 47), (0, 9999), (0, 9999), (0, 47), (0, 9999), (0, 9999), (0, 47), (0, 9999), (0, 9999), (0, 47), (0, 9999), (0, 9999), (0, 47), (0, 9999), (0, 9999), (0, 47), (0, 9999), (0, 9999), (0, 47), (0, 9999), (0, 9999), (0, 47), (0, 9999), (0, 9999), (0, 47), (0, 9999), (0, 9999), (0, 47), (0, 9999), (0, 9999)]
def zrt_3250 : List (Int × Int) := [(0, 99), (0, 40), (0, 1), (-1, 671), (-1, 671), (-2147483648, 2147483647), (-2147483648, 2147483647), (-2147483648, 2147483647), (0, 5), (0, 4), (0, 4), (0, 4), (0, 4), (0, 4), (0, 743), (0, 743), (0, 743), (0, 743), (0, 743), (0, 743), (-2147483648, 2147483647), (-2147483648, 2147483647), (-2147483648, 2147483647), (-2147483648, 2147483647)]
def zrt_3520 : List (Int × Int) := [(0, 18), (0, 3), (0, 127), (0, 2147483647), (-2147483648, 2147483647), (-2147483648, 2147483647), (-2147483648, 2147483647), (-1, 671), (-2147483648, 2147483647), (-2147483648, 2147483647)]
def zrt_3560 : List (Int × Int) := [(0, 1), (0, 671), (0, 47), (0, 2), (0, 9), (-1, 3)]
def zrt_3820 : List (Int × Int) := [(-2147483648, 2147483647), (-2147483648, 2147483647), (-2147483648, 2147483647), (-2147483648, 2147483647), (-2147483648, 2147483647)]
def zrt_3850 : List (Int × Int) := [(0, 59), (0, 3), (0, 2), (-2147483648, 2147483647), (-2147483648, 2147483647), (-2147483648, 2147483647), (-2147483648, 2147483647), (0, 671)]
def zrt_3950 : List (Int × Int) := [(-2147483648, 2147483647), (-2147483648, 2147483647), (-2147483648, 2147483647), (-2147483648, 2147483647), (-2147483648, 2147483647)]
/-- and in the row of the reference -/
def zr2 (j : Int) : Int × Int := if j < 0 then z_F else if j < 1 then (0, 671) else if j < 40 then z_F else if j < 100 then (-1, 671) else if j < 100 then z_F else if j < 101 then (0, 5) else if j < 101 then z_F else if j < 102 then (0, 6) else if j < 102 then z_F else if j < 103 then (0, 48) else if j < 110 then z_F else if j < 135 then zrt_110.getD ((j - 110) % 5).toNat z_F else if j < 140 then z_F else if j < 152 then zrt_140.getD ((j - 140) % 2).toNat z_F else if j < 200 then z_F else if j < 1160 then zrt_200.getD ((j - 200) % 20).toNat z_F else if j < 1200 then z_F else if j < 1201 then (0, 6) else if j < 1210 then z_F else if j < 1282 then zrt_1210.getD ((j - 1210) % 12).toNat z_F else if j < 1300 then z_F else if j < 1328 then (0, 40) else if j < 1400 then z_F else if j < 1401 then (0, 8) else if j < 1401 then z_F else if j < 1402 then (0, 24) else if j < 1410 then z_F else if j < 1506 then zrt_1410.getD ((j - 1410) % 12).toNat z_F else if j < 1510 then z_F else if j < 1798 then zrt_1510.getD ((j - 1510) % 12).toNat z_F else if j < 1810 then z_F else if j < 1930 then zrt_1810.getD ((j - 1810) % 2).toNat z_F else if j < 2000 then z_F else if j < 2001 then (0, 60) else if j < 2010 then z_F else if j < 2970 then zrt_2010.getD ((j - 2010) % 16).toNat z_F else if j < 3000 then z_F else if j < 3001 then (0, 2) else if j < 3010 then z_F else if j < 3130 then zrt_3010.getD ((j - 3010) % 60).toNat z_F else if j < 3200 then z_F else if j < 3201 then (0, 4) else if j < 3201 then z_F else if j < 3202 then (0, 4) else if j < 3210 then z_F else if j < 3246 then (0, 12) else if j < 3250 then z_F else if j < 3346 then zrt_3250.getD ((j - 3250) % 24).toNat z_F else if j < 3500 then z_F else if j < 3501 then (0, 2) else if j < 3501 then z_F else if j < 3502 then (0, 24) else if j < 3509 then z_F else if j < 3519 then (0, 695) else if j < 3520 then z_F else if j < 3540 then zrt_3520.getD ((j - 3520) % 10).toNat z_F else if j < 3560 then z_F else if j < 3704 then zrt_3560.getD ((j - 3560) % 6).toNat z_F else if j < 3800 then z_F else if j < 3810 then (-2147483648, 2147483647) else if j < 3810 then z_F else if j < 3814 then (0, 99999) else if j < 3814 then z_F else if j < 3815 then (-2147483648, 2147483647) else if j < 3815 then z_F else if j < 3816 then (0, 12) else if j < 3820 then z_F else if j < 3850 then zrt_3820.getD ((j - 3820) % 5).toNat z_F else if j < 3850 then z_F else if j < 3946 then zrt_3850.getD ((j - 3850) % 8).toNat z_F else if j < 3950 then z_F else if j < 4250 then zrt_3950.getD ((j - 3950) % 5).toNat z_F else z_F
/-- of kinds of which all columns are alike -/
def zrd : List (Int × Int) := [(-2147483648, 2147483647), (-2147483648, 2147483647), (-2147483648, 2147483647), (-2147483648, 2147483647), (-2147483648, 2147483647), (-2147483648, 2147483647), (-2147483648, 2147483647), (-2147483648, 2147483647), (-2147483648, 2147483647), (-2147483648, 2147483647), (-2147483648, 2147483647), (-2147483648, 2147483647), (-2147483648, 2147483647), (-2147483648, 2147483647), (-2147483648, 2147483647), (-2147483648, 2147483647), (-2147483648, 2147483647), (-2147483648, 2147483647), (-2147483648, 2147483647), (-2147483648, 2147483647), (-2147483648, 2147483647), (-2147483648, 2147483647), (-2147483648, 2147483647), (-2147483648, 2147483647), (-2147483648, 2147483647), (-2147483648, 2147483647), (-2147483648, 2147483647), (-2147483648, 2147483647), (-2147483648, 2147483647), (-2147483648, 2147483647), (-2147483648, 2147483647), (-2147483648, 2147483647), (-2147483648, 2147483647), (-2147483648, 2147483647), (-2147483648, 2147483647), (-2147483648, 2147483647), (-2147483648, 2147483647), (-2147483648, 2147483647), (-2147483648, 2147483647), (-2147483648, 2147483647), (-2147483648, 2147483647), (-2147483648, 2147483647), (-2147483648, 2147483647), (-2147483648, 2147483647), (-2147483648, 2147483647), (-2147483648, 2147483647), (-2147483648, 2147483647), (-2147483648, 2147483647), (-2147483648, 2147483647), (-2147483648, 2147483647), (-2147483648, 2147483647), (-2147483648, 2147483647), (-2147483648, 2147483647), (-2147483648, 2147483647), (-2147483648, 2147483647), (-2147483648, 2147483647), (-2147483648, 2147483647), (-2147483648, 2147483647), (-2147483648, 2147483647), (-2147483648, 2147483647), (-2147483648, 2147483647), (-2147483648, 2147483647), (-2147483648, 2147483647), (-2147483648, 2147483647), (-2147483648, 2147483647), (-2147483648, 2147483647), (0, 126), (-2147483648, 2147483647), (-2147483648, 2147483647), (-2147483648, 2147483647), (-2147483648, 2147483647), (-2147483648, 2147483647), (-2147483648, 2147483647), (-2147483648, 2147483647), (-2147483648, 2147483647), (-2147483648, 2147483647), (-2147483648, 2147483647), (-2147483648, 2147483647), (-2147483648, 2147483647), (-2147483648, 2147483647), (-2147483648, 2147483647), (-2147483648, 2147483647), (0, 47), (-2147483648, 2147483647), (-2147483648, 2147483647), (0, 1), (-1, 23), (-2, 47), (0, 23), (-2147483648, 2147483647), (0, 1), (-2147483648, 2147483647), (0, 4), (-2147483648, 2147483647), (-2147483648, 2147483647), (0, 4), (0, 4), (-2147483648, 2147483647), (0, 40), (-2147483648, 2147483647), (-2147483648, 2147483647), (-2147483648, 2147483647), (-2147483648, 2147483647), (-2147483648, 2147483647), (-2147483648, 2147483647), (-2147483648, 2147483647), (-2147483648, 2147483647), (-2147483648, 2147483647), (-2147483648, 2147483647), (-2147483648, 2147483647), (-2147483648, 2147483647), (0, 1), (0, 126), (-1, 99999)]
def zrt_94 : List (Int × Int) := [(0, 47), (0, 9999), (0, 9999)]
/-- copies of the row of the reference -/
def zrm (k : Nat) : Bool := (Nat.beq k 81 || (Nat.beq k 100 || (Nat.beq k 101 || (Nat.beq k 104))))
def zrk (k : Nat) (n : Nat) : Int × Int := (zrt.getD k []).getD n (zrd.getD k z_F)
def zr (k : Nat) (j : Int) : Int × Int := bif Nat.beq k 2 then zr2 j else bif zrm k then zr2 (j % 4400) else bif Nat.beq k 94 then zrt_94.getD (j % 3).toNat z_F else zrk k j.toNat
/-- nothing; a season that is told by the class (its DRAWS); the reference tells or does something quietly -/
abbrev zS : Type := Option (Option Int)
/-- all numbers are in their ranges -/
def zI (s : zS) (Z : qz_Z) : Prop := (∀ k b i j, k ≠ 200 → (zr k j).1 ≤ Z k b i j ∧ Z k b i j ≤ (zr k j).2) ∧ (∀ k b i j, -2147483648 ≤ Z k b i j ∧ Z k b i j ≤ 2147483647) ∧ (∀ n, s = some (some n) → (0 ≤ Z 200 n 0 2 ∧ Z 200 n 0 2 ≤ 65535) ∧ 1 ≤ Z 200 n 0 1 ∧ Z 200 n 0 1 ≤ 12) ∧ (s = some none → Z 1 0 0 35 = 1)
theorem zg_at {l : List (Int × Int)} {d : Int × Int} {p : Int × Int → Prop} (h : ∀ x ∈ l, p x) (hd : p d) (n : Nat) : p (l.getD n d) := by
  rw [List.getD_eq_getElem?_getD]
  cases hn : l[n]? with
  | none => exact hd
  | some v => exact h _ (List.mem_of_getElem? hn)
def zp0 (x : Int × Int) : Prop := x.1 ≤ 0 ∧ 0 ≤ x.2
theorem zg_if {c : Prop} [Decidable c] {a b : Int × Int} (ha : zp0 a) (hb : zp0 b) : zp0 (if c then a else b) := by
  split
  · exact ha
  · exact hb
theorem zg_lit {a b : Int} (h : a ≤ 0 ∧ 0 ≤ b) : zp0 (a, b) := h
theorem zr_02 (j : Int) : zp0 (zr2 j) := by
  unfold zr2
  repeat' (first | (exact zg_lit (by decide)) | (refine zg_if ?_ ?_) | (refine zg_at (p := zp0) ?_ ?_ _))
  all_goals first | (exact zg_lit (by decide)) | (unfold zp0; decide +kernel)
theorem zr_0 (k : Nat) (j : Int) : (zr k j).1 ≤ 0 ∧ 0 ≤ (zr k j).2 := by
  show zp0 (zr k j)
  unfold zr
  cases Nat.beq k 2
  · cases zrm k
    · cases Nat.beq k 94
      · show zp0 ((zrt.getD k []).getD j.toNat (zrd.getD k z_F))
        have hk : ∀ x ∈ zrt.getD k [], zp0 x := by
          rw [List.getD_eq_getElem?_getD]
          cases hn : zrt[k]? with
          | none => intro x hx; cases hx
          | some l =>
            have : ∀ l ∈ zrt, ∀ x ∈ l, x.1 ≤ 0 ∧ 0 ≤ x.2 := by decide +kernel
            exact this l (List.mem_of_getElem? hn)
        have hd : ∀ x ∈ zrd, x.1 ≤ 0 ∧ 0 ≤ x.2 := by decide +kernel
        exact zg_at (p := zp0) hk (zg_at (p := zp0) hd (by unfold zp0; decide) _) _
      · show zp0 (zrt_94.getD (j % 3).toNat z_F)
        have hd : ∀ x ∈ zrt_94, x.1 ≤ 0 ∧ 0 ≤ x.2 := by decide +kernel
        exact zg_at (p := zp0) hd (by unfold zp0; decide) _
    · exact zr_02 _
  · exact zr_02 _
section ZI
variable {s : zS} {Z Z1 : qz_Z}
theorem zI_f (h : zI s Z) (k : Nat) (b i j : Int) : -2147483648 ≤ Z k b i j ∧ Z k b i j ≤ 2147483647 := h.2.1 k b i j
theorem zI_k (h : zI s Z) (k : Nat) (b i j : Int) {lo hi : Int} (hk : k ≠ 200) (e : zr k j = (lo, hi)) : lo ≤ Z k b i j ∧ Z k b i j ≤ hi := by
  have := h.1 k b i j hk
  rw [e] at this
  exact this
theorem zI_v {k : Nat} {b i j v : Int} (h : zI s Z) (h1 : Z1 = zu Z k b i j v) (hk : k ≠ 200) (hv : (zr k j).1 ≤ v ∧ v ≤ (zr k j).2) (hw : -2147483648 ≤ v ∧ v ≤ 2147483647) (hq : k ≠ 1 ∨ j ≠ 35) : zI s Z1 := by
  subst h1
  refine ⟨fun k' b' i' j' hk' => ?_, fun k' b' i' j' => ?_, fun n hn => ?_, fun hn => ?_⟩
  · show (zr k' j').1 ≤ (if _ then v else Z k' b' i' j') ∧ (if _ then v else Z k' b' i' j') ≤ (zr k' j').2
    by_cases c : k' = k ∧ b' = b ∧ i' = i ∧ j' = j
    · rw [if_pos c, c.1, c.2.2.2]; exact hv
    · rw [if_neg c]; exact h.1 _ _ _ _ hk'
  · show -2147483648 ≤ (if _ then v else Z k' b' i' j') ∧ (if _ then v else Z k' b' i' j') ≤ 2147483647
    by_cases c : k' = k ∧ b' = b ∧ i' = i ∧ j' = j
    · rw [if_pos c]; exact hw
    · rw [if_neg c]; exact h.2.1 _ _ _ _
  · have := h.2.2.1 n hn
    have e2 : zu Z k b i j v 200 n 0 2 = Z 200 n 0 2 := if_neg (fun q => hk q.1.symm)
    have e3 : zu Z k b i j v 200 n 0 1 = Z 200 n 0 1 := if_neg (fun q => hk q.1.symm)
    rw [e2, e3]; exact this
  · have := h.2.2.2 hn
    have e2 : zu Z k b i j v 1 0 0 35 = Z 1 0 0 35 := if_neg (fun q => by rcases hq with g | g; exact g q.1.symm; exact g q.2.2.2.symm)
    rw [e2]; exact this
theorem zI_u {k : Nat} {b i j v : Int} (h : zI s Z) (h1 : Z1 = zu Z k b i j v) {lo hi : Int} (hk : k ≠ 200) (e : zr k j = (lo, hi)) (hv : lo ≤ v ∧ v ≤ hi) (hw : -2147483648 ≤ lo ∧ hi ≤ 2147483647) (hq : k ≠ 1 ∨ j ≠ 35) : zI s Z1 := zI_v h h1 hk (by rw [e]; exact hv) (by omega) hq
/-- 0 can stand everywhere -/
theorem zI_0 {k : Nat} {b i j : Int} (h : zI s Z) (h1 : Z1 = zu Z k b i j 0) (hk : k ≠ 200) (hq : k ≠ 1 ∨ j ≠ 35) : zI s Z1 := zI_v h h1 hk (zr_0 _ _) (by omega) hq
/-- the DRAWS go on -/
theorem zI_x {n v : Int} (h : zI s Z) (h1 : Z1 = zu Z 200 n 0 2 v) (hv : 0 ≤ v ∧ v ≤ 65535) : zI s Z1 := by
  subst h1
  refine ⟨fun k' b' i' j' hk' => ?_, fun k' b' i' j' => ?_, fun m hm => ?_, fun hn => ?_⟩
  · have e2 : zu Z 200 n 0 2 v k' b' i' j' = Z k' b' i' j' := if_neg (fun q => hk' q.1)
    rw [e2]; exact h.1 _ _ _ _ hk'
  · show -2147483648 ≤ (if _ then v else Z k' b' i' j') ∧ (if _ then v else Z k' b' i' j') ≤ 2147483647
    split
    · omega
    · exact h.2.1 _ _ _ _
  · have e3 : zu Z 200 n 0 2 v 200 m 0 1 = Z 200 m 0 1 := if_neg (fun q => absurd q.2.2.2 (by decide))
    rw [e3]
    refine ⟨?_, (h.2.2.1 m hm).2⟩
    show 0 ≤ (if _ then v else Z 200 m 0 2) ∧ (if _ then v else Z 200 m 0 2) ≤ 65535
    split
    · exact hv
    · exact (h.2.2.1 m hm).1
  · have := h.2.2.2 hn
    have e2 : zu Z 200 n 0 2 v 1 0 0 35 = Z 1 0 0 35 := if_neg (fun q => absurd q.1 (by decide))
    rw [e2]; exact this
theorem zI_xr {n : Int} (h : zI (some (some n)) Z) : 0 ≤ Z 200 n 0 2 ∧ Z 200 n 0 2 ≤ 65535 := (h.2.2.1 n rfl).1
theorem zI_xs {n : Int} (h : zI (some (some n)) Z) : 1 ≤ Z 200 n 0 1 ∧ Z 200 n 0 1 ≤ 12 := (h.2.2.1 n rfl).2
theorem zI_q1 (h : zI s Z) (h1 : Z1 = zu Z 1 0 0 35 1) : zI (some none) Z1 := by
  subst h1
  refine ⟨fun k' b' i' j' hk' => ?_, fun k' b' i' j' => ?_, fun n hn => (by cases hn), fun _ => if_pos ⟨rfl, rfl, rfl, rfl⟩⟩
  · show (zr k' j').1 ≤ (if _ then 1 else Z k' b' i' j') ∧ (if _ then 1 else Z k' b' i' j') ≤ (zr k' j').2
    by_cases c : k' = 1 ∧ b' = 0 ∧ i' = 0 ∧ j' = 35
    · rw [if_pos c, c.1, c.2.2.2]; decide
    · rw [if_neg c]; exact h.1 _ _ _ _ hk'
  · show -2147483648 ≤ (if _ then 1 else Z k' b' i' j') ∧ (if _ then 1 else Z k' b' i' j') ≤ 2147483647
    split
    · decide
    · exact h.2.1 _ _ _ _
theorem zI_q0 {v : Int} (h : zI s Z) (h1 : Z1 = zu Z 1 0 0 35 v) (hv : 0 ≤ v ∧ v ≤ 1) : zI none Z1 := by
  subst h1
  refine ⟨fun k' b' i' j' hk' => ?_, fun k' b' i' j' => ?_, fun n hn => (by cases hn), fun hn => (by cases hn)⟩
  · show (zr k' j').1 ≤ (if _ then v else Z k' b' i' j') ∧ (if _ then v else Z k' b' i' j') ≤ (zr k' j').2
    by_cases c : k' = 1 ∧ b' = 0 ∧ i' = 0 ∧ j' = 35
    · rw [if_pos c, c.1, c.2.2.2]; exact hv
    · rw [if_neg c]; exact h.1 _ _ _ _ hk'
  · show -2147483648 ≤ (if _ then v else Z k' b' i' j') ∧ (if _ then v else Z k' b' i' j') ≤ 2147483647
    split
    · omega
    · exact h.2.1 _ _ _ _
theorem zI_q (h : zI (some none) Z) : Z 1 0 0 35 = 1 := h.2.2.2 rfl
end ZI
theorem zs_40 {e : Int} (h0 : 40 ≤ e) (h1 : e < 100) : zr 2 e = (-1, 671) := by
  show zr2 e = _
  unfold zr2
  rw [if_neg (by omega), if_neg (by omega), if_neg (by omega), if_pos (by omega)]
theorem zsb_110 {e : Int} (h0 : 110 ≤ e) (h1 : e < 135) : zr 2 e = zrt_110.getD ((e - 110) % 5).toNat z_F := by
  show zr2 e = _
  unfold zr2
  rw [if_neg (by omega), if_neg (by omega), if_neg (by omega), if_neg (by omega), if_neg (by omega), if_neg (by omega), if_neg (by omega), if_neg (by omega), if_neg (by omega), if_neg (by omega), if_neg (by omega), if_pos (by omega)]
theorem zs_110_0 {e x : Int} (h : e = 110 + 5 * x) (h0 : 0 ≤ x) (h1 : x < 5) : zr 2 e = (0, 9) := (zsb_110 (by omega) (by omega)).trans (by rw [show ((e - 110) % 5).toNat = 0 from by omega]; rfl)
theorem zs_110_1 {e x : Int} (h : e = 111 + 5 * x) (h0 : 0 ≤ x) (h1 : x < 5) : zr 2 e = (0, 12) := (zsb_110 (by omega) (by omega)).trans (by rw [show ((e - 110) % 5).toNat = 1 from by omega]; rfl)
theorem zs_110_2 {e x : Int} (h : e = 112 + 5 * x) (h0 : 0 ≤ x) (h1 : x < 5) : zr 2 e = (0, 12) := (zsb_110 (by omega) (by omega)).trans (by rw [show ((e - 110) % 5).toNat = 2 from by omega]; rfl)
theorem zs_110_3 {e x : Int} (h : e = 113 + 5 * x) (h0 : 0 ≤ x) (h1 : x < 5) : zr 2 e = (0, 600) := (zsb_110 (by omega) (by omega)).trans (by rw [show ((e - 110) % 5).toNat = 3 from by omega]; rfl)
theorem zs_110_4 {e x : Int} (h : e = 114 + 5 * x) (h0 : 0 ≤ x) (h1 : x < 5) : zr 2 e = (0, 99) := (zsb_110 (by omega) (by omega)).trans (by rw [show ((e - 110) % 5).toNat = 4 from by omega]; rfl)
theorem zsb_140 {e : Int} (h0 : 140 ≤ e) (h1 : e < 152) : zr 2 e = zrt_140.getD ((e - 140) % 2).toNat z_F := by
  show zr2 e = _
  unfold zr2
  rw [if_neg (by omega), if_neg (by omega), if_neg (by omega), if_neg (by omega), if_neg (by omega), if_neg (by omega), if_neg (by omega), if_neg (by omega), if_neg (by omega), if_neg (by omega), if_neg (by omega), if_neg (by omega), if_neg (by omega), if_pos (by omega)]
theorem zs_140_0 {e x : Int} (h : e = 140 + 2 * x) (h0 : 0 ≤ x) (h1 : x < 6) : zr 2 e = (0, 25) := (zsb_140 (by omega) (by omega)).trans (by rw [show ((e - 140) % 2).toNat = 0 from by omega]; rfl)
theorem zs_140_1 {e x : Int} (h : e = 141 + 2 * x) (h0 : 0 ≤ x) (h1 : x < 6) : zr 2 e = (0, 9) := (zsb_140 (by omega) (by omega)).trans (by rw [show ((e - 140) % 2).toNat = 1 from by omega]; rfl)
theorem zsb_200 {e : Int} (h0 : 200 ≤ e) (h1 : e < 1160) : zr 2 e = zrt_200.getD ((e - 200) % 20).toNat z_F := by
  show zr2 e = _
  unfold zr2
  rw [if_neg (by omega), if_neg (by omega), if_neg (by omega), if_neg (by omega), if_neg (by omega), if_neg (by omega), if_neg (by omega), if_neg (by omega), if_neg (by omega), if_neg (by omega), if_neg (by omega), if_neg (by omega), if_neg (by omega), if_neg (by omega), if_neg (by omega), if_pos (by omega)]
theorem zs_200_0 {e x : Int} (h : e = 200 + 20 * x) (h0 : 0 ≤ x) (h1 : x < 48) : zr 2 e = (0, 5) := (zsb_200 (by omega) (by omega)).trans (by rw [show ((e - 200) % 20).toNat = 0 from by omega]; rfl)
theorem zs_200_1 {e x : Int} (h : e = 201 + 20 * x) (h0 : 0 ≤ x) (h1 : x < 48) : zr 2 e = (0, 4) := (zsb_200 (by omega) (by omega)).trans (by rw [show ((e - 200) % 20).toNat = 1 from by omega]; rfl)
theorem zs_200_2 {e x : Int} (h : e = 202 + 20 * x) (h0 : 0 ≤ x) (h1 : x < 48) : zr 2 e = (0, 671) := (zsb_200 (by omega) (by omega)).trans (by rw [show ((e - 200) % 20).toNat = 2 from by omega]; rfl)
theorem zs_200_3 {e x : Int} (h : e = 203 + 20 * x) (h0 : 0 ≤ x) (h1 : x < 48) : zr 2 e = (0, 40) := (zsb_200 (by omega) (by omega)).trans (by rw [show ((e - 200) % 20).toNat = 3 from by omega]; rfl)
theorem zs_200_4 {e x : Int} (h : e = 204 + 20 * x) (h0 : 0 ≤ x) (h1 : x < 48) : zr 2 e = (0, 40) := (zsb_200 (by omega) (by omega)).trans (by rw [show ((e - 200) % 20).toNat = 4 from by omega]; rfl)
theorem zs_200_5 {e x : Int} (h : e = 205 + 20 * x) (h0 : 0 ≤ x) (h1 : x < 48) : zr 2 e = (0, 40) := (zsb_200 (by omega) (by omega)).trans (by rw [show ((e - 200) % 20).toNat = 5 from by omega]; rfl)
theorem zs_200_6 {e x : Int} (h : e = 206 + 20 * x) (h0 : 0 ≤ x) (h1 : x < 48) : zr 2 e = (-2147483648, 2147483647) := (zsb_200 (by omega) (by omega)).trans (by rw [show ((e - 200) % 20).toNat = 6 from by omega]; rfl)
theorem zs_200_7 {e x : Int} (h : e = 207 + 20 * x) (h0 : 0 ≤ x) (h1 : x < 48) : zr 2 e = (0, 2000) := (zsb_200 (by omega) (by omega)).trans (by rw [show ((e - 200) % 20).toNat = 7 from by omega]; rfl)
theorem zs_200_8 {e x : Int} (h : e = 208 + 20 * x) (h0 : 0 ≤ x) (h1 : x < 48) : zr 2 e = (0, 999) := (zsb_200 (by omega) (by omega)).trans (by rw [show ((e - 200) % 20).toNat = 8 from by omega]; rfl)
theorem zs_200_9 {e x : Int} (h : e = 209 + 20 * x) (h0 : 0 ≤ x) (h1 : x < 48) : zr 2 e = (-1, 3) := (zsb_200 (by omega) (by omega)).trans (by rw [show ((e - 200) % 20).toNat = 9 from by omega]; rfl)
theorem zs_200_10 {e x : Int} (h : e = 210 + 20 * x) (h0 : 0 ≤ x) (h1 : x < 48) : zr 2 e = (0, 4) := (zsb_200 (by omega) (by omega)).trans (by rw [show ((e - 200) % 20).toNat = 10 from by omega]; rfl)
theorem zs_200_11 {e x : Int} (h : e = 211 + 20 * x) (h0 : 0 ≤ x) (h1 : x < 48) : zr 2 e = (-1, 6) := (zsb_200 (by omega) (by omega)).trans (by rw [show ((e - 200) % 20).toNat = 11 from by omega]; rfl)
theorem zs_200_12 {e x : Int} (h : e = 212 + 20 * x) (h0 : 0 ≤ x) (h1 : x < 48) : zr 2 e = (-2147483648, 2147483647) := (zsb_200 (by omega) (by omega)).trans (by rw [show ((e - 200) % 20).toNat = 12 from by omega]; rfl)
theorem zs_200_13 {e x : Int} (h : e = 213 + 20 * x) (h0 : 0 ≤ x) (h1 : x < 48) : zr 2 e = (-1, 20) := (zsb_200 (by omega) (by omega)).trans (by rw [show ((e - 200) % 20).toNat = 13 from by omega]; rfl)
theorem zs_200_14 {e x : Int} (h : e = 214 + 20 * x) (h0 : 0 ≤ x) (h1 : x < 48) : zr 2 e = (-2147483648, 2147483647) := (zsb_200 (by omega) (by omega)).trans (by rw [show ((e - 200) % 20).toNat = 14 from by omega]; rfl)
theorem zs_200_15 {e x : Int} (h : e = 215 + 20 * x) (h0 : 0 ≤ x) (h1 : x < 48) : zr 2 e = (-2147483648, 2147483647) := (zsb_200 (by omega) (by omega)).trans (by rw [show ((e - 200) % 20).toNat = 15 from by omega]; rfl)
theorem zs_200_16 {e x : Int} (h : e = 216 + 20 * x) (h0 : 0 ≤ x) (h1 : x < 48) : zr 2 e = (-2147483648, 2147483647) := (zsb_200 (by omega) (by omega)).trans (by rw [show ((e - 200) % 20).toNat = 16 from by omega]; rfl)
theorem zs_200_17 {e x : Int} (h : e = 217 + 20 * x) (h0 : 0 ≤ x) (h1 : x < 48) : zr 2 e = (-2147483648, 2147483647) := (zsb_200 (by omega) (by omega)).trans (by rw [show ((e - 200) % 20).toNat = 17 from by omega]; rfl)
theorem zs_200_18 {e x : Int} (h : e = 218 + 20 * x) (h0 : 0 ≤ x) (h1 : x < 48) : zr 2 e = (-2147483648, 2147483647) := (zsb_200 (by omega) (by omega)).trans (by rw [show ((e - 200) % 20).toNat = 18 from by omega]; rfl)
theorem zs_200_19 {e x : Int} (h : e = 219 + 20 * x) (h0 : 0 ≤ x) (h1 : x < 48) : zr 2 e = (-2147483648, 2147483647) := (zsb_200 (by omega) (by omega)).trans (by rw [show ((e - 200) % 20).toNat = 19 from by omega]; rfl)
theorem zsb_1210 {e : Int} (h0 : 1210 ≤ e) (h1 : e < 1282) : zr 2 e = zrt_1210.getD ((e - 1210) % 12).toNat z_F := by
  show zr2 e = _
  unfold zr2
  rw [if_neg (by omega), if_neg (by omega), if_neg (by omega), if_neg (by omega), if_neg (by omega), if_neg (by omega), if_neg (by omega), if_neg (by omega), if_neg (by omega), if_neg (by omega), if_neg (by omega), if_neg (by omega), if_neg (by omega), if_neg (by omega), if_neg (by omega), if_neg (by omega), if_neg (by omega), if_neg (by omega), if_neg (by omega), if_pos (by omega)]
theorem zs_1210_0 {e x : Int} (h : e = 1210 + 12 * x) (h0 : 0 ≤ x) (h1 : x < 6) : zr 2 e = (0, 12) := (zsb_1210 (by omega) (by omega)).trans (by rw [show ((e - 1210) % 12).toNat = 0 from by omega]; rfl)
theorem zs_1210_1 {e x : Int} (h : e = 1211 + 12 * x) (h0 : 0 ≤ x) (h1 : x < 6) : zr 2 e = (0, 9) := (zsb_1210 (by omega) (by omega)).trans (by rw [show ((e - 1210) % 12).toNat = 1 from by omega]; rfl)
theorem zs_1210_2 {e x : Int} (h : e = 1212 + 12 * x) (h0 : 0 ≤ x) (h1 : x < 6) : zr 2 e = (0, 9) := (zsb_1210 (by omega) (by omega)).trans (by rw [show ((e - 1210) % 12).toNat = 2 from by omega]; rfl)
theorem zs_1210_3 {e x : Int} (h : e = 1213 + 12 * x) (h0 : 0 ≤ x) (h1 : x < 6) : zr 2 e = (0, 40) := (zsb_1210 (by omega) (by omega)).trans (by rw [show ((e - 1210) % 12).toNat = 3 from by omega]; rfl)
theorem zs_1210_4 {e x : Int} (h : e = 1214 + 12 * x) (h0 : 0 ≤ x) (h1 : x < 6) : zr 2 e = (0, 1) := (zsb_1210 (by omega) (by omega)).trans (by rw [show ((e - 1210) % 12).toNat = 4 from by omega]; rfl)
theorem zs_1210_5 {e x : Int} (h : e = 1215 + 12 * x) (h0 : 0 ≤ x) (h1 : x < 6) : zr 2 e = (0, 40) := (zsb_1210 (by omega) (by omega)).trans (by rw [show ((e - 1210) % 12).toNat = 5 from by omega]; rfl)
theorem zs_1210_6 {e x : Int} (h : e = 1216 + 12 * x) (h0 : 0 ≤ x) (h1 : x < 6) : zr 2 e = (-2147483648, 2147483647) := (zsb_1210 (by omega) (by omega)).trans (by rw [show ((e - 1210) % 12).toNat = 6 from by omega]; rfl)
theorem zs_1210_7 {e x : Int} (h : e = 1217 + 12 * x) (h0 : 0 ≤ x) (h1 : x < 6) : zr 2 e = (-2147483648, 2147483647) := (zsb_1210 (by omega) (by omega)).trans (by rw [show ((e - 1210) % 12).toNat = 7 from by omega]; rfl)
theorem zs_1210_8 {e x : Int} (h : e = 1218 + 12 * x) (h0 : 0 ≤ x) (h1 : x < 6) : zr 2 e = (-2147483648, 2147483647) := (zsb_1210 (by omega) (by omega)).trans (by rw [show ((e - 1210) % 12).toNat = 8 from by omega]; rfl)
theorem zs_1210_9 {e x : Int} (h : e = 1219 + 12 * x) (h0 : 0 ≤ x) (h1 : x < 6) : zr 2 e = (-2147483648, 2147483647) := (zsb_1210 (by omega) (by omega)).trans (by rw [show ((e - 1210) % 12).toNat = 9 from by omega]; rfl)
theorem zs_1210_10 {e x : Int} (h : e = 1220 + 12 * x) (h0 : 0 ≤ x) (h1 : x < 6) : zr 2 e = (-2147483648, 2147483647) := (zsb_1210 (by omega) (by omega)).trans (by rw [show ((e - 1210) % 12).toNat = 10 from by omega]; rfl)
theorem zs_1210_11 {e x : Int} (h : e = 1221 + 12 * x) (h0 : 0 ≤ x) (h1 : x < 6) : zr 2 e = (-2147483648, 2147483647) := (zsb_1210 (by omega) (by omega)).trans (by rw [show ((e - 1210) % 12).toNat = 11 from by omega]; rfl)
theorem zs_1300 {e : Int} (h0 : 1300 ≤ e) (h1 : e < 1328) : zr 2 e = (0, 40) := by
  show zr2 e = _
  unfold zr2
  rw [if_neg (by omega), if_neg (by omega), if_neg (by omega), if_neg (by omega), if_neg (by omega), if_neg (by omega), if_neg (by omega), if_neg (by omega), if_neg (by omega), if_neg (by omega), if_neg (by omega), if_neg (by omega), if_neg (by omega), if_neg (by omega), if_neg (by omega), if_neg (by omega), if_neg (by omega), if_neg (by omega), if_neg (by omega), if_neg (by omega), if_neg (by omega), if_pos (by omega)]
theorem zsb_1410 {e : Int} (h0 : 1410 ≤ e) (h1 : e < 1506) : zr 2 e = zrt_1410.getD ((e - 1410) % 12).toNat z_F := by
  show zr2 e = _
  unfold zr2
  rw [if_neg (by omega), if_neg (by omega), if_neg (by omega), if_neg (by omega), if_neg (by omega), if_neg (by omega), if_neg (by omega), if_neg (by omega), if_neg (by omega), if_neg (by omega), if_neg (by omega), if_neg (by omega), if_neg (by omega), if_neg (by omega), if_neg (by omega), if_neg (by omega), if_neg (by omega), if_neg (by omega), if_neg (by omega), if_neg (by omega), if_neg (by omega), if_neg (by omega), if_neg (by omega), if_neg (by omega), if_neg (by omega), if_neg (by omega), if_neg (by omega), if_pos (by omega)]
theorem zs_1410_0 {e x : Int} (h : e = 1410 + 12 * x) (h0 : 0 ≤ x) (h1 : x < 8) : zr 2 e = (0, 4) := (zsb_1410 (by omega) (by omega)).trans (by rw [show ((e - 1410) % 12).toNat = 0 from by omega]; rfl)
theorem zs_1410_1 {e x : Int} (h : e = 1411 + 12 * x) (h0 : 0 ≤ x) (h1 : x < 8) : zr 2 e = (0, 9999999) := (zsb_1410 (by omega) (by omega)).trans (by rw [show ((e - 1410) % 12).toNat = 1 from by omega]; rfl)
theorem zs_1410_2 {e x : Int} (h : e = 1412 + 12 * x) (h0 : 0 ≤ x) (h1 : x < 8) : zr 2 e = (0, 14) := (zsb_1410 (by omega) (by omega)).trans (by rw [show ((e - 1410) % 12).toNat = 2 from by omega]; rfl)
theorem zs_1410_3 {e x : Int} (h : e = 1413 + 12 * x) (h0 : 0 ≤ x) (h1 : x < 8) : zr 2 e = (-2147483648, 2147483647) := (zsb_1410 (by omega) (by omega)).trans (by rw [show ((e - 1410) % 12).toNat = 3 from by omega]; rfl)
theorem zs_1410_4 {e x : Int} (h : e = 1414 + 12 * x) (h0 : 0 ≤ x) (h1 : x < 8) : zr 2 e = (0, 1) := (zsb_1410 (by omega) (by omega)).trans (by rw [show ((e - 1410) % 12).toNat = 4 from by omega]; rfl)
theorem zs_1410_5 {e x : Int} (h : e = 1415 + 12 * x) (h0 : 0 ≤ x) (h1 : x < 8) : zr 2 e = (-2147483648, 2147483647) := (zsb_1410 (by omega) (by omega)).trans (by rw [show ((e - 1410) % 12).toNat = 5 from by omega]; rfl)
theorem zs_1410_6 {e x : Int} (h : e = 1416 + 12 * x) (h0 : 0 ≤ x) (h1 : x < 8) : zr 2 e = (-2147483648, 2147483647) := (zsb_1410 (by omega) (by omega)).trans (by rw [show ((e - 1410) % 12).toNat = 6 from by omega]; rfl)
theorem zs_1410_7 {e x : Int} (h : e = 1417 + 12 * x) (h0 : 0 ≤ x) (h1 : x < 8) : zr 2 e = (-2147483648, 2147483647) := (zsb_1410 (by omega) (by omega)).trans (by rw [show ((e - 1410) % 12).toNat = 7 from by omega]; rfl)
theorem zs_1410_8 {e x : Int} (h : e = 1418 + 12 * x) (h0 : 0 ≤ x) (h1 : x < 8) : zr 2 e = (-2147483648, 2147483647) := (zsb_1410 (by omega) (by omega)).trans (by rw [show ((e - 1410) % 12).toNat = 8 from by omega]; rfl)
theorem zs_1410_9 {e x : Int} (h : e = 1419 + 12 * x) (h0 : 0 ≤ x) (h1 : x < 8) : zr 2 e = (-2147483648, 2147483647) := (zsb_1410 (by omega) (by omega)).trans (by rw [show ((e - 1410) % 12).toNat = 9 from by omega]; rfl)
theorem zs_1410_10 {e x : Int} (h : e = 1420 + 12 * x) (h0 : 0 ≤ x) (h1 : x < 8) : zr 2 e = (-2147483648, 2147483647) := (zsb_1410 (by omega) (by omega)).trans (by rw [show ((e - 1410) % 12).toNat = 10 from by omega]; rfl)
theorem zs_1410_11 {e x : Int} (h : e = 1421 + 12 * x) (h0 : 0 ≤ x) (h1 : x < 8) : zr 2 e = (-2147483648, 2147483647) := (zsb_1410 (by omega) (by omega)).trans (by rw [show ((e - 1410) % 12).toNat = 11 from by omega]; rfl)
theorem zsb_1510 {e : Int} (h0 : 1510 ≤ e) (h1 : e < 1798) : zr 2 e = zrt_1510.getD ((e - 1510) % 12).toNat z_F := by
  show zr2 e = _
  unfold zr2
  rw [if_neg (by omega), if_neg (by omega), if_neg (by omega), if_neg (by omega), if_neg (by omega), if_neg (by omega), if_neg (by omega), if_neg (by omega), if_neg (by omega), if_neg (by omega), if_neg (by omega), if_neg (by omega), if_neg (by omega), if_neg (by omega), if_neg (by omega), if_neg (by omega), if_neg (by omega), if_neg (by omega), if_neg (by omega), if_neg (by omega), if_neg (by omega), if_neg (by omega), if_neg (by omega), if_neg (by omega), if_neg (by omega), if_neg (by omega), if_neg (by omega), if_neg (by omega), if_neg (by omega), if_pos (by omega)]
theorem zs_1510_0 {e x : Int} (h : e = 1510 + 12 * x) (h0 : 0 ≤ x) (h1 : x < 24) : zr 2 e = (0, 7) := (zsb_1510 (by omega) (by omega)).trans (by rw [show ((e - 1510) % 12).toNat = 0 from by omega]; rfl)
theorem zs_1510_1 {e x : Int} (h : e = 1511 + 12 * x) (h0 : 0 ≤ x) (h1 : x < 24) : zr 2 e = (0, 4) := (zsb_1510 (by omega) (by omega)).trans (by rw [show ((e - 1510) % 12).toNat = 1 from by omega]; rfl)
theorem zs_1510_2 {e x : Int} (h : e = 1512 + 12 * x) (h0 : 0 ≤ x) (h1 : x < 24) : zr 2 e = (0, 3) := (zsb_1510 (by omega) (by omega)).trans (by rw [show ((e - 1510) % 12).toNat = 2 from by omega]; rfl)
theorem zs_1510_3 {e x : Int} (h : e = 1513 + 12 * x) (h0 : 0 ≤ x) (h1 : x < 24) : zr 2 e = (0, 99) := (zsb_1510 (by omega) (by omega)).trans (by rw [show ((e - 1510) % 12).toNat = 3 from by omega]; rfl)
theorem zs_1510_4 {e x : Int} (h : e = 1514 + 12 * x) (h0 : 0 ≤ x) (h1 : x < 24) : zr 2 e = (0, 9999) := (zsb_1510 (by omega) (by omega)).trans (by rw [show ((e - 1510) % 12).toNat = 4 from by omega]; rfl)
theorem zs_1510_5 {e x : Int} (h : e = 1515 + 12 * x) (h0 : 0 ≤ x) (h1 : x < 24) : zr 2 e = (0, 127) := (zsb_1510 (by omega) (by omega)).trans (by rw [show ((e - 1510) % 12).toNat = 5 from by omega]; rfl)
theorem zs_1510_6 {e x : Int} (h : e = 1516 + 12 * x) (h0 : 0 ≤ x) (h1 : x < 24) : zr 2 e = (0, 99) := (zsb_1510 (by omega) (by omega)).trans (by rw [show ((e - 1510) % 12).toNat = 6 from by omega]; rfl)
theorem zs_1510_7 {e x : Int} (h : e = 1517 + 12 * x) (h0 : 0 ≤ x) (h1 : x < 24) : zr 2 e = (0, 1) := (zsb_1510 (by omega) (by omega)).trans (by rw [show ((e - 1510) % 12).toNat = 7 from by omega]; rfl)
theorem zs_1510_8 {e x : Int} (h : e = 1518 + 12 * x) (h0 : 0 ≤ x) (h1 : x < 24) : zr 2 e = (-2147483648, 2147483647) := (zsb_1510 (by omega) (by omega)).trans (by rw [show ((e - 1510) % 12).toNat = 8 from by omega]; rfl)
theorem zs_1510_9 {e x : Int} (h : e = 1519 + 12 * x) (h0 : 0 ≤ x) (h1 : x < 24) : zr 2 e = (-2147483648, 2147483647) := (zsb_1510 (by omega) (by omega)).trans (by rw [show ((e - 1510) % 12).toNat = 9 from by omega]; rfl)
theorem zs_1510_10 {e x : Int} (h : e = 1520 + 12 * x) (h0 : 0 ≤ x) (h1 : x < 24) : zr 2 e = (-2147483648, 2147483647) := (zsb_1510 (by omega) (by omega)).trans (by rw [show ((e - 1510) % 12).toNat = 10 from by omega]; rfl)
theorem zs_1510_11 {e x : Int} (h : e = 1521 + 12 * x) (h0 : 0 ≤ x) (h1 : x < 24) : zr 2 e = (-2147483648, 2147483647) := (zsb_1510 (by omega) (by omega)).trans (by rw [show ((e - 1510) % 12).toNat = 11 from by omega]; rfl)
theorem zsb_1810 {e : Int} (h0 : 1810 ≤ e) (h1 : e < 1930) : zr 2 e = zrt_1810.getD ((e - 1810) % 2).toNat z_F := by
  show zr2 e = _
  unfold zr2
  rw [if_neg (by omega), if_neg (by omega), if_neg (by omega), if_neg (by omega), if_neg (by omega), if_neg (by omega), if_neg (by omega), if_neg (by omega), if_neg (by omega), if_neg (by omega), if_neg (by omega), if_neg (by omega), if_neg (by omega), if_neg (by omega), if_neg (by omega), if_neg (by omega), if_neg (by omega), if_neg (by omega), if_neg (by omega), if_neg (by omega), if_neg (by omega), if_neg (by omega), if_neg (by omega), if_neg (by omega), if_neg (by omega), if_neg (by omega), if_neg (by omega), if_neg (by omega), if_neg (by omega), if_neg (by omega), if_neg (by omega), if_pos (by omega)]
theorem zs_1810_0 {e x : Int} (h : e = 1810 + 2 * x) (h0 : 0 ≤ x) (h1 : x < 60) : zr 2 e = (-2147483648, 2147483647) := (zsb_1810 (by omega) (by omega)).trans (by rw [show ((e - 1810) % 2).toNat = 0 from by omega]; rfl)
theorem zs_1810_1 {e x : Int} (h : e = 1811 + 2 * x) (h0 : 0 ≤ x) (h1 : x < 60) : zr 2 e = (0, 41) := (zsb_1810 (by omega) (by omega)).trans (by rw [show ((e - 1810) % 2).toNat = 1 from by omega]; rfl)
theorem zsb_2010 {e : Int} (h0 : 2010 ≤ e) (h1 : e < 2970) : zr 2 e = zrt_2010.getD ((e - 2010) % 16).toNat z_F := by
  show zr2 e = _
  unfold zr2
  rw [if_neg (by omega), if_neg (by omega), if_neg (by omega), if_neg (by omega), if_neg (by omega), if_neg (by omega), if_neg (by omega), if_neg (by omega), if_neg (by omega), if_neg (by omega), if_neg (by omega), if_neg (by omega), if_neg (by omega), if_neg (by omega), if_neg (by omega), if_neg (by omega), if_neg (by omega), if_neg (by omega), if_neg (by omega), if_neg (by omega), if_neg (by omega), if_neg (by omega), if_neg (by omega), if_neg (by omega), if_neg (by omega), if_neg (by omega), if_neg (by omega), if_neg (by omega), if_neg (by omega), if_neg (by omega), if_neg (by omega), if_neg (by omega), if_neg (by omega), if_neg (by omega), if_neg (by omega), if_pos (by omega)]
theorem zs_2010_0 {e x : Int} (h : e = 2010 + 16 * x) (h0 : 0 ≤ x) (h1 : x < 60) : zr 2 e = (0, 47) := (zsb_2010 (by omega) (by omega)).trans (by rw [show ((e - 2010) % 16).toNat = 0 from by omega]; rfl)
theorem zs_2010_1 {e x : Int} (h : e = 2011 + 16 * x) (h0 : 0 ≤ x) (h1 : x < 60) : zr 2 e = (0, 7) := (zsb_2010 (by omega) (by omega)).trans (by rw [show ((e - 2010) % 16).toNat = 1 from by omega]; rfl)
theorem zs_2010_2 {e x : Int} (h : e = 2012 + 16 * x) (h0 : 0 ≤ x) (h1 : x < 60) : zr 2 e = (0, 23) := (zsb_2010 (by omega) (by omega)).trans (by rw [show ((e - 2010) % 16).toNat = 2 from by omega]; rfl)
theorem zs_2010_3 {e x : Int} (h : e = 2013 + 16 * x) (h0 : 0 ≤ x) (h1 : x < 60) : zr 2 e = (0, 40) := (zsb_2010 (by omega) (by omega)).trans (by rw [show ((e - 2010) % 16).toNat = 3 from by omega]; rfl)
theorem zs_2010_4 {e x : Int} (h : e = 2014 + 16 * x) (h0 : 0 ≤ x) (h1 : x < 60) : zr 2 e = (0, 40) := (zsb_2010 (by omega) (by omega)).trans (by rw [show ((e - 2010) % 16).toNat = 4 from by omega]; rfl)
theorem zs_2010_5 {e x : Int} (h : e = 2015 + 16 * x) (h0 : 0 ≤ x) (h1 : x < 60) : zr 2 e = (0, 9999) := (zsb_2010 (by omega) (by omega)).trans (by rw [show ((e - 2010) % 16).toNat = 5 from by omega]; rfl)
theorem zs_2010_6 {e x : Int} (h : e = 2016 + 16 * x) (h0 : 0 ≤ x) (h1 : x < 60) : zr 2 e = (0, 671) := (zsb_2010 (by omega) (by omega)).trans (by rw [show ((e - 2010) % 16).toNat = 6 from by omega]; rfl)
theorem zs_2010_7 {e x : Int} (h : e = 2017 + 16 * x) (h0 : 0 ≤ x) (h1 : x < 60) : zr 2 e = (-1, 3) := (zsb_2010 (by omega) (by omega)).trans (by rw [show ((e - 2010) % 16).toNat = 7 from by omega]; rfl)
theorem zs_2010_8 {e x : Int} (h : e = 2018 + 16 * x) (h0 : 0 ≤ x) (h1 : x < 60) : zr 2 e = (0, 2000) := (zsb_2010 (by omega) (by omega)).trans (by rw [show ((e - 2010) % 16).toNat = 8 from by omega]; rfl)
theorem zs_2010_9 {e x : Int} (h : e = 2019 + 16 * x) (h0 : 0 ≤ x) (h1 : x < 60) : zr 2 e = (0, 3) := (zsb_2010 (by omega) (by omega)).trans (by rw [show ((e - 2010) % 16).toNat = 9 from by omega]; rfl)
theorem zs_2010_10 {e x : Int} (h : e = 2020 + 16 * x) (h0 : 0 ≤ x) (h1 : x < 60) : zr 2 e = (-1, 3) := (zsb_2010 (by omega) (by omega)).trans (by rw [show ((e - 2010) % 16).toNat = 10 from by omega]; rfl)
theorem zs_2010_11 {e x : Int} (h : e = 2021 + 16 * x) (h0 : 0 ≤ x) (h1 : x < 60) : zr 2 e = (0, 2000) := (zsb_2010 (by omega) (by omega)).trans (by rw [show ((e - 2010) % 16).toNat = 11 from by omega]; rfl)
theorem zs_2010_12 {e x : Int} (h : e = 2022 + 16 * x) (h0 : 0 ≤ x) (h1 : x < 60) : zr 2 e = (0, 999) := (zsb_2010 (by omega) (by omega)).trans (by rw [show ((e - 2010) % 16).toNat = 12 from by omega]; rfl)
theorem zs_2010_13 {e x : Int} (h : e = 2023 + 16 * x) (h0 : 0 ≤ x) (h1 : x < 60) : zr 2 e = (-1, 671) := (zsb_2010 (by omega) (by omega)).trans (by rw [show ((e - 2010) % 16).toNat = 13 from by omega]; rfl)
theorem zs_2010_14 {e x : Int} (h : e = 2024 + 16 * x) (h0 : 0 ≤ x) (h1 : x < 60) : zr 2 e = (-1, 2000) := (zsb_2010 (by omega) (by omega)).trans (by rw [show ((e - 2010) % 16).toNat = 14 from by omega]; rfl)
theorem zs_2010_15 {e x : Int} (h : e = 2025 + 16 * x) (h0 : 0 ≤ x) (h1 : x < 60) : zr 2 e = (-1, 999) := (zsb_2010 (by omega) (by omega)).trans (by rw [show ((e - 2010) % 16).toNat = 15 from by omega]; rfl)
theorem zsb_3010 {e : Int} (h0 : 3010 ≤ e) (h1 : e < 3130) : zr 2 e = zrt_3010.getD ((e - 3010) % 60).toNat z_F := by
  show zr2 e = _
  unfold zr2
  rw [if_neg (by omega), if_neg (by omega), if_neg (by omega), if_neg (by omega), if_neg (by omega), if_neg (by omega), if_neg (by omega), if_neg (by omega), if_neg (by omega), if_neg (by omega), if_neg (by omega), if_neg (by omega), if_neg (by omega), if_neg (by omega), if_neg (by omega), if_neg (by omega), if_neg (by omega), if_neg (by omega), if_neg (by omega), if_neg (by omega), if_neg (by omega), if_neg (by omega), if_neg (by omega), if_neg (by omega), if_neg (by omega), if_neg (by omega), if_neg (by omega), if_neg (by omega), if_neg (by omega), if_neg (by omega), if_neg (by omega), if_neg (by omega), if_neg (by omega), if_neg (by omega), if_neg (by omega), if_neg (by omega), if_neg (by omega), if_neg (by omega), if_neg (by omega), if_pos (by omega)]
theorem zs_3010_0 {e x : Int} (h : e = 3010 + 60 * x) (h0 : 0 ≤ x) (h1 : x < 2) : zr 2 e = (0, 23) := (zsb_3010 (by omega) (by omega)).trans (by rw [show ((e - 3010) % 60).toNat = 0 from by omega]; rfl)
theorem zs_3010_1 {e x : Int} (h : e = 3011 + 60 * x) (h0 : 0 ≤ x) (h1 : x < 2) : zr 2 e = (0, 6) := (zsb_3010 (by omega) (by omega)).trans (by rw [show ((e - 3010) % 60).toNat = 1 from by omega]; rfl)
theorem zs_3010_2 {e x : Int} (h : e = 3012 + 60 * x) (h0 : 0 ≤ x) (h1 : x < 2) : zr 2 e = (0, 6) := (zsb_3010 (by omega) (by omega)).trans (by rw [show ((e - 3010) % 60).toNat = 2 from by omega]; rfl)
theorem zs_3010_3 {e x : Int} (h : e = 3013 + 60 * x) (h0 : 0 ≤ x) (h1 : x < 2) : zr 2 e = (0, 500) := (zsb_3010 (by omega) (by omega)).trans (by rw [show ((e - 3010) % 60).toNat = 3 from by omega]; rfl)
theorem zs_3010_4 {e x : Int} (h : e = 3014 + 60 * x) (h0 : 0 ≤ x) (h1 : x < 2) : zr 2 e = (0, 9) := (zsb_3010 (by omega) (by omega)).trans (by rw [show ((e - 3010) % 60).toNat = 4 from by omega]; rfl)
theorem zs_3010_5 {e x : Int} (h : e = 3015 + 60 * x) (h0 : 0 ≤ x) (h1 : x < 2) : zr 2 e = (0, 12) := (zsb_3010 (by omega) (by omega)).trans (by rw [show ((e - 3010) % 60).toNat = 5 from by omega]; rfl)
theorem zs_3010_6 {e x : Int} (h : e = 3016 + 60 * x) (h0 : 0 ≤ x) (h1 : x < 2) : zr 2 e = (-1, 9999) := (zsb_3010 (by omega) (by omega)).trans (by rw [show ((e - 3010) % 60).toNat = 6 from by omega]; rfl)
theorem zs_3010_7 {e x : Int} (h : e = 3017 + 60 * x) (h0 : 0 ≤ x) (h1 : x < 2) : zr 2 e = (-1, 47) := (zsb_3010 (by omega) (by omega)).trans (by rw [show ((e - 3010) % 60).toNat = 7 from by omega]; rfl)
theorem zs_3010_8 {e x : Int} (h : e = 3018 + 60 * x) (h0 : 0 ≤ x) (h1 : x < 2) : zr 2 e = (-2147483648, 2147483647) := (zsb_3010 (by omega) (by omega)).trans (by rw [show ((e - 3010) % 60).toNat = 8 from by omega]; rfl)
theorem zs_3010_9 {e x : Int} (h : e = 3019 + 60 * x) (h0 : 0 ≤ x) (h1 : x < 2) : zr 2 e = (-2147483648, 2147483647) := (zsb_3010 (by omega) (by omega)).trans (by rw [show ((e - 3010) % 60).toNat = 9 from by omega]; rfl)
theorem zs_3010_10 {e x : Int} (h : e = 3020 + 60 * x) (h0 : 0 ≤ x) (h1 : x < 2) : zr 2 e = (-2147483648, 2147483647) := (zsb_3010 (by omega) (by omega)).trans (by rw [show ((e - 3010) % 60).toNat = 10 from by omega]; rfl)
theorem zs_3010_11 {e x : Int} (h : e = 3021 + 60 * x) (h0 : 0 ≤ x) (h1 : x < 2) : zr 2 e = (-2147483648, 2147483647) := (zsb_3010 (by omega) (by omega)).trans (by rw [show ((e - 3010) % 60).toNat = 11 from by omega]; rfl)
theorem zs_3010_12 {e x : Int} (h : e = 3022 + 60 * x) (h0 : 0 ≤ x) (h1 : x < 2) : zr 2 e = (0, 47) := (zsb_3010 (by omega) (by omega)).trans (by rw [show ((e - 3010) % 60).toNat = 12 from by omega]; rfl)
theorem zs_3010_13 {e x : Int} (h : e = 3023 + 60 * x) (h0 : 0 ≤ x) (h1 : x < 2) : zr 2 e = (0, 9999) := (zsb_3010 (by omega) (by omega)).trans (by rw [show ((e - 3010) % 60).toNat = 13 from by omega]; rfl)
theorem zs_3010_14 {e x : Int} (h : e = 3024 + 60 * x) (h0 : 0 ≤ x) (h1 : x < 2) : zr 2 e = (0, 9999) := (zsb_3010 (by omega) (by omega)).trans (by rw [show ((e - 3010) % 60).toNat = 14 from by omega]; rfl)
theorem zs_3010_15 {e x : Int} (h : e = 3025 + 60 * x) (h0 : 0 ≤ x) (h1 : x < 2) : zr 2 e = (0, 47) := (zsb_3010 (by omega) (by omega)).trans (by rw [show ((e - 3010) % 60).toNat = 15 from by omega]; rfl)
theorem zs_3010_16 {e x : Int} (h : e = 3026 + 60 * x) (h0 : 0 ≤ x) (h1 : x < 2) : zr 2 e = (0, 9999) := (zsb_3010 (by omega) (by omega)).trans (by rw [show ((e - 3010) % 60).toNat = 16 from by omega]; rfl)
theorem zs_3010_17 {e x : Int} (h : e = 3027 + 60 * x) (h0 : 0 ≤ x) (h1 : x < 2) : zr 2 e = (0, 9999) := (zsb_3010 (by omega) (by omega)).trans (by rw [show ((e - 3010) % 60).toNat = 17 from by omega]; rfl)
theorem zs_3010_18 {e x : Int} (h : e = 3028 + 60 * x) (h0 : 0 ≤ x) (h1 : x < 2) : zr 2 e = (0, 47) := (zsb_3010 (by omega) (by omega)).trans (by rw [show ((e - 3010) % 60).toNat = 18 from by omega]; rfl)
theorem zs_3010_19 {e x : Int} (h : e = 3029 + 60 * x) (h0 : 0 ≤ x) (h1 : x < 2) : zr 2 e = (0, 9999) := (zsb_3010 (by omega) (by omega)).trans (by rw [show ((e - 3010) % 60).toNat = 19 from by omega]; rfl)
theorem zs_3010_20 {e x : Int} (h : e = 3030 + 60 * x) (h0 : 0 ≤ x) (h1 : x < 2) : zr 2 e = (0, 9999) := (zsb_3010 (by omega) (by omega)).trans (by rw [show ((e - 3010) % 60).toNat = 20 from by omega]; rfl)
theorem zs_3010_21 {e x : Int} (h : e = 3031 + 60 * x) (h0 : 0 ≤ x) (h1 : x < 2) : zr 2 e = (0, 47) := (zsb_3010 (by omega) (by omega)).trans (by rw [show ((e - 3010) % 60).toNat = 21 from by omega]; rfl)
theorem zs_3010_22 {e x : Int} (h : e = 3032 + 60 * x) (h0 : 0 ≤ x) (h1 : x < 2) : zr 2 e = (0, 9999) := (zsb_3010 (by omega) (by omega)).trans (by rw [show ((e - 3010) % 60).toNat = 22 from by omega]; rfl)
theorem zs_3010_23 {e x : Int} (h : e = 3033 + 60 * x) (h0 : 0 ≤ x) (h1 : x < 2) : zr 2 e = (0, 9999) := (zsb_3010 (by omega) (by omega)).trans (by rw [show ((e - 3010) % 60).toNat = 23 from by omega]; rfl)
theorem zs_3010_24 {e x : Int} (h : e = 3034 + 60 * x) (h0 : 0 ≤ x) (h1 : x < 2) : zr 2 e = (0, 47) := (zsb_3010 (by omega) (by omega)).trans (by rw [show ((e - 3010) % 60).toNat = 24 from by omega]; rfl)
theorem zs_3010_25 {e x : Int} (h : e = 3035 + 60 * x) (h0 : 0 ≤ x) (h1 : x < 2) : zr 2 e = (0, 9999) := (zsb_3010 (by omega) (by omega)).trans (by rw [show ((e - 3010) % 60).toNat = 25 from by omega]; rfl)
theorem zs_3010_26 {e x : Int} (h : e = 3036 + 60 * x) (h0 : 0 ≤ x) (h1 : x < 2) : zr 2 e = (0, 9999) := (zsb_3010 (by omega) (by omega)).trans (by rw [show ((e - 3010) % 60).toNat = 26 from by omega]; rfl)
theorem zs_3010_27 {e x : Int} (h : e = 3037 + 60 * x) (h0 : 0 ≤ x) (h1 : x < 2) : zr 2 e = (0, 47) := (zsb_3010 (by omega) (by omega)).trans (by rw [show ((e - 3010) % 60).toNat = 27 from by omega]; rfl)
theorem zs_3010_28 {e x : Int} (h : e = 3038 + 60 * x) (h0 : 0 ≤ x) (h1 : x < 2) : zr 2 e = (0, 9999) := (zsb_3010 (by omega) (by omega)).trans (by rw [show ((e - 3010) % 60).toNat = 28 from by omega]; rfl)
theorem zs_3010_29 {e x : Int} (h : e = 3039 + 60 * x) (h0 : 0 ≤ x) (h1 : x < 2) : zr 2 e = (0, 9999) := (zsb_3010 (by omega) (by omega)).trans (by rw [show ((e - 3010) % 60).toNat = 29 from by omega]; rfl)
theorem zs_3010_30 {e x : Int} (h : e = 3040 + 60 * x) (h0 : 0 ≤ x) (h1 : x < 2) : zr 2 e = (0, 47) := (zsb_3010 (by omega) (by omega)).trans (by rw [show ((e - 3010) % 60).toNat = 30 from by omega]; rfl)
theorem zs_3010_31 {e x : Int} (h : e = 3041 + 60 * x) (h0 : 0 ≤ x) (h1 : x < 2) : zr 2 e = (0, 9999) := (zsb_3010 (by omega) (by omega)).trans (by rw [show ((e - 3010) % 60).toNat = 31 from by omega]; rfl)
theorem zs_3010_32 {e x : Int} (h : e = 3042 + 60 * x) (h0 : 0 ≤ x) (h1 : x < 2) : zr 2 e = (0, 9999) := (zsb_3010 (by omega) (by omega)).trans (by rw [show ((e - 3010) % 60).toNat = 32 from by omega]; rfl)
theorem zs_3010_33 {e x : Int} (h : e = 3043 + 60 * x) (h0 : 0 ≤ x) (h1 : x < 2) : zr 2 e = (0, 47) := (zsb_3010 (by omega) (by omega)).trans (by rw [show ((e - 3010) % 60).toNat = 33 from by omega]; rfl)
theorem zs_3010_34 {e x : Int} (h : e = 3044 + 60 * x) (h0 : 0 ≤ x) (h1 : x < 2) : zr 2 e = (0, 9999) := (zsb_3010 (by omega) (by omega)).trans (by rw [show ((e - 3010) % 60).toNat = 34 from by omega]; rfl)
theorem zs_3010_35 {e x : Int} (h : e = 3045 + 60 * x) (h0 : 0 ≤ x) (h1 : x < 2) : zr 2 e = (0, 9999) := (zsb_3010 (by omega) (by omega)).trans (by rw [show ((e - 3010) % 60).toNat = 35 from by omega]; rfl)
theorem zs_3010_36 {e x : Int} (h : e = 3046 + 60 * x) (h0 : 0 ≤ x) (h1 : x < 2) : zr 2 e = (0, 47) := (zsb_3010 (by omega) (by omega)).trans (by rw [show ((e - 3010) % 60).toNat = 36 from by omega]; rfl)
theorem zs_3010_37 {e x : Int} (h : e = 3047 + 60 * x) (h0 : 0 ≤ x) (h1 : x < 2) : zr 2 e = (0, 9999) := (zsb_3010 (by omega) (by omega)).trans (by rw [show ((e - 3010) % 60).toNat = 37 from by omega]; rfl)
theorem zs_3010_38 {e x : Int} (h : e = 3048 + 60 * x) (h0 : 0 ≤ x) (h1 : x < 2) : zr 2 e = (0, 9999) := (zsb_3010 (by omega) (by omega)).trans (by rw [show ((e - 3010) % 60).toNat = 38 from by omega]; rfl)
theorem zs_3010_39 {e x : Int} (h : e = 3049 + 60 * x) (h0 : 0 ≤ x) (h1 : x < 2) : zr 2 e = (0, 47) := (zsb_3010 (by omega) (by omega)).trans (by rw [show ((e - 3010) % 60).toNat = 39 from by omega]; rfl)
theorem zs_3010_40 {e x : Int} (h : e = 3050 + 60 * x) (h0 : 0 ≤ x) (h1 : x < 2) : zr 2 e = (0, 9999) := (zsb_3010 (by omega) (by omega)).trans (by rw [show ((e - 3010) % 60).toNat = 40 from by omega]; rfl)
theorem zs_3010_41 {e x : Int} (h : e = 3051 + 60 * x) (h0 : 0 ≤ x) (h1 : x < 2) : zr 2 e = (0, 9999) := (zsb_3010 (by omega) (by omega)).trans (by rw [show ((e - 3010) % 60).toNat = 41 from by omega]; rfl)
theorem zs_3010_42 {e x : Int} (h : e = 3052 + 60 * x) (h0 : 0 ≤ x) (h1 : x < 2) : zr 2 e = (0, 47) := (zsb_3010 (by omega) (by omega)).trans (by rw [show ((e - 3010) % 60).toNat = 42 from by omega]; rfl)
theorem zs_3010_43 {e x : Int} (h : e = 3053 + 60 * x) (h0 : 0 ≤ x) (h1 : x < 2) : zr 2 e = (0, 9999) := (zsb_3010 (by omega) (by omega)).trans (by rw [show ((e - 3010) % 60).toNat = 43 from by omega]; rfl)
theorem zs_3010_44 {e x : Int} (h : e = 3054 + 60 * x) (h0 : 0 ≤ x) (h1 : x < 2) : zr 2 e = (0, 9999) := (zsb_3010 (by omega) (by omega)).trans (by rw [show ((e - 3010) % 60).toNat = 44 from by omega]; rfl)
theorem zs_3010_45 {e x : Int} (h : e = 3055 + 60 * x) (h0 : 0 ≤ x) (h1 : x < 2) : zr 2 e = (0, 47) := (zsb_3010 (by omega) (by omega)).trans (by rw [show ((e - 3010) % 60).toNat = 45 from by omega]; rfl)
theorem zs_3010_46 {e x : Int} (h : e = 3056 + 60 * x) (h0 : 0 ≤ x) (h1 : x < 2) : zr 2 e = (0, 9999) := (zsb_3010 (by omega) (by omega)).trans (by rw [show ((e - 3010) % 60).toNat = 46 from by omega]; rfl)
theorem zs_3010_47 {e x : Int} (h : e = 3057 + 60 * x) (h0 : 0 ≤ x) (h1 : x < 2) : zr 2 e = (0, 9999) := (zsb_3010 (by omega) (by omega)).trans (by rw [show ((e - 3010) % 60).toNat = 47 from by omega]; rfl)
theorem zs_3010_48 {e x : Int} (h : e = 3058 + 60 * x) (h0 : 0 ≤ x) (h1 : x < 2) : zr 2 e = (0, 47) := (zsb_3010 (by omega) (by omega)).trans (by rw [show ((e - 3010) % 60).toNat = 48 from by omega]; rfl)
theorem zs_3010_49 {e x : Int} (h : e = 3059 + 60 * x) (h0 : 0 ≤ x) (h1 : x < 2) : zr 2 e = (0, 9999) := (zsb_3010 (by omega) (by omega)).trans (by rw [show ((e - 3010) % 60).toNat = 49 from by omega]; rfl)
theorem zs_3010_50 {e x : Int} (h : e = 3060 + 60 * x) (h0 : 0 ≤ x) (h1 : x < 2) : zr 2 e = (0, 9999) := (zsb_3010 (by omega) (by omega)).trans (by rw [show ((e - 3010) % 60).toNat = 50 from by omega]; rfl)
theorem zs_3010_51 {e x : Int} (h : e = 3061 + 60 * x) (h0 : 0 ≤ x) (h1 : x < 2) : zr 2 e = (0, 47) := (zsb_3010 (by omega) (by omega)).trans (by rw [show ((e - 3010) % 60).toNat = 51 from by omega]; rfl)
theorem zs_3010_52 {e x : Int} (h : e = 3062 + 60 * x) (h0 : 0 ≤ x) (h1 : x < 2) : zr 2 e = (0, 9999) := (zsb_3010 (by omega) (by omega)).trans (by rw [show ((e - 3010) % 60).toNat = 52 from by omega]; rfl)
theorem zs_3010_53 {e x : Int} (h : e = 3063 + 60 * x) (h0 : 0 ≤ x) (h1 : x < 2) : zr 2 e = (0, 9999) := (zsb_3010 (by omega) (by omega)).trans (by rw [show ((e - 3010) % 60).toNat = 53 from by omega]; rfl)
theorem zs_3010_54 {e x : Int} (h : e = 3064 + 60 * x) (h0 : 0 ≤ x) (h1 : x < 2) : zr 2 e = (0, 47) := (zsb_3010 (by omega) (by omega)).trans (by rw [show ((e - 3010) % 60).toNat = 54 from by omega]; rfl)
theorem zs_3010_55 {e x : Int} (h : e = 3065 + 60 * x) (h0 : 0 ≤ x) (h1 : x < 2) : zr 2 e = (0, 9999) := (zsb_3010 (by omega) (by omega)).trans (by rw [show ((e - 3010) % 60).toNat = 55 from by omega]; rfl)
theorem zs_3010_56 {e x : Int} (h : e = 3066 + 60 * x) (h0 : 0 ≤ x) (h1 : x < 2) : zr 2 e = (0, 9999) := (zsb_3010 (by omega) (by omega)).trans (by rw [show ((e - 3010) % 60).toNat = 56 from by omega]; rfl)
theorem zs_3010_57 {e x : Int} (h : e = 3067 + 60 * x) (h0 : 0 ≤ x) (h1 : x < 2) : zr 2 e = (0, 47) := (zsb_3010 (by omega) (by omega)).trans (by rw [show ((e - 3010) % 60).toNat = 57 from by omega]; rfl)
theorem zs_3010_58 {e x : Int} (h : e = 3068 + 60 * x) (h0 : 0 ≤ x) (h1 : x < 2) : zr 2 e = (0, 9999) := (zsb_3010 (by omega) (by omega)).trans (by rw [show ((e - 3010) % 60).toNat = 58 from by omega]; rfl)
theorem zs_3010_59 {e x : Int} (h : e = 3069 + 60 * x) (h0 : 0 ≤ x) (h1 : x < 2) : zr 2 e = (0, 9999) := (zsb_3010 (by omega) (by omega)).trans (by rw [show ((e - 3010) % 60).toNat = 59 from by omega]; rfl)
theorem zs_3210 {e : Int} (h0 : 3210 ≤ e) (h1 : e < 3246) : zr 2 e = (0, 12) := by
  show zr2 e = _
  unfold zr2
  rw [if_neg (by omega), if_neg (by omega), if_neg (by omega), if_neg (by omega), if_neg (by omega), if_neg (by omega), if_neg (by omega), if_neg (by omega), if_neg (by omega), if_neg (by omega), if_neg (by omega), if_neg (by omega), if_neg (by omega), if_neg (by omega), if_neg (by omega), if_neg (by omega), if_neg (by omega), if_neg (by omega), if_neg (by omega), if_neg (by omega), if_neg (by omega), if_neg (by omega), if_neg (by omega), if_neg (by omega), if_neg (by omega), if_neg (by omega), if_neg (by omega), if_neg (by omega), if_neg (by omega), if_neg (by omega), if_neg (by omega), if_neg (by omega), if_neg (by omega), if_neg (by omega), if_neg (by omega), if_neg (by omega), if_neg (by omega), if_neg (by omega), if_neg (by omega), if_neg (by omega), if_neg (by omega), if_neg (by omega), if_neg (by omega), if_neg (by omega), if_neg (by omega), if_pos (by omega)]
theorem zsb_3250 {e : Int} (h0 : 3250 ≤ e) (h1 : e < 3346) : zr 2 e = zrt_3250.getD ((e - 3250) % 24).toNat z_F := by
  show zr2 e = _
  unfold zr2
  rw [if_neg (by omega), if_neg (by omega), if_neg (by omega), if_neg (by omega), if_neg (by omega), if_neg (by omega), if_neg (by omega), if_neg (by omega), if_neg (by omega), if_neg (by omega), if_neg (by omega), if_neg (by omega), if_neg (by omega), if_neg (by omega), if_neg (by omega), if_neg (by omega), if_neg (by omega), if_neg (by omega), if_neg (by omega), if_neg (by omega), if_neg (by omega), if_neg (by omega), if_neg (by omega), if_neg (by omega), if_neg (by omega), if_neg (by omega), if_neg (by omega), if_neg (by omega), if_neg (by omega), if_neg (by omega), if_neg (by omega), if_neg (by omega), if_neg (by omega), if_neg (by omega), if_neg (by omega), if_neg (by omega), if_neg (by omega), if_neg (by omega), if_neg (by omega), if_neg (by omega), if_neg (by omega), if_neg (by omega), if_neg (by omega), if_neg (by omega), if_neg (by omega), if_neg (by omega), if_neg (by omega), if_pos (by omega)]
theorem zs_3250_0 {e x : Int} (h : e = 3250 + 24 * x) (h0 : 0 ≤ x) (h1 : x < 4) : zr 2 e = (0, 99) := (zsb_3250 (by omega) (by omega)).trans (by rw [show ((e - 3250) % 24).toNat = 0 from by omega]; rfl)
theorem zs_3250_1 {e x : Int} (h : e = 3251 + 24 * x) (h0 : 0 ≤ x) (h1 : x < 4) : zr 2 e = (0, 40) := (zsb_3250 (by omega) (by omega)).trans (by rw [show ((e - 3250) % 24).toNat = 1 from by omega]; rfl)
theorem zs_3250_2 {e x : Int} (h : e = 3252 + 24 * x) (h0 : 0 ≤ x) (h1 : x < 4) : zr 2 e = (0, 1) := (zsb_3250 (by omega) (by omega)).trans (by rw [show ((e - 3250) % 24).toNat = 2 from by omega]; rfl)
theorem zs_3250_3 {e x : Int} (h : e = 3253 + 24 * x) (h0 : 0 ≤ x) (h1 : x < 4) : zr 2 e = (-1, 671) := (zsb_3250 (by omega) (by omega)).trans (by rw [show ((e - 3250) % 24).toNat = 3 from by omega]; rfl)
theorem zs_3250_4 {e x : Int} (h : e = 3254 + 24 * x) (h0 : 0 ≤ x) (h1 : x < 4) : zr 2 e = (-1, 671) := (zsb_3250 (by omega) (by omega)).trans (by rw [show ((e - 3250) % 24).toNat = 4 from by omega]; rfl)
theorem zs_3250_5 {e x : Int} (h : e = 3255 + 24 * x) (h0 : 0 ≤ x) (h1 : x < 4) : zr 2 e = (-2147483648, 2147483647) := (zsb_3250 (by omega) (by omega)).trans (by rw [show ((e - 3250) % 24).toNat = 5 from by omega]; rfl)
theorem zs_3250_6 {e x : Int} (h : e = 3256 + 24 * x) (h0 : 0 ≤ x) (h1 : x < 4) : zr 2 e = (-2147483648, 2147483647) := (zsb_3250 (by omega) (by omega)).trans (by rw [show ((e - 3250) % 24).toNat = 6 from by omega]; rfl)
theorem zs_3250_7 {e x : Int} (h : e = 3257 + 24 * x) (h0 : 0 ≤ x) (h1 : x < 4) : zr 2 e = (-2147483648, 2147483647) := (zsb_3250 (by omega) (by omega)).trans (by rw [show ((e - 3250) % 24).toNat = 7 from by omega]; rfl)
theorem zs_3250_8 {e x : Int} (h : e = 3258 + 24 * x) (h0 : 0 ≤ x) (h1 : x < 4) : zr 2 e = (0, 5) := (zsb_3250 (by omega) (by omega)).trans (by rw [show ((e - 3250) % 24).toNat = 8 from by omega]; rfl)
theorem zs_3250_9 {e x : Int} (h : e = 3259 + 24 * x) (h0 : 0 ≤ x) (h1 : x < 4) : zr 2 e = (0, 4) := (zsb_3250 (by omega) (by omega)).trans (by rw [show ((e - 3250) % 24).toNat = 9 from by omega]; rfl)
theorem zs_3250_10 {e x : Int} (h : e = 3260 + 24 * x) (h0 : 0 ≤ x) (h1 : x < 4) : zr 2 e = (0, 4) := (zsb_3250 (by omega) (by omega)).trans (by rw [show ((e - 3250) % 24).toNat = 10 from by omega]; rfl)
theorem zs_3250_11 {e x : Int} (h : e = 3261 + 24 * x) (h0 : 0 ≤ x) (h1 : x < 4) : zr 2 e = (0, 4) := (zsb_3250 (by omega) (by omega)).trans (by rw [show ((e - 3250) % 24).toNat = 11 from by omega]; rfl)
theorem zs_3250_12 {e x : Int} (h : e = 3262 + 24 * x) (h0 : 0 ≤ x) (h1 : x < 4) : zr 2 e = (0, 4) := (zsb_3250 (by omega) (by omega)).trans (by rw [show ((e - 3250) % 24).toNat = 12 from by omega]; rfl)
theorem zs_3250_13 {e x : Int} (h : e = 3263 + 24 * x) (h0 : 0 ≤ x) (h1 : x < 4) : zr 2 e = (0, 4) := (zsb_3250 (by omega) (by omega)).trans (by rw [show ((e - 3250) % 24).toNat = 13 from by omega]; rfl)
theorem zs_3250_14 {e x : Int} (h : e = 3264 + 24 * x) (h0 : 0 ≤ x) (h1 : x < 4) : zr 2 e = (0, 743) := (zsb_3250 (by omega) (by omega)).trans (by rw [show ((e - 3250) % 24).toNat = 14 from by omega]; rfl)
theorem zs_3250_15 {e x : Int} (h : e = 3265 + 24 * x) (h0 : 0 ≤ x) (h1 : x < 4) : zr 2 e = (0, 743) := (zsb_3250 (by omega) (by omega)).trans (by rw [show ((e - 3250) % 24).toNat = 15 from by omega]; rfl)
theorem zs_3250_16 {e x : Int} (h : e = 3266 + 24 * x) (h0 : 0 ≤ x) (h1 : x < 4) : zr 2 e = (0, 743) := (zsb_3250 (by omega) (by omega)).trans (by rw [show ((e - 3250) % 24).toNat = 16 from by omega]; rfl)
theorem zs_3250_17 {e x : Int} (h : e = 3267 + 24 * x) (h0 : 0 ≤ x) (h1 : x < 4) : zr 2 e = (0, 743) := (zsb_3250 (by omega) (by omega)).trans (by rw [show ((e - 3250) % 24).toNat = 17 from by omega]; rfl)
theorem zs_3250_18 {e x : Int} (h : e = 3268 + 24 * x) (h0 : 0 ≤ x) (h1 : x < 4) : zr 2 e = (0, 743) := (zsb_3250 (by omega) (by omega)).trans (by rw [show ((e - 3250) % 24).toNat = 18 from by omega]; rfl)
theorem zs_3250_19 {e x : Int} (h : e = 3269 + 24 * x) (h0 : 0 ≤ x) (h1 : x < 4) : zr 2 e = (0, 743) := (zsb_3250 (by omega) (by omega)).trans (by rw [show ((e - 3250) % 24).toNat = 19 from by omega]; rfl)
theorem zs_3250_20 {e x : Int} (h : e = 3270 + 24 * x) (h0 : 0 ≤ x) (h1 : x < 4) : zr 2 e = (-2147483648, 2147483647) := (zsb_3250 (by omega) (by omega)).trans (by rw [show ((e - 3250) % 24).toNat = 20 from by omega]; rfl)
theorem zs_3250_21 {e x : Int} (h : e = 3271 + 24 * x) (h0 : 0 ≤ x) (h1 : x < 4) : zr 2 e = (-2147483648, 2147483647) := (zsb_3250 (by omega) (by omega)).trans (by rw [show ((e - 3250) % 24).toNat = 21 from by omega]; rfl)
theorem zs_3250_22 {e x : Int} (h : e = 3272 + 24 * x) (h0 : 0 ≤ x) (h1 : x < 4) : zr 2 e = (-2147483648, 2147483647) := (zsb_3250 (by omega) (by omega)).trans (by rw [show ((e - 3250) % 24).toNat = 22 from by omega]; rfl)
theorem zs_3250_23 {e x : Int} (h : e = 3273 + 24 * x) (h0 : 0 ≤ x) (h1 : x < 4) : zr 2 e = (-2147483648, 2147483647) := (zsb_3250 (by omega) (by omega)).trans (by rw [show ((e - 3250) % 24).toNat = 23 from by omega]; rfl)
theorem zs_3509 {e : Int} (h0 : 3509 ≤ e) (h1 : e < 3519) : zr 2 e = (0, 695) := by
  show zr2 e = _
  unfold zr2
  rw [if_neg (by omega), if_neg (by omega), if_neg (by omega), if_neg (by omega), if_neg (by omega), if_neg (by omega), if_neg (by omega), if_neg (by omega), if_neg (by omega), if_neg (by omega), if_neg (by omega), if_neg (by omega), if_neg (by omega), if_neg (by omega), if_neg (by omega), if_neg (by omega), if_neg (by omega), if_neg (by omega), if_neg (by omega), if_neg (by omega), if_neg (by omega), if_neg (by omega), if_neg (by omega), if_neg (by omega), if_neg (by omega), if_neg (by omega), if_neg (by omega), if_neg (by omega), if_neg (by omega), if_neg (by omega), if_neg (by omega), if_neg (by omega), if_neg (by omega), if_neg (by omega), if_neg (by omega), if_neg (by omega), if_neg (by omega), if_neg (by omega), if_neg (by omega), if_neg (by omega), if_neg (by omega), if_neg (by omega), if_neg (by omega), if_neg (by omega), if_neg (by omega), if_neg (by omega), if_neg (by omega), if_neg (by omega), if_neg (by omega), if_neg (by omega), if_neg (by omega), if_neg (by omega), if_neg (by omega), if_pos (by omega)]
theorem zsb_3520 {e : Int} (h0 : 3520 ≤ e) (h1 : e < 3540) : zr 2 e = zrt_3520.getD ((e - 3520) % 10).toNat z_F := by
  show zr2 e = _
  unfold zr2
  rw [if_neg (by omega), if_neg (by omega), if_neg (by omega), if_neg (by omega), if_neg (by omega), if_neg (by omega), if_neg (by omega), if_neg (by omega), if_neg (by omega), if_neg (by omega), if_neg (by omega), if_neg (by omega), if_neg (by omega), if_neg (by omega), if_neg (by omega), if_neg (by omega), if_neg (by omega), if_neg (by omega), if_neg (by omega), if_neg (by omega), if_neg (by omega), if_neg (by omega), if_neg (by omega), if_neg (by omega), if_neg (by omega), if_neg (by omega), if_neg (by omega), if_neg (by omega), if_neg (by omega), if_neg (by omega), if_neg (by omega), if_neg (by omega), if_neg (by omega), if_neg (by omega), if_neg (by omega), if_neg (by omega), if_neg (by omega), if_neg (by omega), if_neg (by omega), if_neg (by omega), if_neg (by omega), if_neg (by omega), if_neg (by omega), if_neg (by omega), if_neg (by omega), if_neg (by omega), if_neg (by omega), if_neg (by omega), if_neg (by omega), if_neg (by omega), if_neg (by omega), if_neg (by omega), if_neg (by omega), if_neg (by omega), if_neg (by omega), if_pos (by omega)]
theorem zs_3520_0 {e x : Int} (h : e = 3520 + 10 * x) (h0 : 0 ≤ x) (h1 : x < 2) : zr 2 e = (0, 18) := (zsb_3520 (by omega) (by omega)).trans (by rw [show ((e - 3520) % 10).toNat = 0 from by omega]; rfl)
theorem zs_3520_1 {e x : Int} (h : e = 3521 + 10 * x) (h0 : 0 ≤ x) (h1 : x < 2) : zr 2 e = (0, 3) := (zsb_3520 (by omega) (by omega)).trans (by rw [show ((e - 3520) % 10).toNat = 1 from by omega]; rfl)
theorem zs_3520_2 {e x : Int} (h : e = 3522 + 10 * x) (h0 : 0 ≤ x) (h1 : x < 2) : zr 2 e = (0, 127) := (zsb_3520 (by omega) (by omega)).trans (by rw [show ((e - 3520) % 10).toNat = 2 from by omega]; rfl)
theorem zs_3520_3 {e x : Int} (h : e = 3523 + 10 * x) (h0 : 0 ≤ x) (h1 : x < 2) : zr 2 e = (0, 2147483647) := (zsb_3520 (by omega) (by omega)).trans (by rw [show ((e - 3520) % 10).toNat = 3 from by omega]; rfl)
theorem zs_3520_4 {e x : Int} (h : e = 3524 + 10 * x) (h0 : 0 ≤ x) (h1 : x < 2) : zr 2 e = (-2147483648, 2147483647) := (zsb_3520 (by omega) (by omega)).trans (by rw [show ((e - 3520) % 10).toNat = 4 from by omega]; rfl)
theorem zs_3520_5 {e x : Int} (h : e = 3525 + 10 * x) (h0 : 0 ≤ x) (h1 : x < 2) : zr 2 e = (-2147483648, 2147483647) := (zsb_3520 (by omega) (by omega)).trans (by rw [show ((e - 3520) % 10).toNat = 5 from by omega]; rfl)
theorem zs_3520_6 {e x : Int} (h : e = 3526 + 10 * x) (h0 : 0 ≤ x) (h1 : x < 2) : zr 2 e = (-2147483648, 2147483647) := (zsb_3520 (by omega) (by omega)).trans (by rw [show ((e - 3520) % 10).toNat = 6 from by omega]; rfl)
theorem zs_3520_7 {e x : Int} (h : e = 3527 + 10 * x) (h0 : 0 ≤ x) (h1 : x < 2) : zr 2 e = (-1, 671) := (zsb_3520 (by omega) (by omega)).trans (by rw [show ((e - 3520) % 10).toNat = 7 from by omega]; rfl)
theorem zs_3520_8 {e x : Int} (h : e = 3528 + 10 * x) (h0 : 0 ≤ x) (h1 : x < 2) : zr 2 e = (-2147483648, 2147483647) := (zsb_3520 (by omega) (by omega)).trans (by rw [show ((e - 3520) % 10).toNat = 8 from by omega]; rfl)
theorem zs_3520_9 {e x : Int} (h : e = 3529 + 10 * x) (h0 : 0 ≤ x) (h1 : x < 2) : zr 2 e = (-2147483648, 2147483647) := (zsb_3520 (by omega) (by omega)).trans (by rw [show ((e - 3520) % 10).toNat = 9 from by omega]; rfl)
theorem zsb_3560 {e : Int} (h0 : 3560 ≤ e) (h1 : e < 3704) : zr 2 e = zrt_3560.getD ((e - 3560) % 6).toNat z_F := by
  show zr2 e = _
  unfold zr2
  rw [if_neg (by omega), if_neg (by omega), if_neg (by omega), if_neg (by omega), if_neg (by omega), if_neg (by omega), if_neg (by omega), if_neg (by omega), if_neg (by omega), if_neg (by omega), if_neg (by omega), if_neg (by omega), if_neg (by omega), if_neg (by omega), if_neg (by omega), if_neg (by omega), if_neg (by omega), if_neg (by omega), if_neg (by omega), if_neg (by omega), if_neg (by omega), if_neg (by omega), if_neg (by omega), if_neg (by omega), if_neg (by omega), if_neg (by omega), if_neg (by omega), if_neg (by omega), if_neg (by omega), if_neg (by omega), if_neg (by omega), if_neg (by omega), if_neg (by omega), if_neg (by omega), if_neg (by omega), if_neg (by omega), if_neg (by omega), if_neg (by omega), if_neg (by omega), if_neg (by omega), if_neg (by omega), if_neg (by omega), if_neg (by omega), if_neg (by omega), if_neg (by omega), if_neg (by omega), if_neg (by omega), if_neg (by omega), if_neg (by omega), if_neg (by omega), if_neg (by omega), if_neg (by omega), if_neg (by omega), if_neg (by omega), if_neg (by omega), if_neg (by omega), if_neg (by omega), if_pos (by omega)]
theorem zs_3560_0 {e x : Int} (h : e = 3560 + 6 * x) (h0 : 0 ≤ x) (h1 : x < 24) : zr 2 e = (0, 1) := (zsb_3560 (by omega) (by omega)).trans (by rw [show ((e - 3560) % 6).toNat = 0 from by omega]; rfl)
theorem zs_3560_1 {e x : Int} (h : e = 3561 + 6 * x) (h0 : 0 ≤ x) (h1 : x < 24) : zr 2 e = (0, 671) := (zsb_3560 (by omega) (by omega)).trans (by rw [show ((e - 3560) % 6).toNat = 1 from by omega]; rfl)
theorem zs_3560_2 {e x : Int} (h : e = 3562 + 6 * x) (h0 : 0 ≤ x) (h1 : x < 24) : zr 2 e = (0, 47) := (zsb_3560 (by omega) (by omega)).trans (by rw [show ((e - 3560) % 6).toNat = 2 from by omega]; rfl)
theorem zs_3560_3 {e x : Int} (h : e = 3563 + 6 * x) (h0 : 0 ≤ x) (h1 : x < 24) : zr 2 e = (0, 2) := (zsb_3560 (by omega) (by omega)).trans (by rw [show ((e - 3560) % 6).toNat = 3 from by omega]; rfl)
theorem zs_3560_4 {e x : Int} (h : e = 3564 + 6 * x) (h0 : 0 ≤ x) (h1 : x < 24) : zr 2 e = (0, 9) := (zsb_3560 (by omega) (by omega)).trans (by rw [show ((e - 3560) % 6).toNat = 4 from by omega]; rfl)
theorem zs_3560_5 {e x : Int} (h : e = 3565 + 6 * x) (h0 : 0 ≤ x) (h1 : x < 24) : zr 2 e = (-1, 3) := (zsb_3560 (by omega) (by omega)).trans (by rw [show ((e - 3560) % 6).toNat = 5 from by omega]; rfl)
theorem zs_3800 {e : Int} (h0 : 3800 ≤ e) (h1 : e < 3810) : zr 2 e = (-2147483648, 2147483647) := by
  show zr2 e = _
  unfold zr2
  rw [if_neg (by omega), if_neg (by omega), if_neg (by omega), if_neg (by omega), if_neg (by omega), if_neg (by omega), if_neg (by omega), if_neg (by omega), if_neg (by omega), if_neg (by omega), if_neg (by omega), if_neg (by omega), if_neg (by omega), if_neg (by omega), if_neg (by omega), if_neg (by omega), if_neg (by omega), if_neg (by omega), if_neg (by omega), if_neg (by omega), if_neg (by omega), if_neg (by omega), if_neg (by omega), if_neg (by omega), if_neg (by omega), if_neg (by omega), if_neg (by omega), if_neg (by omega), if_neg (by omega), if_neg (by omega), if_neg (by omega), if_neg (by omega), if_neg (by omega), if_neg (by omega), if_neg (by omega), if_neg (by omega), if_neg (by omega), if_neg (by omega), if_neg (by omega), if_neg (by omega), if_neg (by omega), if_neg (by omega), if_neg (by omega), if_neg (by omega), if_neg (by omega), if_neg (by omega), if_neg (by omega), if_neg (by omega), if_neg (by omega), if_neg (by omega), if_neg (by omega), if_neg (by omega), if_neg (by omega), if_neg (by omega), if_neg (by omega), if_neg (by omega), if_neg (by omega), if_neg (by omega), if_neg (by omega), if_pos (by omega)]
theorem zs_3810 {e : Int} (h0 : 3810 ≤ e) (h1 : e < 3814) : zr 2 e = (0, 99999) := by
  show zr2 e = _
  unfold zr2
  rw [if_neg (by omega), if_neg (by omega), if_neg (by omega), if_neg (by omega), if_neg (by omega), if_neg (by omega), if_neg (by omega), if_neg (by omega), if_neg (by omega), if_neg (by omega), if_neg (by omega), if_neg (by omega), if_neg (by omega), if_neg (by omega), if_neg (by omega), if_neg (by omega), if_neg (by omega), if_neg (by omega), if_neg (by omega), if_neg (by omega), if_neg (by omega), if_neg (by omega), if_neg (by omega), if_neg (by omega), if_neg (by omega), if_neg (by omega), if_neg (by omega), if_neg (by omega), if_neg (by omega), if_neg (by omega), if_neg (by omega), if_neg (by omega), if_neg (by omega), if_neg (by omega), if_neg (by omega), if_neg (by omega), if_neg (by omega), if_neg (by omega), if_neg (by omega), if_neg (by omega), if_neg (by omega), if_neg (by omega), if_neg (by omega), if_neg (by omega), if_neg (by omega), if_neg (by omega), if_neg (by omega), if_neg (by omega), if_neg (by omega), if_neg (by omega), if_neg (by omega), if_neg (by omega), if_neg (by omega), if_neg (by omega), if_neg (by omega), if_neg (by omega), if_neg (by omega), if_neg (by omega), if_neg (by omega), if_neg (by omega), if_neg (by omega), if_pos (by omega)]
theorem zsb_3820 {e : Int} (h0 : 3820 ≤ e) (h1 : e < 3850) : zr 2 e = zrt_3820.getD ((e - 3820) % 5).toNat z_F := by
  show zr2 e = _
  unfold zr2
  rw [if_neg (by omega), if_neg (by omega), if_neg (by omega), if_neg (by omega), if_neg (by omega), if_neg (by omega), if_neg (by omega), if_neg (by omega), if_neg (by omega), if_neg (by omega), if_neg (by omega), if_neg (by omega), if_neg (by omega), if_neg (by omega), if_neg (by omega), if_neg (by omega), if_neg (by omega), if_neg (by omega), if_neg (by omega), if_neg (by omega), if_neg (by omega), if_neg (by omega), if_neg (by omega), if_neg (by omega), if_neg (by omega), if_neg (by omega), if_neg (by omega), if_neg (by omega), if_neg (by omega), if_neg (by omega), if_neg (by omega), if_neg (by omega), if_neg (by omega), if_neg (by omega), if_neg (by omega), if_neg (by omega), if_neg (by omega), if_neg (by omega), if_neg (by omega), if_neg (by omega), if_neg (by omega), if_neg (by omega), if_neg (by omega), if_neg (by omega), if_neg (by omega), if_neg (by omega), if_neg (by omega), if_neg (by omega), if_neg (by omega), if_neg (by omega), if_neg (by omega), if_neg (by omega), if_neg (by omega), if_neg (by omega), if_neg (by omega), if_neg (by omega), if_neg (by omega), if_neg (by omega), if_neg (by omega), if_neg (by omega), if_neg (by omega), if_neg (by omega), if_neg (by omega), if_neg (by omega), if_neg (by omega), if_neg (by omega), if_neg (by omega), if_pos (by omega)]
theorem zs_3820_0 {e x : Int} (h : e = 3820 + 5 * x) (h0 : 0 ≤ x) (h1 : x < 6) : zr 2 e = (-2147483648, 2147483647) := (zsb_3820 (by omega) (by omega)).trans (by rw [show ((e - 3820) % 5).toNat = 0 from by omega]; rfl)
theorem zs_3820_1 {e x : Int} (h : e = 3821 + 5 * x) (h0 : 0 ≤ x) (h1 : x < 6) : zr 2 e = (-2147483648, 2147483647) := (zsb_3820 (by omega) (by omega)).trans (by rw [show ((e - 3820) % 5).toNat = 1 from by omega]; rfl)
theorem zs_3820_2 {e x : Int} (h : e = 3822 + 5 * x) (h0 : 0 ≤ x) (h1 : x < 6) : zr 2 e = (-2147483648, 2147483647) := (zsb_3820 (by omega) (by omega)).trans (by rw [show ((e - 3820) % 5).toNat = 2 from by omega]; rfl)
theorem zs_3820_3 {e x : Int} (h : e = 3823 + 5 * x) (h0 : 0 ≤ x) (h1 : x < 6) : zr 2 e = (-2147483648, 2147483647) := (zsb_3820 (by omega) (by omega)).trans (by rw [show ((e - 3820) % 5).toNat = 3 from by omega]; rfl)
theorem zs_3820_4 {e x : Int} (h : e = 3824 + 5 * x) (h0 : 0 ≤ x) (h1 : x < 6) : zr 2 e = (-2147483648, 2147483647) := (zsb_3820 (by omega) (by omega)).trans (by rw [show ((e - 3820) % 5).toNat = 4 from by omega]; rfl)
theorem zsb_3850 {e : Int} (h0 : 3850 ≤ e) (h1 : e < 3946) : zr 2 e = zrt_3850.getD ((e - 3850) % 8).toNat z_F := by
  show zr2 e = _
  unfold zr2
  rw [if_neg (by omega), if_neg (by omega), if_neg (by omega), if_neg (by omega), if_neg (by omega), if_neg (by omega), if_neg (by omega), if_neg (by omega), if_neg (by omega), if_neg (by omega), if_neg (by omega), if_neg (by omega), if_neg (by omega), if_neg (by omega), if_neg (by omega), if_neg (by omega), if_neg (by omega), if_neg (by omega), if_neg (by omega), if_neg (by omega), if_neg (by omega), if_neg (by omega), if_neg (by omega), if_neg (by omega), if_neg (by omega), if_neg (by omega), if_neg (by omega), if_neg (by omega), if_neg (by omega), if_neg (by omega), if_neg (by omega), if_neg (by omega), if_neg (by omega), if_neg (by omega), if_neg (by omega), if_neg (by omega), if_neg (by omega), if_neg (by omega), if_neg (by omega), if_neg (by omega), if_neg (by omega), if_neg (by omega), if_neg (by omega), if_neg (by omega), if_neg (by omega), if_neg (by omega), if_neg (by omega), if_neg (by omega), if_neg (by omega), if_neg (by omega), if_neg (by omega), if_neg (by omega), if_neg (by omega), if_neg (by omega), if_neg (by omega), if_neg (by omega), if_neg (by omega), if_neg (by omega), if_neg (by omega), if_neg (by omega), if_neg (by omega), if_neg (by omega), if_neg (by omega), if_neg (by omega), if_neg (by omega), if_neg (by omega), if_neg (by omega), if_neg (by omega), if_neg (by omega), if_pos (by omega)]
theorem zs_3850_0 {e x : Int} (h : e = 3850 + 8 * x) (h0 : 0 ≤ x) (h1 : x < 12) : zr 2 e = (0, 59) := (zsb_3850 (by omega) (by omega)).trans (by rw [show ((e - 3850) % 8).toNat = 0 from by omega]; rfl)
theorem zs_3850_1 {e x : Int} (h : e = 3851 + 8 * x) (h0 : 0 ≤ x) (h1 : x < 12) : zr 2 e = (0, 3) := (zsb_3850 (by omega) (by omega)).trans (by rw [show ((e - 3850) % 8).toNat = 1 from by omega]; rfl)
theorem zs_3850_2 {e x : Int} (h : e = 3852 + 8 * x) (h0 : 0 ≤ x) (h1 : x < 12) : zr 2 e = (0, 2) := (zsb_3850 (by omega) (by omega)).trans (by rw [show ((e - 3850) % 8).toNat = 2 from by omega]; rfl)
theorem zs_3850_3 {e x : Int} (h : e = 3853 + 8 * x) (h0 : 0 ≤ x) (h1 : x < 12) : zr 2 e = (-2147483648, 2147483647) := (zsb_3850 (by omega) (by omega)).trans (by rw [show ((e - 3850) % 8).toNat = 3 from by omega]; rfl)
theorem zs_3850_4 {e x : Int} (h : e = 3854 + 8 * x) (h0 : 0 ≤ x) (h1 : x < 12) : zr 2 e = (-2147483648, 2147483647) := (zsb_3850 (by omega) (by omega)).trans (by rw [show ((e - 3850) % 8).toNat = 4 from by omega]; rfl)
theorem zs_3850_5 {e x : Int} (h : e = 3855 + 8 * x) (h0 : 0 ≤ x) (h1 : x < 12) : zr 2 e = (-2147483648, 2147483647) := (zsb_3850 (by omega) (by omega)).trans (by rw [show ((e - 3850) % 8).toNat = 5 from by omega]; rfl)
theorem zs_3850_6 {e x : Int} (h : e = 3856 + 8 * x) (h0 : 0 ≤ x) (h1 : x < 12) : zr 2 e = (-2147483648, 2147483647) := (zsb_3850 (by omega) (by omega)).trans (by rw [show ((e - 3850) % 8).toNat = 6 from by omega]; rfl)
theorem zs_3850_7 {e x : Int} (h : e = 3857 + 8 * x) (h0 : 0 ≤ x) (h1 : x < 12) : zr 2 e = (0, 671) := (zsb_3850 (by omega) (by omega)).trans (by rw [show ((e - 3850) % 8).toNat = 7 from by omega]; rfl)
theorem zsb_3950 {e : Int} (h0 : 3950 ≤ e) (h1 : e < 4250) : zr 2 e = zrt_3950.getD ((e - 3950) % 5).toNat z_F := by
  show zr2 e = _
  unfold zr2
  rw [if_neg (by omega), if_neg (by omega), if_neg (by omega), if_neg (by omega), if_neg (by omega), if_neg (by omega), if_neg (by omega), if_neg (by omega), if_neg (by omega), if_neg (by omega), if_neg (by omega), if_neg (by omega), if_neg (by omega), if_neg (by omega), if_neg (by omega), if_neg (by omega), if_neg (by omega), if_neg (by omega), if_neg (by omega), if_neg (by omega), if_neg (by omega), if_neg (by omega), if_neg (by omega), if_neg (by omega), if_neg (by omega), if_neg (by omega), if_neg (by omega), if_neg (by omega), if_neg (by omega), if_neg (by omega), if_neg (by omega), if_neg (by omega), if_neg (by omega), if_neg (by omega), if_neg (by omega), if_neg (by omega), if_neg (by omega), if_neg (by omega), if_neg (by omega), if_neg (by omega), if_neg (by omega), if_neg (by omega), if_neg (by omega), if_neg (by omega), if_neg (by omega), if_neg (by omega), if_neg (by omega), if_neg (by omega), if_neg (by omega), if_neg (by omega), if_neg (by omega), if_neg (by omega), if_neg (by omega), if_neg (by omega), if_neg (by omega), if_neg (by omega), if_neg (by omega), if_neg (by omega), if_neg (by omega), if_neg (by omega), if_neg (by omega), if_neg (by omega), if_neg (by omega), if_neg (by omega), if_neg (by omega), if_neg (by omega), if_neg (by omega), if_neg (by omega), if_neg (by omega), if_neg (by omega), if_neg (by omega), if_pos (by omega)]
theorem zs_3950_0 {e x : Int} (h : e = 3950 + 5 * x) (h0 : 0 ≤ x) (h1 : x < 60) : zr 2 e = (-2147483648, 2147483647) := (zsb_3950 (by omega) (by omega)).trans (by rw [show ((e - 3950) % 5).toNat = 0 from by omega]; rfl)
theorem zs_3950_1 {e x : Int} (h : e = 3951 + 5 * x) (h0 : 0 ≤ x) (h1 : x < 60) : zr 2 e = (-2147483648, 2147483647) := (zsb_3950 (by omega) (by omega)).trans (by rw [show ((e - 3950) % 5).toNat = 1 from by omega]; rfl)
theorem zs_3950_2 {e x : Int} (h : e = 3952 + 5 * x) (h0 : 0 ≤ x) (h1 : x < 60) : zr 2 e = (-2147483648, 2147483647) := (zsb_3950 (by omega) (by omega)).trans (by rw [show ((e - 3950) % 5).toNat = 2 from by omega]; rfl)
theorem zs_3950_3 {e x : Int} (h : e = 3953 + 5 * x) (h0 : 0 ≤ x) (h1 : x < 60) : zr 2 e = (-2147483648, 2147483647) := (zsb_3950 (by omega) (by omega)).trans (by rw [show ((e - 3950) % 5).toNat = 3 from by omega]; rfl)
theorem zs_3950_4 {e x : Int} (h : e = 3954 + 5 * x) (h0 : 0 ≤ x) (h1 : x < 60) : zr 2 e = (-2147483648, 2147483647) := (zsb_3950 (by omega) (by omega)).trans (by rw [show ((e - 3950) % 5).toNat = 4 from by omega]; rfl)
theorem zrc_12 {j : Int} (h0 : 0 ≤ j) (h1 : j < 28) : zr 12 j = (0, 40) := by
  have h : ∀ n < 28, zrk 12 n = (0, 40) := by decide +kernel
  exact h j.toNat (by omega)
theorem zrc_13 {j : Int} (h0 : 0 ≤ j) (h1 : j < 4) : zr 13 j = (0, 99999) := by
  have h : ∀ n < 4, zrk 13 n = (0, 99999) := by decide +kernel
  exact h j.toNat (by omega)
theorem zrc_14 {j : Int} (h0 : 0 ≤ j) (h1 : j < 10) : zr 14 j = (-2147483648, 2147483647) := by
  have h : ∀ n < 10, zrk 14 n = (-2147483648, 2147483647) := by decide +kernel
  exact h j.toNat (by omega)
theorem zrc_40 {j : Int} (h0 : 0 ≤ j) (h1 : j < 6) : zr 40 j = (0, 12) := by
  have h : ∀ n < 6, zrk 40 n = (0, 12) := by decide +kernel
  exact h j.toNat (by omega)
theorem zrc_53 {j : Int} (h0 : 0 ≤ j) (h1 : j < 5) : zr 53 j = (-2147483648, 2147483647) := by
  have h : ∀ n < 5, zrk 53 n = (-2147483648, 2147483647) := by decide +kernel
  exact h j.toNat (by omega)
theorem zs_lot_0 {e c pl : Int} (h : e = 3022 + 60 * c + 3 * pl) (h0 : 0 ≤ c) (h1 : c < 2) (h2 : 0 ≤ pl) (h3 : pl < 16) : zr 2 e = (0, 47) := (zsb_3010 (by omega) (by omega)).trans (by
  have hm : ((e - 3010) % 60).toNat = 12 + 3 * pl.toNat := by omega
  have hp : pl.toNat < 16 := by omega
  rw [hm]
  generalize pl.toNat = n at hp
  have : n = 0 ∨ n = 1 ∨ n = 2 ∨ n = 3 ∨ n = 4 ∨ n = 5 ∨ n = 6 ∨ n = 7 ∨ n = 8 ∨ n = 9 ∨ n = 10 ∨ n = 11 ∨ n = 12 ∨ n = 13 ∨ n = 14 ∨ n = 15 := by omega
  rcases this with rfl | rfl | rfl | rfl | rfl | rfl | rfl | rfl | rfl | rfl | rfl | rfl | rfl | rfl | rfl | rfl <;> rfl)
theorem zs_lot_1 {e c pl : Int} (h : e = 3023 + 60 * c + 3 * pl) (h0 : 0 ≤ c) (h1 : c < 2) (h2 : 0 ≤ pl) (h3 : pl < 16) : zr 2 e = (0, 9999) := (zsb_3010 (by omega) (by omega)).trans (by
  have hm : ((e - 3010) % 60).toNat = 13 + 3 * pl.toNat := by omega
  have hp : pl.toNat < 16 := by omega
  rw [hm]
  generalize pl.toNat = n at hp
  have : n = 0 ∨ n = 1 ∨ n = 2 ∨ n = 3 ∨ n = 4 ∨ n = 5 ∨ n = 6 ∨ n = 7 ∨ n = 8 ∨ n = 9 ∨ n = 10 ∨ n = 11 ∨ n = 12 ∨ n = 13 ∨ n = 14 ∨ n = 15 := by omega
  rcases this with rfl | rfl | rfl | rfl | rfl | rfl | rfl | rfl | rfl | rfl | rfl | rfl | rfl | rfl | rfl | rfl <;> rfl)
theorem zs_lot_2 {e c pl : Int} (h : e = 3024 + 60 * c + 3 * pl) (h0 : 0 ≤ c) (h1 : c < 2) (h2 : 0 ≤ pl) (h3 : pl < 16) : zr 2 e = (0, 9999) := (zsb_3010 (by omega) (by omega)).trans (by
  have hm : ((e - 3010) % 60).toNat = 14 + 3 * pl.toNat := by omega
  have hp : pl.toNat < 16 := by omega
  rw [hm]
  generalize pl.toNat = n at hp
  have : n = 0 ∨ n = 1 ∨ n = 2 ∨ n = 3 ∨ n = 4 ∨ n = 5 ∨ n = 6 ∨ n = 7 ∨ n = 8 ∨ n = 9 ∨ n = 10 ∨ n = 11 ∨ n = 12 ∨ n = 13 ∨ n = 14 ∨ n = 15 := by omega
  rcases this with rfl | rfl | rfl | rfl | rfl | rfl | rfl | rfl | rfl | rfl | rfl | rfl | rfl | rfl | rfl | rfl <;> rfl)
theorem zs_94_0 {j : Int} (h : j % 3 = 0) : zr 94 j = (0, 47) := by
  show zrt_94.getD (j % 3).toNat z_F = _
  rw [h]
  rfl
theorem zs_94_1 {j : Int} (h : j % 3 = 1) : zr 94 j = (0, 9999) := by
  show zrt_94.getD (j % 3).toNat z_F = _
  rw [h]
  rfl
theorem zs_94_2 {j : Int} (h : j % 3 = 2) : zr 94 j = (0, 9999) := by
  show zrt_94.getD (j % 3).toNat z_F = _
  rw [h]
  rfl
/-- columns side by side with like ranges -/
theorem zsx {T : List (Int × Int)} {r p : Int × Int} {m : Int} {c0 n : Nat} (hz : p = T.getD m.toNat z_F) (h : (List.range n).all (fun w => T.getD (c0 + w) z_F == r) = true) (h0 : (c0 : Int) ≤ m) (h1 : m < c0 + n) : p = r := by
  have g := List.all_eq_true.mp h (m.toNat - c0) (List.mem_range.mpr (by omega))
  have g2 := eq_of_beq g
  rw [show c0 + (m.toNat - c0) = m.toNat by omega] at g2
  rw [hz]
  exact g2
/-- a finding that moves up -/
theorem zs_up {j : Int} (h0 : 3560 ≤ j) (h1 : j < 3698) : zr 2 (j + 6) = zr 2 j := by
  rw [zsb_3560 (by omega) (by omega), zsb_3560 (e := j) (by omega) (by omega), show (j + 6 - 3560) % 6 = (j - 3560) % 6 by omega]
