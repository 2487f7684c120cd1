/-! What parcels were, by what they are; and quarrels. -/
/-- what any parcel is like -/
abbrev zHa (Y : qz_Z) (q : Int) : Prop := (1 ≤ Y 2 0 0 (2013 + 16 * q) ∧ Y 2 0 0 (2013 + 16 * q) ≤ 40) ∧ (0 ≤ Y 2 0 0 (2014 + 16 * q) ∧ Y 2 0 0 (2014 + 16 * q) ≤ 40) ∧ (0 ≤ Y 2 0 0 (2015 + 16 * q) ∧ Y 2 0 0 (2015 + 16 * q) ≤ 9999) ∧ (0 ≤ Y 2 0 0 (2017 + 16 * q) ∧ Y 2 0 0 (2017 + 16 * q) ≤ 3) ∧ 0 ≤ Y 2 0 0 (2018 + 16 * q) ∧ 0 ≤ Y 2 0 0 (2016 + 16 * q)
/-- one that waits -/
abbrev zHw (Y : qz_Z) (q : Int) : Prop := Y 2 0 0 (2018 + 16 * q) ≤ Y 2 0 0 (207 + 20 * Y 2 0 0 (2010 + 16 * q)) ∧ Y 2 0 0 (2016 + 16 * q) ≤ Y 2 0 0 0
/-- one that is under way -/
abbrev zHl (Y : qz_Z) (q : Int) : Prop := (Y 2 0 0 (2018 + 16 * q) ≤ Y 2 0 0 (2024 + 16 * q) ∧ Y 2 0 0 (2024 + 16 * q) ≤ Y 2 0 0 (2021 + 16 * q) ∧ Y 2 0 0 (2021 + 16 * q) ≤ 2000) ∧ (0 ≤ Y 2 0 0 (2025 + 16 * q) ∧ Y 2 0 0 (2025 + 16 * q) ≤ Y 2 0 0 (2022 + 16 * q) ∧ Y 2 0 0 (2022 + 16 * q) ≤ 999) ∧ (Y 2 0 0 (2016 + 16 * q) ≤ Y 2 0 0 (2023 + 16 * q) ∧ Y 2 0 0 (2023 + 16 * q) ≤ Y 2 0 0 0)
/-- one that has come -/
abbrev zHc (Y : qz_Z) (q : Int) : Prop := (Y 2 0 0 (2018 + 16 * q) ≤ Y 2 0 0 (2024 + 16 * q) ∧ Y 2 0 0 (2024 + 16 * q) ≤ Y 2 0 0 (2021 + 16 * q) ∧ Y 2 0 0 (2021 + 16 * q) ≤ 2000) ∧ (0 ≤ Y 2 0 0 (2025 + 16 * q) ∧ Y 2 0 0 (2025 + 16 * q) ≤ Y 2 0 0 (2022 + 16 * q) ∧ Y 2 0 0 (2022 + 16 * q) ≤ 999) ∧ (Y 2 0 0 (2016 + 16 * q) ≤ Y 2 0 0 (2023 + 16 * q) ∧ Y 2 0 0 (2023 + 16 * q) ≤ Y 2 0 0 (40 + q) ∧ Y 2 0 0 (40 + q) ≤ Y 2 0 0 0)
def zHq (Y : qz_Z) : Prop := ∀ q : Int, 0 ≤ q → q < 60 → q < Y 2 0 0 2000 → zHa Y q ∧ (Y 2 0 0 (2019 + 16 * q) = 0 → zHw Y q) ∧ (Y 2 0 0 (2019 + 16 * q) = 1 → zHl Y q) ∧ (Y 2 0 0 (2019 + 16 * q) = 2 → zHc Y q)
theorem zHq_W {Y : qz_Z} {q : Int} (h : zHq Y) (q0 : 0 ≤ q) (q1 : q < 60) (q2 : q < Y 2 0 0 2000) (hs : Y 2 0 0 (2019 + 16 * q) = 2) (ht : Y 2 0 0 0 ≤ 671) : zWq Y q := by
  obtain ⟨⟨a1, a2, a3, a4, a5, a6⟩, _, _, hc⟩ := h q q0 q1 q2
  obtain ⟨⟨b1, b2, b3⟩, ⟨b4, b5, b6⟩, b7, b8, b9⟩ := hc hs
  exact ⟨⟨a1, a2, a3, a4⟩, ⟨a5, b1, b2, b3⟩, ⟨b4, b5, b6⟩, ⟨a6, b7, b8, by omega⟩⟩
theorem z_all {K L : List Nat} (e : K.all (fun n => !(L.contains n)) = true) (n : Nat) (hc : L.contains n = true) : K.contains n = false := by
  cases q : K.contains n with
  | false => rfl
  | true =>
    have := List.all_eq_true.mp e n (List.contains_iff_mem.mp q)
    rw [hc] at this
    cases this
theorem zHq_f {K : List Nat} {Y M : qz_Z} (h : zHq Y) (hV : zV Y) (g : yFa K Y M) (e : K.all (fun n => !([4700, 4703, 4704, 4705, 4706, 4707, 4708, 4709, 10001, 10002, 4714, 4715, 4716, 4717, 4407, 1106, 1113].contains n)) = true) : zHq M := fun q h0 h1 => by
  have p := zVr_47_0 (x := q) (a := 2010 + 16 * q) hV h0 h1 rfl
  have hn := fun n hc => z_all e n hc
  have e2010 : M 2 0 0 (2010 + 16 * q) = Y 2 0 0 (2010 + 16 * q) := yFr_at 4700 g (hn _ rfl) (zcm_s (ac_47_0 h0 h1 rfl))
  have e2013 : M 2 0 0 (2013 + 16 * q) = Y 2 0 0 (2013 + 16 * q) := yFr_at 4703 g (hn _ rfl) (zcm_s (ac_47_3 h0 h1 rfl))
  have e2014 : M 2 0 0 (2014 + 16 * q) = Y 2 0 0 (2014 + 16 * q) := yFr_at 4704 g (hn _ rfl) (zcm_s (ac_47_4 h0 h1 rfl))
  have e2015 : M 2 0 0 (2015 + 16 * q) = Y 2 0 0 (2015 + 16 * q) := yFr_at 4705 g (hn _ rfl) (zcm_s (ac_47_5 h0 h1 rfl))
  have e2016 : M 2 0 0 (2016 + 16 * q) = Y 2 0 0 (2016 + 16 * q) := yFr_at 4706 g (hn _ rfl) (zcm_s (ac_47_6 h0 h1 rfl))
  have e2017 : M 2 0 0 (2017 + 16 * q) = Y 2 0 0 (2017 + 16 * q) := yFr_at 4707 g (hn _ rfl) (zcm_s (ac_47_7 h0 h1 rfl))
  have e2018 : M 2 0 0 (2018 + 16 * q) = Y 2 0 0 (2018 + 16 * q) := yFr_at 4708 g (hn _ rfl) (zcm_s (ac_47_8 h0 h1 rfl))
  have e2019 : M 2 0 0 (2019 + 16 * q) = Y 2 0 0 (2019 + 16 * q) := yFr_at 4709 g (hn _ rfl) (zcm_s (ac_47_9 h0 h1 rfl))
  have e2021 : M 2 0 0 (2021 + 16 * q) = Y 2 0 0 (2021 + 16 * q) := yFr_at 10001 g (hn _ rfl) (zcm_ripe h0 h1 rfl)
  have e2022 : M 2 0 0 (2022 + 16 * q) = Y 2 0 0 (2022 + 16 * q) := yFr_at 10002 g (hn _ rfl) (zcm_harm h0 h1 rfl)
  have e2023 : M 2 0 0 (2023 + 16 * q) = Y 2 0 0 (2023 + 16 * q) := yFr_at 4714 g (hn _ rfl) (zcm_s (ac_47_14 h0 h1 rfl))
  have e2024 : M 2 0 0 (2024 + 16 * q) = Y 2 0 0 (2024 + 16 * q) := yFr_at 4715 g (hn _ rfl) (zcm_s (ac_47_15 h0 h1 rfl))
  have e2025 : M 2 0 0 (2025 + 16 * q) = Y 2 0 0 (2025 + 16 * q) := yFr_at 4716 g (hn _ rfl) (zcm_s (ac_47_16 h0 h1 rfl))
  have ed : M 2 0 0 (40 + q) = Y 2 0 0 (40 + q) := yFr_at 4717 g (hn _ rfl) (zcm_s (ac_47_17 h0 h1 rfl))
  have en : M 2 0 0 2000 = Y 2 0 0 2000 := yFr_at 1106 g (hn _ rfl) (zcm_s (ac_11_6 rfl))
  have e0 : M 2 0 0 0 = Y 2 0 0 0 := yFr_at 1113 g (hn _ rfl) (zcm_s (ac_11_13 rfl))
  have ep : M 2 0 0 (207 + 20 * Y 2 0 0 (2010 + 16 * q)) = Y 2 0 0 (207 + 20 * Y 2 0 0 (2010 + 16 * q)) := yFr_at 4407 g (hn _ rfl) (zcm_s (ac_44_7 p.1 (by omega) rfl))
  unfold zHa zHw zHl zHc
  rw [e2010, e2013, e2014, e2015, e2016, e2017, e2018, e2019, e2021, e2022, e2023, e2024, e2025, ed, en, e0, ep]
  exact h q h0 h1
/-- quarrels that are counted: of what cause, about a parcel that has come -/
def zQq (Y : qz_Z) : Prop := ∀ i : Int, 0 ≤ i → i < 12 → i < Y 2 0 0 3815 → (0 ≤ Y 2 0 0 (3851 + 8 * i) ∧ Y 2 0 0 (3851 + 8 * i) ≤ 3) ∧ Y 2 0 0 (3850 + 8 * i) < Y 2 0 0 2000 ∧ Y 2 0 0 (2019 + 16 * Y 2 0 0 (3850 + 8 * i)) = 2
theorem zQq_f {K : List Nat} {Y M : qz_Z} (h : zQq Y) (hV : zV Y) (g : yFa K Y M) (e : K.all (fun n => !([5400, 5401, 1110, 1106, 4709].contains n)) = true) : zQq M := fun i h0 h1 => by
  have p := zVr_54_0 (x := i) (a := 3850 + 8 * i) hV h0 h1 rfl
  have hn := fun n hc => z_all e n hc
  rw [yFr_at 1110 g (hn _ rfl) (zcm_s (ac_11_10 rfl)), yFr_at 5401 g (hn _ rfl) (zcm_s (ac_54_1 h0 h1 rfl)), yFr_at 5400 g (hn _ rfl) (zcm_s (ac_54_0 h0 h1 rfl)), yFr_at 1106 g (hn _ rfl) (zcm_s (ac_11_6 rfl)), yFr_at 4709 g (hn _ rfl) (zcm_s (ac_47_9 p.1 (by omega) rfl))]
  exact h i h0 h1
/-- time goes on -/
theorem zHq_t {Y : qz_Z} (h : zHq Y) : zHq (zu Y 2 0 0 0 (Y 2 0 0 0 + 1)) := fun q h0 h1 => by
  unfold zHa zHw zHl zHc
  have z : ∀ j, j ≠ 0 → zu Y 2 0 0 0 (Y 2 0 0 0 + 1) 2 0 0 j = Y 2 0 0 j := fun j hj => zun hj
  intro h2
  rw [z 2000 (by omega)] at h2
  obtain ⟨ha, hw, hl, hc⟩ := h q h0 h1 h2
  rw [z (2010 + 16 * q) (by omega), z (2013 + 16 * q) (by omega), z (2014 + 16 * q) (by omega), z (2015 + 16 * q) (by omega), z (2016 + 16 * q) (by omega), z (2017 + 16 * q) (by omega), z (2018 + 16 * q) (by omega), z (2019 + 16 * q) (by omega), z (2021 + 16 * q) (by omega), z (2022 + 16 * q) (by omega), z (2023 + 16 * q) (by omega), z (2024 + 16 * q) (by omega), z (2025 + 16 * q) (by omega), z (40 + q) (by omega), zua]
  refine ⟨ha, fun s => ?_, fun s => ?_, fun s => ?_⟩
  · obtain ⟨w1, w2⟩ := hw s
    by_cases e : 207 + 20 * Y 2 0 0 (2010 + 16 * q) = 0
    · exfalso
      omega
    · rw [z _ e]
      exact ⟨w1, by omega⟩
  · obtain ⟨a, b, c1, c2⟩ := hl s
    exact ⟨a, b, c1, by omega⟩
  · obtain ⟨a, b, c1, c2, c3⟩ := hc s
    exact ⟨a, b, c1, c2, by omega⟩
