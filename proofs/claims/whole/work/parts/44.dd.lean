/-! what else binds a hall of the class and the reference's row -/
theorem zFc_at {L : List Nat} {b : Int} {Z C : qz_Z} {k : Nat} {i j : Int} (n : Nat) (f : zFa L b Z C) (e : L.contains n = false) (hk : zhall k = true) (en : zcc k j = n) : C k b i j = Z k b i j := f k i j hk (by rw [en]; exact e)
theorem yFr_at {L : List Nat} {Y M : qz_Z} {a : Int} (n : Nat) (g : yFa L Y M) (e : L.contains n = false) (en : zcm a = n) : M 2 0 0 a = Y 2 0 0 a := g a (by rw [en]; exact e)
/-- the gross of a parcel -/
def zD1 (b : Int) (Z Y : qz_Z) : Prop := ∀ q : Int, 0 ≤ q → q < 60 → Z 47 b q 18 = Y 2 0 0 (2013 + 16 * q) * Y 2 0 0 (2015 + 16 * q)
theorem zD1_f {L K : List Nat} {b : Int} {Z Y C M : qz_Z} (h : zD1 b Z Y) (f : zFa L b Z C) (g : yFa K Y M) (e : L.contains 4718 = false ∧ K.contains 4703 = false ∧ K.contains 4705 = false) : zD1 b C M := fun q h0 h1 => by
  rw [zFc_at 4718 f e.1 rfl rfl, yFr_at 4703 g e.2.1 (zcm_s (ac_47_3 h0 h1 rfl)), yFr_at 4705 g e.2.2 (zcm_s (ac_47_5 h0 h1 rfl))]
  exact h q h0 h1
/-- what is loaded, come or lost has a ripe and a harm of its own -/
def zD4 (b : Int) (Z Y : qz_Z) : Prop := ∀ q : Int, 0 ≤ q → q < 60 → Y 2 0 0 (2019 + 16 * q) ≠ 0 → Z 47 b q 11 = Y 2 0 0 (2021 + 16 * q) ∧ Z 47 b q 12 = Y 2 0 0 (2022 + 16 * q)
theorem zD4_f {L K : List Nat} {b : Int} {Z Y C M : qz_Z} (h : zD4 b Z Y) (f : zFa L b Z C) (g : yFa K Y M) (e : (L.contains 4711 = false ∧ L.contains 4712 = false) ∧ K.contains 4709 = false ∧ K.contains 10001 = false ∧ K.contains 10002 = false) : zD4 b C M := fun q h0 h1 => by
  rw [zFc_at 4711 f e.1.1 rfl rfl, zFc_at 4712 f e.1.2 rfl rfl, yFr_at 4709 g e.2.1 (zcm_s (ac_47_9 h0 h1 rfl)), yFr_at 10001 g e.2.2.1 (zcm_ripe h0 h1 rfl), yFr_at 10002 g e.2.2.2 (zcm_harm h0 h1 rfl)]
  exact h q h0 h1
/-- pallets: what is no more there stands nowhere and has no crates; what is there stands somewhere -/
def zN1 (Y : qz_Z) : Prop := ∀ p : Int, 0 ≤ p → p < 48 → (1 < Y 2 0 0 (210 + 20 * p) → Y 2 0 0 (211 + 20 * p) = -1 ∧ Y 2 0 0 (204 + 20 * p) = 0) ∧ (p < Y 2 0 0 102 → Y 2 0 0 (210 + 20 * p) ≤ 1 → 0 ≤ Y 2 0 0 (211 + 20 * p))
theorem zN1_f {K : List Nat} {Y M : qz_Z} (h : zN1 Y) (g : yFa K Y M) (e : K.contains 4410 = false ∧ K.contains 4412 = false ∧ K.contains 4404 = false ∧ K.contains 1103 = false) : zN1 M := fun p h0 h1 => by
  rw [yFr_at 4410 g e.1 (zcm_s (ac_44_10 h0 h1 rfl)), yFr_at 4412 g e.2.1 (zcm_s (ac_44_12 h0 h1 rfl)), yFr_at 4404 g e.2.2.1 (zcm_s (ac_44_4 h0 h1 rfl)), yFr_at 1103 g e.2.2.2 (zcm_s (ac_11_3 rfl))]
  exact h p h0 h1
/-- parcels: just what is loaded has a truck -/
def zN4 (Y : qz_Z) : Prop := ∀ q : Int, 0 ≤ q → q < 60 → q < Y 2 0 0 2000 → (Y 2 0 0 (2019 + 16 * q) ≠ 1 → Y 2 0 0 (2020 + 16 * q) = -1) ∧ (Y 2 0 0 (2019 + 16 * q) = 1 → 0 ≤ Y 2 0 0 (2020 + 16 * q))
theorem zN4_f {K : List Nat} {Y M : qz_Z} (h : zN4 Y) (g : yFa K Y M) (e : K.contains 4709 = false ∧ K.contains 4710 = false ∧ K.contains 1106 = false) : zN4 M := fun q h0 h1 => by
  rw [yFr_at 4709 g e.1 (zcm_s (ac_47_9 h0 h1 rfl)), yFr_at 4710 g e.2.1 (zcm_s (ac_47_10 h0 h1 rfl)), yFr_at 1106 g e.2.2 (zcm_s (ac_11_6 rfl))]
  exact h q h0 h1
/-- rooms that are shut -/
def zDs (b : Int) (Z Y : qz_Z) : Prop := ∀ r : Int, 0 ≤ r → r < 6 → Z 43 b r 10 = Y 2 0 0 (3510 + r) ∨ Z 43 b r 10 = -1 ∧ Y 2 0 0 (3510 + r) = 0
theorem zDs_f {L K : List Nat} {b : Int} {Z Y C M : qz_Z} (h : zDs b Z Y) (f : zFa L b Z C) (g : yFa K Y M) (e : L.contains 4310 = false ∧ K.contains 10016 = false) : zDs b C M := fun r h0 h1 => by
  rw [zFc_at 4310 f e.1 rfl rfl, yFr_at 10016 g e.2 (zcm_shut h0 h1 rfl)]
  exact h r h0 h1
/-- ways -/
def zDw (b : Int) (Z Y : qz_Z) : Prop := ∀ i j : Int, 0 ≤ i → i < 6 → 0 ≤ j → j < 6 → i ≠ j → Z 40 b i j = Y 2 0 0 (3210 + 6 * i + j)
theorem zDw_f {L K : List Nat} {b : Int} {Z Y C M : qz_Z} (h : zDw b Z Y) (f : zFa L b Z C) (g : yFa K Y M) (e : L.contains 4000 = false ∧ K.contains 10070 = false) : zDw b C M := fun i j h0 h1 h2 h3 h4 => by
  rw [zFc_at 4000 f e.1 rfl rfl, yFr_at 10070 g e.2 (zcm_way (by omega) (by omega))]
  exact h i j h0 h1 h2 h3 h4
/-- lots that stand in a row -/
def zDl (b : Int) (Z Y : qz_Z) : Prop := ∀ c p : Int, 0 ≤ c → c < 2 → 0 ≤ p → p < 12 → p < Y 2 0 0 (3015 + 60 * c) → Z 49 b (12 * c + p) 0 = Y 2 0 0 (3022 + 60 * c + 3 * p) ∧ Z 49 b (12 * c + p) 1 = Y 2 0 0 (3023 + 60 * c + 3 * p) ∧ Z 49 b (12 * c + p) 2 = Y 2 0 0 (3024 + 60 * c + 3 * p)
theorem zDl_f {L K : List Nat} {b : Int} {Z Y C M : qz_Z} (h : zDl b Z Y) (f : zFa L b Z C) (g : yFa K Y M) (e : L.contains 4900 = false ∧ K.contains 4805 = false ∧ K.contains 10050 = false ∧ K.contains 10051 = false ∧ K.contains 10052 = false) : zDl b C M := fun c p h0 h1 h2 h3 h4 => by
  rw [yFr_at 4805 g e.2.1 (zcm_s (ac_48_5 h0 h1 rfl))] at h4
  rw [zFc_at (j := 0) 4900 f e.1 rfl rfl, zFc_at (j := 1) 4900 f e.1 rfl rfl, zFc_at (j := 2) 4900 f e.1 rfl rfl, yFr_at 10050 g e.2.2.1 (zcm_lot0 h0 h1 h2 h3 rfl), yFr_at 10051 g e.2.2.2.1 (zcm_lot1 h0 h1 h2 h3 rfl), yFr_at 10052 g e.2.2.2.2 (zcm_lot2 h0 h1 h2 h3 rfl)]
  exact h c p h0 h1 h2 h3 h4
theorem zN4_come {Y Y1 Y2 Y3 : qz_Z} {q v : Int} (h : zN4 Y) (h0 : 0 ≤ q) (h1 : q < 60) (e1 : Y1 = zu Y 2 0 0 (2019 + 16 * q) 2) (e2 : Y2 = zu Y1 2 0 0 (2020 + 16 * q) (-1)) (e3 : Y3 = zu Y2 2 0 0 (40 + q) v) : zN4 Y3 := fun r h2 h3 h4 => by
  have n3 : ∀ a : Int, a ≠ 40 + q → Y3 2 0 0 a = Y2 2 0 0 a := fun a g => zu_ne e3 (fun x => g x.2.2.2)
  have n2 : ∀ a : Int, a ≠ 2020 + 16 * q → Y2 2 0 0 a = Y1 2 0 0 a := fun a g => zu_ne e2 (fun x => g x.2.2.2)
  have n1 : ∀ a : Int, a ≠ 2019 + 16 * q → Y1 2 0 0 a = Y 2 0 0 a := fun a g => zu_ne e1 (fun x => g x.2.2.2)
  rw [n3 _ (by omega), n2 _ (by omega), n1 _ (by omega)] at h4
  by_cases g : r = q
  · subst g
    rw [n3 _ (by omega), n2 _ (by omega), zu_at e1, n3 _ (by omega), zu_at e2]
    omega
  · rw [n3 _ (by omega), n2 _ (by omega), n1 _ (by omega), n3 _ (by omega), n2 _ (by omega), n1 _ (by omega)]
    exact h r h2 h3 h4
/-- how warm it is outside today -/
def zTo (w : Int) (Y : qz_Z) : Prop := w = Y 2 0 0 (1300 + (Y 2 0 0 0) / 24)
theorem zTo_f {K : List Nat} {w : Int} {Y M : qz_Z} (h : zTo w Y) (hV : zV Y) (g : yFa K Y M) (e : K.contains 1113 = false ∧ K.contains 1200 = false) : zTo w M := by
  have r := zVr_11_13 (a := 0) hV rfl
  unfold zTo
  rw [yFr_at 1113 g e.1 (zcm_s (ac_11_13 rfl)), yFr_at 1200 g e.2 (zcm_s (ac_12_s (x := Y 2 0 0 0 / 24) (by omega) (by omega) rfl))]
  exact h
theorem zD4_w {b : Int} {Z Z1 Z2 Y Y1 Y2 : qz_Z} {q p u1 u2 v1 v2 : Int} (h : zD4 b Z Y) (h0 : 0 ≤ q) (h1 : q < 60) (e : p = q) (z1 : Z1 = zu Z 47 b q 11 u1) (z2 : Z2 = zu Z1 47 b q 12 u2) (y1 : Y1 = zu Y 2 0 0 (2021 + 16 * p) v1) (y2 : Y2 = zu Y1 2 0 0 (2022 + 16 * p) v2) (e1 : u1 = v1) (e2 : u2 = v2) : zD4 b Z2 Y2 := fun r h2 h3 h4 => by
  subst e
  have n2 : ∀ a : Int, a ≠ 2022 + 16 * p → Y2 2 0 0 a = Y1 2 0 0 a := fun a g => zu_ne y2 (fun x => g x.2.2.2)
  have n1 : ∀ a : Int, a ≠ 2021 + 16 * p → Y1 2 0 0 a = Y 2 0 0 a := fun a g => zu_ne y1 (fun x => g x.2.2.2)
  rw [n2 _ (by omega), n1 _ (by omega)] at h4
  by_cases g : r = p
  · subst g
    rw [zu_at z2, zu_ne z2 (fun x => absurd x.2.2.2 (by decide)), zu_at z1, n2 _ (by omega), zu_at y1, zu_at y2]
    exact ⟨e1, e2⟩
  · rw [zu_ne z2 (fun x => g x.2.2.1), zu_ne z2 (fun x => g x.2.2.1), zu_ne z1 (fun x => g x.2.2.1), zu_ne z1 (fun x => g x.2.2.1), n2 _ (by omega), n2 _ (by omega), n1 _ (by omega), n1 _ (by omega)]
    exact h r h2 h3 h4
