/-! the two macros: award's BAD_BORNE, readTask's LETTERS -/
def zbb (x : Int) : Int := if x ≤ 0 then 5 else if x = 1 then 15 else if x = 2 then 30 else 60
def zli (x : Int) : Int := if x = 112 then 0 else if x = 113 then 1 else if x = 119 then 2 else if x = 108 then 3 else if x = 103 then 4 else if x = 100 then 5 else if x = 99 then 6 else -1
theorem zbb_r (x : Int) : 5 ≤ zbb x ∧ zbb x ≤ 60 := by
  unfold zbb
  split
  · omega
  · split
    · omega
    · split <;> omega
theorem zli_r (x : Int) : -1 ≤ zli x ∧ zli x ≤ 6 := by
  unfold zli
  repeat (split; · omega)
  omega
theorem i3bb {v : Int32} {x : Int} (p : v = i3 x) (h1 : -2147483648 ≤ x) (h2 : x ≤ 2147483647) : pz_bb v = i3 (zbb x) := by
  have e0 := i3Le p (show (0 : Int32) = i3 0 from rfl) h1 h2 (by decide) (by decide)
  have e1 := i3E p (show (1 : Int32) = i3 1 from rfl) h1 h2 (by decide) (by decide)
  have e2 := i3E p (show (2 : Int32) = i3 2 from rfl) h1 h2 (by decide) (by decide)
  rw [decide_eq_decide] at e0 e1 e2
  unfold pz_bb zbb
  by_cases q0 : x ≤ 0
  · rw [if_pos (e0.mpr q0), if_pos q0]; rfl
  · rw [if_neg (fun c => q0 (e0.mp c)), if_neg q0]
    by_cases q1 : x = 1
    · rw [if_pos (e1.mpr q1), if_pos q1]; rfl
    · rw [if_neg (fun c => q1 (e1.mp c)), if_neg q1]
      by_cases q2 : x = 2
      · rw [if_pos (e2.mpr q2), if_pos q2]; rfl
      · rw [if_neg (fun c => q2 (e2.mp c)), if_neg q2]; rfl
theorem i3li0 : ∀ n : Nat, n < 127 → pz_li (i3 (n : Int)) = i3 (zli (n : Int)) := by decide +kernel
theorem i3li {v : Int32} {x : Int} (p : v = i3 x) (h1 : 0 ≤ x) (h2 : x ≤ 126) : pz_li v = i3 (zli x) := by
  subst p
  have h := i3li0 x.toNat (by omega)
  rwa [show ((x.toNat : Nat) : Int) = x from by omega] at h
