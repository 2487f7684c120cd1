/-! a truck goes when it is due to -/
theorem zgo_a {t a k : Int} (t0 : 0 ≤ t) (t1 : t < 4) (e : a = 3259 + 24 * t + k) (k0 : 0 ≤ k) (k1 : k < 10) : adi a = none ∧ zvr a = none ∧ ([5002, 5003, 5006, 5007, 5011, 10003, 10004, 10005, 10006, 10007, 10008, 10009, 10010, 10011, 10012, 10013, 10014] : List Nat).contains (zcm a) = true := by
  have c : k = 0 ∨ k = 1 ∨ k = 2 ∨ k = 3 ∨ k = 4 ∨ k = 5 ∨ k = 6 ∨ k = 7 ∨ k = 8 ∨ k = 9 := by omega
  rcases c with h | h | h | h | h | h | h | h | h | h
  · exact ⟨adm_town0 t0 t1 (by omega), zvn_town0 t0 t1 (by omega), by rw [zcm_town0 t0 t1 (by omega)]; rfl⟩
  · exact ⟨adm_town1 t0 t1 (by omega), zvn_town1 t0 t1 (by omega), by rw [zcm_town1 t0 t1 (by omega)]; rfl⟩
  · exact ⟨adm_town2 t0 t1 (by omega), zvn_town2 t0 t1 (by omega), by rw [zcm_town2 t0 t1 (by omega)]; rfl⟩
  · exact ⟨adm_town3 t0 t1 (by omega), zvn_town3 t0 t1 (by omega), by rw [zcm_town3 t0 t1 (by omega)]; rfl⟩
  · exact ⟨adm_town4 t0 t1 (by omega), zvn_town4 t0 t1 (by omega), by rw [zcm_town4 t0 t1 (by omega)]; rfl⟩
  · exact ⟨adm_due0 t0 t1 (by omega), zvn_due0 t0 t1 (by omega), by rw [zcm_due0 t0 t1 (by omega)]; rfl⟩
  · exact ⟨adm_due1 t0 t1 (by omega), zvn_due1 t0 t1 (by omega), by rw [zcm_due1 t0 t1 (by omega)]; rfl⟩
  · exact ⟨adm_due2 t0 t1 (by omega), zvn_due2 t0 t1 (by omega), by rw [zcm_due2 t0 t1 (by omega)]; rfl⟩
  · exact ⟨adm_due3 t0 t1 (by omega), zvn_due3 t0 t1 (by omega), by rw [zcm_due3 t0 t1 (by omega)]; rfl⟩
  · exact ⟨adm_due4 t0 t1 (by omega), zvn_due4 t0 t1 (by omega), by rw [zcm_due4 t0 t1 (by omega)]; rfl⟩
theorem zgo_j {i j : Int} (k0 : 12 ≤ j) (k1 : j < 22) : adr 50 i j = none ∧ ([5002, 5003, 5006, 5007, 5008, 5011, 5012, 5013, 5014, 5015, 5016, 5017, 5018, 5019, 5020, 5021] : List Nat).contains (zcc 50 j) = true := by
  have c : j = 12 ∨ j = 13 ∨ j = 14 ∨ j = 15 ∨ j = 16 ∨ j = 17 ∨ j = 18 ∨ j = 19 ∨ j = 20 ∨ j = 21 := by omega
  rcases c with rfl | rfl | rfl | rfl | rfl | rfl | rfl | rfl | rfl | rfl
  · exact ⟨adn_50_12, rfl⟩
  · exact ⟨adn_50_13, rfl⟩
  · exact ⟨adn_50_14, rfl⟩
  · exact ⟨adn_50_15, rfl⟩
  · exact ⟨adn_50_16, rfl⟩
  · exact ⟨adn_50_17, rfl⟩
  · exact ⟨adn_50_18, rfl⟩
  · exact ⟨adn_50_19, rfl⟩
  · exact ⟨adn_50_20, rfl⟩
  · exact ⟨adn_50_21, rfl⟩
theorem zW_go {b t : Int} {Z Y C M C' M' : qz_Z} (w : zW [] [5002, 5003, 5006, 5007, 5008, 5011, 5012, 5013, 5014, 5015, 5016, 5017, 5018, 5019, 5020, 5021] [5002, 5003, 5006, 5007, 5011, 10003, 10004, 10005, 10006, 10007, 10008, 10009, 10010, 10011, 10012, 10013, 10014] b Z Y C M) (t0 : 0 ≤ t) (t1 : t < 4) (fz : ∀ (k : Nat) (c i j : Int), ¬ (k = 50 ∧ c = b ∧ i = t ∧ 12 ≤ j ∧ j < 22) → C' k c i j = C k c i j) (fy : ∀ (k : Nat) (c i j : Int), ¬ (k = 2 ∧ c = 0 ∧ i = 0 ∧ 3259 + 24 * t ≤ j ∧ j < 3269 + 24 * t) → M' k c i j = M k c i j) : zW [] [5002, 5003, 5006, 5007, 5008, 5011, 5012, 5013, 5014, 5015, 5016, 5017, 5018, 5019, 5020, 5021] [5002, 5003, 5006, 5007, 5011, 10003, 10004, 10005, 10006, 10007, 10008, 10009, 10010, 10011, 10012, 10013, 10014] b Z Y C' M' := by
  have n2 : ∀ a : Int, 3259 + 24 * t ≤ a → a < 3269 + 24 * t → adi a = none ∧ zvr a = none ∧ ([5002, 5003, 5006, 5007, 5011, 10003, 10004, 10005, 10006, 10007, 10008, 10009, 10010, 10011, 10012, 10013, 10014] : List Nat).contains (zcm a) = true := fun a a0 a1 => zgo_a t0 t1 (k := a - 3259 - 24 * t) (by omega) (by omega) (by omega)
  refine ⟨fun k i j a e hx => ?_, fun a lo hi e => ?_, zFc_t w.2.2.1 (L2 := [5002, 5003, 5006, 5007, 5008, 5011, 5012, 5013, 5014, 5015, 5016, 5017, 5018, 5019, 5020, 5021]) ⟨fun k i j hk hL => fz _ _ _ _ (fun q => ?_), fun k c i j h => fz _ _ _ _ (fun q => ?_)⟩ (by decide), yFr_t w.2.2.2 (L2 := [5002, 5003, 5006, 5007, 5011, 10003, 10004, 10005, 10006, 10007, 10008, 10009, 10010, 10011, 10012, 10013, 10014]) ⟨fun a hL => fy _ _ _ _ (fun q => ?_), fun _ => fy _ _ _ _ (fun q => absurd q.1 (by decide)), fun k c i j hk => fy _ _ _ _ (fun q => ?_)⟩ (by decide)⟩
  · rw [fz k b i j (fun q => by
      have g := (zgo_j (i := i) q.2.2.2.1 q.2.2.2.2).1
      rw [q.1, g] at e
      cases e), fy 2 0 0 a (fun q => by
      have g := (n2 a q.2.2.2.1 q.2.2.2.2).1
      rw [adr_inv e] at g
      cases g)]
    exact w.1 k i j a e hx
  · rw [fy 2 0 0 a (fun q => by
      have g := (n2 a q.2.2.2.1 q.2.2.2.2).2.1
      rw [g] at e
      cases e)]
    exact w.2.1 a lo hi e
  · have g := (zgo_j (i := i) q.2.2.2.1 q.2.2.2.2).2
    rw [q.1, g] at hL
    cases hL
  · rcases h with h | h
    · exact h.2 q.2.1
    · rw [q.1] at h
      cases h
  · have g := (n2 a q.2.2.2.1 q.2.2.2.2).2.2
    rw [g] at hL
    cases hL
  · rw [q.1] at hk
    cases hk
theorem zW_200 {b : Int} {L K : List Nat} {Z Y C M C' M' : qz_Z} (w : zW [] L K b Z Y C M) (fz : ∀ (k : Nat) (c i j : Int), k ≠ 200 → C' k c i j = C k c i j) (fy : ∀ (k : Nat) (c i j : Int), k ≠ 95 → k ≠ 96 → ¬ (k = 1 ∧ (j = 24 ∨ j = 25)) → M' k c i j = M k c i j) : zW [] L K b Z Y C' M' := by
  have f2 : ∀ j : Int, M' 2 0 0 j = M 2 0 0 j := fun j => fy _ _ _ _ (by decide) (by decide) (fun q => absurd q.1 (by decide))
  refine ⟨zRx_0 (zR_e (zRx_1 w.1) (fun k i j hk => fz k b i j (fun q => by rw [q] at hk; cases hk)) f2), zV_e w.2.1 f2, zFc_t w.2.2.1 (L2 := []) ⟨fun k i j hk _ => fz _ _ _ _ (fun q => by rw [q] at hk; cases hk), fun k c i j h => fz _ _ _ _ (fun q => by rw [q] at h; rcases h with h | h; cases h.1; cases h)⟩ (fun x hx => by cases hx), yFr_t w.2.2.2 (L2 := []) ⟨fun a _ => f2 a, fun _ => fy _ _ _ _ (by decide) (by decide) (fun q => by have := q.2; omega), fun k c i j hk => fy _ _ _ _ (fun q => by rw [q] at hk; cases hk) (fun q => by rw [q] at hk; cases hk) (fun q => ?_)⟩ (fun x hx => by cases hx)⟩
  rcases q with ⟨rfl, rfl | rfl⟩ <;> cases hk
theorem zu_comm {Y : qz_Z} {k k' : Nat} {b b' i i' j j' v v' : Int} (h : ¬ (k = k' ∧ b = b' ∧ i = i' ∧ j = j')) : zu (zu Y k b i j v) k' b' i' j' v' = zu (zu Y k' b' i' j' v') k b i j v := by
  funext a c d e
  simp only [zuq]
  by_cases p : a = k' ∧ c = b' ∧ d = i' ∧ e = j'
  · rw [if_pos p, if_neg (fun q => h ⟨q.1.symm.trans p.1, q.2.1.symm.trans p.2.1, q.2.2.1.symm.trans p.2.2.1, q.2.2.2.symm.trans p.2.2.2⟩), if_pos p]
  · rw [if_neg p]
    by_cases q : a = k ∧ c = b ∧ d = i ∧ e = j
    · rw [if_pos q, if_pos q]
    · rw [if_neg q, if_neg q, if_neg p]
def zg512 (Y : qz_Z) (t : Int) : qz_Z := (if (Y 2 0 0 (3252 + 24 * t)) ≠ 1 then (if (Y 2 0 0 (3253 + 24 * t)) ≠ (Y 2 0 0 0) then Y else (zlet (zu Y 2 0 0 (3253 + 24 * t) (-1)) (fun Z8 => (zlet (zf_518 Z8 t 0) (fun v9 => (if v9 ≤ 0 then Z8 else zf_513 Z8 t)))))) else Y)
theorem zl512e {Y : qz_Z} {m : Nat} {x : Int} : zl_512_1 (m + 1) Y x = if Y 2 0 0 3200 ≤ x then (Y, x) else zl_512_1 m (zg512 Y x) (x + 1) := by
  rw [zl_512_1]
  unfold zg512
  simp only [zlet]
  split
  · rfl
  · split
    · split
      · rfl
      · split <;> rfl
    · rfl
