/-! A quarrel judged: the class's shares lie in an array that it makes, the reference's in the row. -/
def zS3 (n s0 s1 s2 : Int) (Z : qz_Z) : Prop := Z 200 n 0 0 = s0 ∧ Z 200 n 0 1 = s1 ∧ Z 200 n 0 2 = s2
theorem zS3_u {n s0 s1 s2 : Int} {Z : qz_Z} {k : Nat} {b i j v : Int} (h : zS3 n s0 s1 s2 Z) (hk : k ≠ 200) : zS3 n s0 s1 s2 (zu Z k b i j v) := by
  refine ⟨?_, ?_, ?_⟩
  · rw [zu_ne rfl (fun q => hk q.1.symm)]; exact h.1
  · rw [zu_ne rfl (fun q => hk q.1.symm)]; exact h.2.1
  · rw [zu_ne rfl (fun q => hk q.1.symm)]; exact h.2.2
theorem zlet_b {α β : Type} {v : α} {k : α → β} : zlet v k = k v := rfl
theorem zlet2_b {α β γ : Type} {p : α × β} {k : α → β → γ} : zlet2 p k = k p.1 p.2 := rfl
theorem zl_cgp {α β : Type} {v : qz_Z} {k : qz_Z → α × β} {k' : qz_Z → α} {m : β} {P : qz_Z → Prop} (hv : P v) (h : ∀ z, P z → k z = (k' z, m)) : zlet v k = (zlet v k', m) := h v hv
theorem zl_cg3 {α β : Type} {v1 : qz_Z} {f g : qz_Z → qz_Z} {k : qz_Z → α × β} {k' : qz_Z → α} {m : β} {P : qz_Z → Prop} (hv : P (g (f v1))) (h : ∀ z, P z → k z = (k' z, m)) : zlet (g (f v1)) k = (zlet v1 (fun z1 => zlet (f z1) (fun z2 => zlet (g z2) k')), m) := h _ hv
theorem zpy_s3 {n s0 s1 s2 b i : Int} {Z : qz_Z} (h : zS3 n s0 s1 s2 Z) : zpy Z 200 n 0 54 b i 4 3 = zu (zu (zu Z 54 b i 4 s0) 54 b i 5 s1) 54 b i 6 s2 := by
  funext k' b' i' j'
  show (if k' = 54 ∧ b' = b ∧ i' = i ∧ (4 : Int) ≤ j' ∧ j' < 4 + 3 then Z 200 n 0 (j' - 4) else Z k' b' i' j') = (if k' = 54 ∧ b' = b ∧ i' = i ∧ j' = 6 then s2 else if k' = 54 ∧ b' = b ∧ i' = i ∧ j' = 5 then s1 else if k' = 54 ∧ b' = b ∧ i' = i ∧ j' = 4 then s0 else Z k' b' i' j')
  by_cases c : k' = 54 ∧ b' = b ∧ i' = i
  · obtain ⟨rfl, rfl, rfl⟩ := c
    by_cases g : 4 ≤ j' ∧ j' < 4 + 3
    · rw [if_pos ⟨rfl, rfl, rfl, g.1, g.2⟩]
      rcases (show j' = 4 ∨ j' = 5 ∨ j' = 6 by omega) with rfl | rfl | rfl
      · rw [if_neg (fun q => absurd q.2.2.2 (by decide)), if_neg (fun q => absurd q.2.2.2 (by decide)), if_pos ⟨rfl, rfl, rfl, rfl⟩]
        exact h.1
      · rw [if_neg (fun q => absurd q.2.2.2 (by decide)), if_pos ⟨rfl, rfl, rfl, rfl⟩]
        exact h.2.1
      · rw [if_pos ⟨rfl, rfl, rfl, rfl⟩]
        exact h.2.2
    · rw [if_neg (fun q => g ⟨q.2.2.2.1, q.2.2.2.2⟩), if_neg (fun q => g (by have := q.2.2.2; omega)), if_neg (fun q => g (by have := q.2.2.2; omega)), if_neg (fun q => g (by have := q.2.2.2; omega))]
  · rw [if_neg (fun q => c ⟨q.1, q.2.1, q.2.2.1⟩), if_neg (fun q => c ⟨q.1, q.2.1, q.2.2.1⟩), if_neg (fun q => c ⟨q.1, q.2.1, q.2.2.1⟩), if_neg (fun q => c ⟨q.1, q.2.1, q.2.2.1⟩)]
set_option maxRecDepth 16000 in
set_option maxHeartbeats 4000000 in
theorem zb7_1 {Z900 Z901 : qz_Z} {b i q v n n16 s0 s1 s2 : Int} (hZ901 : zS3 n s0 s1 s2 Z901) : (if (Z901 200 n 0 2) ≠ 0 then (zlet (zu Z901 14 b 0 8 (w3 ((Z901 14 b 0 8) - (Z901 200 n 0 2)))) (fun Z500 => (zlet (zu Z500 14 b 0 0 (w3 ((Z500 14 b 0 0) + (Z901 200 n 0 2)))) (fun Z501 => (zlet (zu Z501 53 b ((Z501 11 b 0 12) % 60) 0 8) (fun Z502 => (zlet (zu Z502 53 b ((Z501 11 b 0 12) % 60) 1 0) (fun Z503 => (zlet (zu Z503 53 b ((Z501 11 b 0 12) % 60) 2 (Z901 200 n 0 2)) (fun Z504 => (zlet (zu Z504 53 b ((Z501 11 b 0 12) % 60) 3 (Z900 47 b q 0)) (fun Z505 => (zlet (zu Z505 53 b ((Z501 11 b 0 12) % 60) 4 (Z505 11 b 0 13)) (fun Z506 => (zlet (zu Z506 11 b 0 12 ((Z506 11 b 0 12) + 1)) (fun Z507 => (zlet (zu Z507 42 b (Z900 44 b (Z900 47 b q 0) 0) 2 (w3 ((Z507 42 b (Z900 44 b (Z900 47 b q 0) 0) 2) - (Z507 200 n 0 0)))) (fun Z508 => (zlet (zu Z508 42 b (Z900 44 b (Z900 47 b q 0) 0) 5 (w3 ((Z508 42 b (Z900 44 b (Z900 47 b q 0) 0) 5) + (Z508 200 n 0 0)))) (fun Z509 => (Z509, n16))))))))))))))))))))) else (zlet (zu Z901 42 b (Z900 44 b (Z900 47 b q 0) 0) 2 (w3 ((Z901 42 b (Z900 44 b (Z900 47 b q 0) 0) 2) - (Z901 200 n 0 0)))) (fun Z510 => (zlet (zu Z510 42 b (Z900 44 b (Z900 47 b q 0) 0) 5 (w3 ((Z510 42 b (Z900 44 b (Z900 47 b q 0) 0) 5) + (Z510 200 n 0 0)))) (fun Z511 => (Z511, n16)))))) = ((if s2 ≠ 0 then (zlet (zu Z901 14 b 0 8 (w3 ((Z901 14 b 0 8) - s2))) (fun Z500 => (zlet (zu Z500 14 b 0 0 (w3 ((Z500 14 b 0 0) + s2))) (fun Z501 => (zlet (zu Z501 53 b ((Z501 11 b 0 12) % 60) 0 8) (fun Z502 => (zlet (zu Z502 53 b ((Z501 11 b 0 12) % 60) 1 0) (fun Z503 => (zlet (zu Z503 53 b ((Z501 11 b 0 12) % 60) 2 s2) (fun Z504 => (zlet (zu Z504 53 b ((Z501 11 b 0 12) % 60) 3 (Z900 47 b q 0)) (fun Z505 => (zlet (zu Z505 53 b ((Z501 11 b 0 12) % 60) 4 (Z505 11 b 0 13)) (fun Z506 => (zlet (zu Z506 11 b 0 12 ((Z506 11 b 0 12) + 1)) (fun Z507 => (zlet (zu Z507 42 b (Z900 44 b (Z900 47 b q 0) 0) 2 (w3 ((Z507 42 b (Z900 44 b (Z900 47 b q 0) 0) 2) - s0))) (fun Z508 => (zlet (zu Z508 42 b (Z900 44 b (Z900 47 b q 0) 0) 5 (w3 ((Z508 42 b (Z900 44 b (Z900 47 b q 0) 0) 5) + s0))) (fun Z509 => Z509)))))))))))))))))))) else (zlet (zu Z901 42 b (Z900 44 b (Z900 47 b q 0) 0) 2 (w3 ((Z901 42 b (Z900 44 b (Z900 47 b q 0) 0) 2) - s0))) (fun Z510 => (zlet (zu Z510 42 b (Z900 44 b (Z900 47 b q 0) 0) 5 (w3 ((Z510 42 b (Z900 44 b (Z900 47 b q 0) 0) 5) + s0))) (fun Z511 => Z511))))), n16) := by
  rw [hZ901.1, hZ901.2.2]
  split
  · rename_i c2
    refine zl_cgp (P := zS3 n s0 s1 s2) (zS3_u hZ901 (by decide)) (fun Z500 hZ500 => ?_)
    refine zl_cgp (P := zS3 n s0 s1 s2) (zS3_u hZ500 (by decide)) (fun Z501 hZ501 => ?_)
    refine zl_cgp (P := zS3 n s0 s1 s2) (zS3_u hZ501 (by decide)) (fun Z502 hZ502 => ?_)
    refine zl_cgp (P := zS3 n s0 s1 s2) (zS3_u hZ502 (by decide)) (fun Z503 hZ503 => ?_)
    refine zl_cgp (P := zS3 n s0 s1 s2) (zS3_u hZ503 (by decide)) (fun Z504 hZ504 => ?_)
    refine zl_cgp (P := zS3 n s0 s1 s2) (zS3_u hZ504 (by decide)) (fun Z505 hZ505 => ?_)
    refine zl_cgp (P := zS3 n s0 s1 s2) (zS3_u hZ505 (by decide)) (fun Z506 hZ506 => ?_)
    refine zl_cgp (P := zS3 n s0 s1 s2) (zS3_u hZ506 (by decide)) (fun Z507 hZ507 => ?_)
    rw [hZ507.1]
    refine zl_cgp (P := zS3 n s0 s1 s2) (zS3_u hZ507 (by decide)) (fun Z508 hZ508 => ?_)
    rw [hZ508.1]
    refine zl_cgp (P := zS3 n s0 s1 s2) (zS3_u hZ508 (by decide)) (fun Z509 hZ509 => ?_)
    rfl
  · rename_i c2
    refine zl_cgp (P := zS3 n s0 s1 s2) (zS3_u hZ901 (by decide)) (fun Z510 hZ510 => ?_)
    rw [hZ510.1]
    refine zl_cgp (P := zS3 n s0 s1 s2) (zS3_u hZ510 (by decide)) (fun Z511 hZ511 => ?_)
    rfl
set_option maxRecDepth 16000 in
set_option maxHeartbeats 4000000 in
theorem zb7_2 {Z900 Z901 : qz_Z} {b i q v n n16 s0 s1 s2 : Int} (hZ901 : zS3 n s0 s1 s2 Z901) : (if (Z901 200 n 0 2) ≠ 0 then (zlet (zu Z901 14 b 0 8 (w3 ((Z901 14 b 0 8) - (Z901 200 n 0 2)))) (fun Z500 => (zlet (zu Z500 14 b 0 0 (w3 ((Z500 14 b 0 0) + (Z901 200 n 0 2)))) (fun Z501 => (zlet (zu Z501 53 b ((Z501 11 b 0 12) % 60) 0 8) (fun Z502 => (zlet (zu Z502 53 b ((Z501 11 b 0 12) % 60) 1 0) (fun Z503 => (zlet (zu Z503 53 b ((Z501 11 b 0 12) % 60) 2 (Z901 200 n 0 2)) (fun Z504 => (zlet (zu Z504 53 b ((Z501 11 b 0 12) % 60) 3 (Z900 47 b q 0)) (fun Z505 => (zlet (zu Z505 53 b ((Z501 11 b 0 12) % 60) 4 (Z505 11 b 0 13)) (fun Z506 => (zlet (zu Z506 11 b 0 12 ((Z506 11 b 0 12) + 1)) (fun Z507 => (zlet (zu Z507 42 b (Z900 44 b (Z900 47 b q 0) 0) 2 ((Z507 42 b (Z900 44 b (Z900 47 b q 0) 0) 2) - (Z507 200 n 0 0))) (fun Z508 => (zlet (zu Z508 42 b (Z900 44 b (Z900 47 b q 0) 0) 5 ((Z508 42 b (Z900 44 b (Z900 47 b q 0) 0) 5) + (Z508 200 n 0 0))) (fun Z509 => (Z509, n16))))))))))))))))))))) else (zlet (zu Z901 42 b (Z900 44 b (Z900 47 b q 0) 0) 2 ((Z901 42 b (Z900 44 b (Z900 47 b q 0) 0) 2) - (Z901 200 n 0 0))) (fun Z510 => (zlet (zu Z510 42 b (Z900 44 b (Z900 47 b q 0) 0) 5 ((Z510 42 b (Z900 44 b (Z900 47 b q 0) 0) 5) + (Z510 200 n 0 0))) (fun Z511 => (Z511, n16)))))) = ((if s2 ≠ 0 then (zlet (zu Z901 14 b 0 8 (w3 ((Z901 14 b 0 8) - s2))) (fun Z500 => (zlet (zu Z500 14 b 0 0 (w3 ((Z500 14 b 0 0) + s2))) (fun Z501 => (zlet (zu Z501 53 b ((Z501 11 b 0 12) % 60) 0 8) (fun Z502 => (zlet (zu Z502 53 b ((Z501 11 b 0 12) % 60) 1 0) (fun Z503 => (zlet (zu Z503 53 b ((Z501 11 b 0 12) % 60) 2 s2) (fun Z504 => (zlet (zu Z504 53 b ((Z501 11 b 0 12) % 60) 3 (Z900 47 b q 0)) (fun Z505 => (zlet (zu Z505 53 b ((Z501 11 b 0 12) % 60) 4 (Z505 11 b 0 13)) (fun Z506 => (zlet (zu Z506 11 b 0 12 ((Z506 11 b 0 12) + 1)) (fun Z507 => (zlet (zu Z507 42 b (Z900 44 b (Z900 47 b q 0) 0) 2 ((Z507 42 b (Z900 44 b (Z900 47 b q 0) 0) 2) - s0)) (fun Z508 => (zlet (zu Z508 42 b (Z900 44 b (Z900 47 b q 0) 0) 5 ((Z508 42 b (Z900 44 b (Z900 47 b q 0) 0) 5) + s0)) (fun Z509 => Z509)))))))))))))))))))) else (zlet (zu Z901 42 b (Z900 44 b (Z900 47 b q 0) 0) 2 ((Z901 42 b (Z900 44 b (Z900 47 b q 0) 0) 2) - s0)) (fun Z510 => (zlet (zu Z510 42 b (Z900 44 b (Z900 47 b q 0) 0) 5 ((Z510 42 b (Z900 44 b (Z900 47 b q 0) 0) 5) + s0)) (fun Z511 => Z511))))), n16) := by
  rw [hZ901.1, hZ901.2.2]
  split
  · rename_i c3
    refine zl_cgp (P := zS3 n s0 s1 s2) (zS3_u hZ901 (by decide)) (fun Z500 hZ500 => ?_)
    refine zl_cgp (P := zS3 n s0 s1 s2) (zS3_u hZ500 (by decide)) (fun Z501 hZ501 => ?_)
    refine zl_cgp (P := zS3 n s0 s1 s2) (zS3_u hZ501 (by decide)) (fun Z502 hZ502 => ?_)
    refine zl_cgp (P := zS3 n s0 s1 s2) (zS3_u hZ502 (by decide)) (fun Z503 hZ503 => ?_)
    refine zl_cgp (P := zS3 n s0 s1 s2) (zS3_u hZ503 (by decide)) (fun Z504 hZ504 => ?_)
    refine zl_cgp (P := zS3 n s0 s1 s2) (zS3_u hZ504 (by decide)) (fun Z505 hZ505 => ?_)
    refine zl_cgp (P := zS3 n s0 s1 s2) (zS3_u hZ505 (by decide)) (fun Z506 hZ506 => ?_)
    refine zl_cgp (P := zS3 n s0 s1 s2) (zS3_u hZ506 (by decide)) (fun Z507 hZ507 => ?_)
    rw [hZ507.1]
    refine zl_cgp (P := zS3 n s0 s1 s2) (zS3_u hZ507 (by decide)) (fun Z508 hZ508 => ?_)
    rw [hZ508.1]
    refine zl_cgp (P := zS3 n s0 s1 s2) (zS3_u hZ508 (by decide)) (fun Z509 hZ509 => ?_)
    rfl
  · rename_i c3
    refine zl_cgp (P := zS3 n s0 s1 s2) (zS3_u hZ901 (by decide)) (fun Z510 hZ510 => ?_)
    rw [hZ510.1]
    refine zl_cgp (P := zS3 n s0 s1 s2) (zS3_u hZ510 (by decide)) (fun Z511 hZ511 => ?_)
    rfl
set_option maxRecDepth 16000 in
set_option maxHeartbeats 4000000 in
theorem zb7_0 {Z900 Z901 : qz_Z} {b i q v n n16 s0 s1 s2 : Int} (hZ901 : zS3 n s0 s1 s2 Z901) : (if (Z901 200 n 0 0) ≠ 0 then (zlet (zu Z901 14 b 0 8 (w3 ((Z901 14 b 0 8) - (Z901 200 n 0 0)))) (fun Z500 => (zlet (zu Z500 14 b 0 2 (w3 ((Z500 14 b 0 2) + (Z901 200 n 0 0)))) (fun Z501 => (zlet (zu Z501 53 b ((Z501 11 b 0 12) % 60) 0 8) (fun Z502 => (zlet (zu Z502 53 b ((Z501 11 b 0 12) % 60) 1 2) (fun Z503 => (zlet (zu Z503 53 b ((Z501 11 b 0 12) % 60) 2 (Z901 200 n 0 0)) (fun Z504 => (zlet (zu Z504 53 b ((Z501 11 b 0 12) % 60) 3 (Z900 47 b q 0)) (fun Z505 => (zlet (zu Z505 53 b ((Z501 11 b 0 12) % 60) 4 (Z505 11 b 0 13)) (fun Z506 => (zlet (zu Z506 11 b 0 12 ((Z506 11 b 0 12) + 1)) (fun Z507 => (if (Z507 200 n 0 2) ≠ 0 then (zlet (zu Z507 14 b 0 8 (w3 ((Z507 14 b 0 8) - (Z507 200 n 0 2)))) (fun Z508 => (zlet (zu Z508 14 b 0 0 (w3 ((Z508 14 b 0 0) + (Z507 200 n 0 2)))) (fun Z509 => (zlet (zu Z509 53 b ((Z509 11 b 0 12) % 60) 0 8) (fun Z510 => (zlet (zu Z510 53 b ((Z509 11 b 0 12) % 60) 1 0) (fun Z511 => (zlet (zu Z511 53 b ((Z509 11 b 0 12) % 60) 2 (Z507 200 n 0 2)) (fun Z512 => (zlet (zu Z512 53 b ((Z509 11 b 0 12) % 60) 3 (Z900 47 b q 0)) (fun Z513 => (zlet (zu Z513 53 b ((Z509 11 b 0 12) % 60) 4 (Z513 11 b 0 13)) (fun Z514 => (zlet (zu Z514 11 b 0 12 ((Z514 11 b 0 12) + 1)) (fun Z515 => (zlet (zu Z515 42 b (Z900 44 b (Z900 47 b q 0) 0) 2 (w3 ((Z515 42 b (Z900 44 b (Z900 47 b q 0) 0) 2) - (Z515 200 n 0 0)))) (fun Z516 => (zlet (zu Z516 42 b (Z900 44 b (Z900 47 b q 0) 0) 5 (w3 ((Z516 42 b (Z900 44 b (Z900 47 b q 0) 0) 5) + (Z516 200 n 0 0)))) (fun Z517 => (Z517, n16))))))))))))))))))))) else (zlet (zu Z507 42 b (Z900 44 b (Z900 47 b q 0) 0) 2 (w3 ((Z507 42 b (Z900 44 b (Z900 47 b q 0) 0) 2) - (Z507 200 n 0 0)))) (fun Z518 => (zlet (zu Z518 42 b (Z900 44 b (Z900 47 b q 0) 0) 5 (w3 ((Z518 42 b (Z900 44 b (Z900 47 b q 0) 0) 5) + (Z518 200 n 0 0)))) (fun Z519 => (Z519, n16)))))))))))))))))))))) else (if (Z901 200 n 0 2) ≠ 0 then (zlet (zu Z901 14 b 0 8 (w3 ((Z901 14 b 0 8) - (Z901 200 n 0 2)))) (fun Z520 => (zlet (zu Z520 14 b 0 0 (w3 ((Z520 14 b 0 0) + (Z901 200 n 0 2)))) (fun Z521 => (zlet (zu Z521 53 b ((Z521 11 b 0 12) % 60) 0 8) (fun Z522 => (zlet (zu Z522 53 b ((Z521 11 b 0 12) % 60) 1 0) (fun Z523 => (zlet (zu Z523 53 b ((Z521 11 b 0 12) % 60) 2 (Z901 200 n 0 2)) (fun Z524 => (zlet (zu Z524 53 b ((Z521 11 b 0 12) % 60) 3 (Z900 47 b q 0)) (fun Z525 => (zlet (zu Z525 53 b ((Z521 11 b 0 12) % 60) 4 (Z525 11 b 0 13)) (fun Z526 => (zlet (zu Z526 11 b 0 12 ((Z526 11 b 0 12) + 1)) (fun Z527 => (zlet (zu Z527 42 b (Z900 44 b (Z900 47 b q 0) 0) 2 ((Z527 42 b (Z900 44 b (Z900 47 b q 0) 0) 2) - (Z527 200 n 0 0))) (fun Z528 => (zlet (zu Z528 42 b (Z900 44 b (Z900 47 b q 0) 0) 5 ((Z528 42 b (Z900 44 b (Z900 47 b q 0) 0) 5) + (Z528 200 n 0 0))) (fun Z529 => (Z529, n16))))))))))))))))))))) else (zlet (zu Z901 42 b (Z900 44 b (Z900 47 b q 0) 0) 2 ((Z901 42 b (Z900 44 b (Z900 47 b q 0) 0) 2) - (Z901 200 n 0 0))) (fun Z530 => (zlet (zu Z530 42 b (Z900 44 b (Z900 47 b q 0) 0) 5 ((Z530 42 b (Z900 44 b (Z900 47 b q 0) 0) 5) + (Z530 200 n 0 0))) (fun Z531 => (Z531, n16))))))) = ((if s0 ≠ 0 then (zlet (zu Z901 14 b 0 8 (w3 ((Z901 14 b 0 8) - s0))) (fun Z500 => (zlet (zu Z500 14 b 0 2 (w3 ((Z500 14 b 0 2) + s0))) (fun Z501 => (zlet (zu Z501 53 b ((Z501 11 b 0 12) % 60) 0 8) (fun Z502 => (zlet (zu Z502 53 b ((Z501 11 b 0 12) % 60) 1 2) (fun Z503 => (zlet (zu Z503 53 b ((Z501 11 b 0 12) % 60) 2 s0) (fun Z504 => (zlet (zu Z504 53 b ((Z501 11 b 0 12) % 60) 3 (Z900 47 b q 0)) (fun Z505 => (zlet (zu Z505 53 b ((Z501 11 b 0 12) % 60) 4 (Z505 11 b 0 13)) (fun Z506 => (zlet (zu Z506 11 b 0 12 ((Z506 11 b 0 12) + 1)) (fun Z507 => (if s2 ≠ 0 then (zlet (zu Z507 14 b 0 8 (w3 ((Z507 14 b 0 8) - s2))) (fun Z508 => (zlet (zu Z508 14 b 0 0 (w3 ((Z508 14 b 0 0) + s2))) (fun Z509 => (zlet (zu Z509 53 b ((Z509 11 b 0 12) % 60) 0 8) (fun Z510 => (zlet (zu Z510 53 b ((Z509 11 b 0 12) % 60) 1 0) (fun Z511 => (zlet (zu Z511 53 b ((Z509 11 b 0 12) % 60) 2 s2) (fun Z512 => (zlet (zu Z512 53 b ((Z509 11 b 0 12) % 60) 3 (Z900 47 b q 0)) (fun Z513 => (zlet (zu Z513 53 b ((Z509 11 b 0 12) % 60) 4 (Z513 11 b 0 13)) (fun Z514 => (zlet (zu Z514 11 b 0 12 ((Z514 11 b 0 12) + 1)) (fun Z515 => (zlet (zu Z515 42 b (Z900 44 b (Z900 47 b q 0) 0) 2 (w3 ((Z515 42 b (Z900 44 b (Z900 47 b q 0) 0) 2) - s0))) (fun Z516 => (zlet (zu Z516 42 b (Z900 44 b (Z900 47 b q 0) 0) 5 (w3 ((Z516 42 b (Z900 44 b (Z900 47 b q 0) 0) 5) + s0))) (fun Z517 => Z517)))))))))))))))))))) else (zlet (zu Z507 42 b (Z900 44 b (Z900 47 b q 0) 0) 2 (w3 ((Z507 42 b (Z900 44 b (Z900 47 b q 0) 0) 2) - s0))) (fun Z518 => (zlet (zu Z518 42 b (Z900 44 b (Z900 47 b q 0) 0) 5 (w3 ((Z518 42 b (Z900 44 b (Z900 47 b q 0) 0) 5) + s0))) (fun Z519 => Z519))))))))))))))))))))) else (if s2 ≠ 0 then (zlet (zu Z901 14 b 0 8 (w3 ((Z901 14 b 0 8) - s2))) (fun Z520 => (zlet (zu Z520 14 b 0 0 (w3 ((Z520 14 b 0 0) + s2))) (fun Z521 => (zlet (zu Z521 53 b ((Z521 11 b 0 12) % 60) 0 8) (fun Z522 => (zlet (zu Z522 53 b ((Z521 11 b 0 12) % 60) 1 0) (fun Z523 => (zlet (zu Z523 53 b ((Z521 11 b 0 12) % 60) 2 s2) (fun Z524 => (zlet (zu Z524 53 b ((Z521 11 b 0 12) % 60) 3 (Z900 47 b q 0)) (fun Z525 => (zlet (zu Z525 53 b ((Z521 11 b 0 12) % 60) 4 (Z525 11 b 0 13)) (fun Z526 => (zlet (zu Z526 11 b 0 12 ((Z526 11 b 0 12) + 1)) (fun Z527 => (zlet (zu Z527 42 b (Z900 44 b (Z900 47 b q 0) 0) 2 ((Z527 42 b (Z900 44 b (Z900 47 b q 0) 0) 2) - s0)) (fun Z528 => (zlet (zu Z528 42 b (Z900 44 b (Z900 47 b q 0) 0) 5 ((Z528 42 b (Z900 44 b (Z900 47 b q 0) 0) 5) + s0)) (fun Z529 => Z529)))))))))))))))))))) else (zlet (zu Z901 42 b (Z900 44 b (Z900 47 b q 0) 0) 2 ((Z901 42 b (Z900 44 b (Z900 47 b q 0) 0) 2) - s0)) (fun Z530 => (zlet (zu Z530 42 b (Z900 44 b (Z900 47 b q 0) 0) 5 ((Z530 42 b (Z900 44 b (Z900 47 b q 0) 0) 5) + s0)) (fun Z531 => Z531)))))), n16) := by
  rw [hZ901.1, hZ901.2.2]
  split
  · rename_i c1
    refine zl_cgp (P := zS3 n s0 s1 s2) (zS3_u hZ901 (by decide)) (fun Z500 hZ500 => ?_)
    refine zl_cgp (P := zS3 n s0 s1 s2) (zS3_u hZ500 (by decide)) (fun Z501 hZ501 => ?_)
    refine zl_cgp (P := zS3 n s0 s1 s2) (zS3_u hZ501 (by decide)) (fun Z502 hZ502 => ?_)
    refine zl_cgp (P := zS3 n s0 s1 s2) (zS3_u hZ502 (by decide)) (fun Z503 hZ503 => ?_)
    refine zl_cgp (P := zS3 n s0 s1 s2) (zS3_u hZ503 (by decide)) (fun Z504 hZ504 => ?_)
    refine zl_cgp (P := zS3 n s0 s1 s2) (zS3_u hZ504 (by decide)) (fun Z505 hZ505 => ?_)
    refine zl_cgp (P := zS3 n s0 s1 s2) (zS3_u hZ505 (by decide)) (fun Z506 hZ506 => ?_)
    refine zl_cgp (P := zS3 n s0 s1 s2) (zS3_u hZ506 (by decide)) (fun Z507 hZ507 => ?_)
    have e9 := zb7_1 (Z900 := Z900) hZ507 (b := b) (i := i) (q := q) (v := v) (n16 := n16)
    try simp only [hZ507.1, hZ507.2.1, hZ507.2.2] at e9
    try simp only [hZ507.1, hZ507.2.1, hZ507.2.2]
    exact e9
  · rename_i c1
    have e9 := zb7_2 (Z900 := Z900) hZ901 (b := b) (i := i) (q := q) (v := v) (n16 := n16)
    try simp only [hZ901.1, hZ901.2.1, hZ901.2.2] at e9
    try simp only [hZ901.1, hZ901.2.1, hZ901.2.2]
    exact e9
def zg_7 (p : qz_Z × Int) (b : Int) (i : Int) (q : Int) (v : Int) (n : Int) : qz_Z × Int := zlet2 p (fun Z14 n16 => (zlet (zu Z14 54 b i 2 2) (fun Z18 => (zlet (zu Z18 54 b i 3 v) (fun Z22 => (zlet (zpy Z22 200 n 0 54 b i 4 3) (fun Z24 => (zlet (zu Z24 47 b q 19 (w3 ((Z24 47 b q 19) - (min (Z24 47 b q 19) v)))) (fun Z29 => (zlet (zu Z29 45 b (Z24 47 b q 1) 4 (w3 ((Z29 45 b (Z24 47 b q 1) 4) - (min (Z24 47 b q 19) v)))) (fun Z33 => (zlet (zu Z33 45 b (Z24 47 b q 1) 3 (w3 ((Z33 45 b (Z24 47 b q 1) 3) + (w3 (v - (min (Z24 47 b q 19) v)))))) (fun Z38 => (zlet (zu Z38 45 b (Z24 47 b q 1) 13 (w3 ((Z38 45 b (Z24 47 b q 1) 13) + v))) (fun Z42 => (zlet (zu Z42 14 b 0 1 (w3 ((Z42 14 b 0 1) - v))) (fun Z48 => (zlet (zu Z48 14 b 0 8 (w3 ((Z48 14 b 0 8) + v))) (fun Z52 => (zlet (zu Z52 53 b ((Z52 11 b 0 12) % 60) 0 1) (fun Z55 => (zlet (zu Z55 53 b ((Z52 11 b 0 12) % 60) 1 8) (fun Z57 => (zlet (zu Z57 53 b ((Z52 11 b 0 12) % 60) 2 v) (fun Z59 => (zlet (zu Z59 53 b ((Z52 11 b 0 12) % 60) 3 (Z42 47 b q 0)) (fun Z61 => (zlet (zu Z61 53 b ((Z52 11 b 0 12) % 60) 4 (Z61 11 b 0 13)) (fun Z64 => (zlet (zu Z64 11 b 0 12 ((Z64 11 b 0 12) + 1)) (fun Z68 => (if (Z68 200 n 0 0) ≠ 0 then (zlet (zu Z68 14 b 0 8 (w3 ((Z68 14 b 0 8) - (Z68 200 n 0 0)))) (fun Z75 => (zlet (zu Z75 14 b 0 2 (w3 ((Z75 14 b 0 2) + (Z68 200 n 0 0)))) (fun Z79 => (zlet (zu Z79 53 b ((Z79 11 b 0 12) % 60) 0 8) (fun Z83 => (zlet (zu Z83 53 b ((Z79 11 b 0 12) % 60) 1 2) (fun Z85 => (zlet (zu Z85 53 b ((Z79 11 b 0 12) % 60) 2 (Z68 200 n 0 0)) (fun Z87 => (zlet (zu Z87 53 b ((Z79 11 b 0 12) % 60) 3 (Z42 47 b q 0)) (fun Z89 => (zlet (zu Z89 53 b ((Z79 11 b 0 12) % 60) 4 (Z89 11 b 0 13)) (fun Z93 => (zlet (zu Z93 11 b 0 12 ((Z93 11 b 0 12) + 1)) (fun Z97 => (if (Z97 200 n 0 2) ≠ 0 then (zlet (zu Z97 14 b 0 8 (w3 ((Z97 14 b 0 8) - (Z97 200 n 0 2)))) (fun Z104 => (zlet (zu Z104 14 b 0 0 (w3 ((Z104 14 b 0 0) + (Z97 200 n 0 2)))) (fun Z108 => (zlet (zu Z108 53 b ((Z108 11 b 0 12) % 60) 0 8) (fun Z112 => (zlet (zu Z112 53 b ((Z108 11 b 0 12) % 60) 1 0) (fun Z114 => (zlet (zu Z114 53 b ((Z108 11 b 0 12) % 60) 2 (Z97 200 n 0 2)) (fun Z116 => (zlet (zu Z116 53 b ((Z108 11 b 0 12) % 60) 3 (Z42 47 b q 0)) (fun Z118 => (zlet (zu Z118 53 b ((Z108 11 b 0 12) % 60) 4 (Z118 11 b 0 13)) (fun Z122 => (zlet (zu Z122 11 b 0 12 ((Z122 11 b 0 12) + 1)) (fun Z126 => (zlet (zu Z126 42 b (Z42 44 b (Z42 47 b q 0) 0) 2 (w3 ((Z126 42 b (Z42 44 b (Z42 47 b q 0) 0) 2) - (Z126 200 n 0 0)))) (fun Z132 => (zlet (zu Z132 42 b (Z42 44 b (Z42 47 b q 0) 0) 5 (w3 ((Z132 42 b (Z42 44 b (Z42 47 b q 0) 0) 5) + (Z132 200 n 0 0)))) (fun Z138 => (Z138, n16))))))))))))))))))))) else (zlet (zu Z97 42 b (Z42 44 b (Z42 47 b q 0) 0) 2 (w3 ((Z97 42 b (Z42 44 b (Z42 47 b q 0) 0) 2) - (Z97 200 n 0 0)))) (fun Z144 => (zlet (zu Z144 42 b (Z42 44 b (Z42 47 b q 0) 0) 5 (w3 ((Z144 42 b (Z42 44 b (Z42 47 b q 0) 0) 5) + (Z144 200 n 0 0)))) (fun Z150 => (Z150, n16)))))))))))))))))))))) else (if (Z68 200 n 0 2) ≠ 0 then (zlet (zu Z68 14 b 0 8 (w3 ((Z68 14 b 0 8) - (Z68 200 n 0 2)))) (fun Z157 => (zlet (zu Z157 14 b 0 0 (w3 ((Z157 14 b 0 0) + (Z68 200 n 0 2)))) (fun Z161 => (zlet (zu Z161 53 b ((Z161 11 b 0 12) % 60) 0 8) (fun Z165 => (zlet (zu Z165 53 b ((Z161 11 b 0 12) % 60) 1 0) (fun Z167 => (zlet (zu Z167 53 b ((Z161 11 b 0 12) % 60) 2 (Z68 200 n 0 2)) (fun Z169 => (zlet (zu Z169 53 b ((Z161 11 b 0 12) % 60) 3 (Z42 47 b q 0)) (fun Z171 => (zlet (zu Z171 53 b ((Z161 11 b 0 12) % 60) 4 (Z171 11 b 0 13)) (fun Z175 => (zlet (zu Z175 11 b 0 12 ((Z175 11 b 0 12) + 1)) (fun Z179 => (zlet (zu Z179 42 b (Z42 44 b (Z42 47 b q 0) 0) 2 ((Z179 42 b (Z42 44 b (Z42 47 b q 0) 0) 2) - (Z179 200 n 0 0))) (fun Z184 => (zlet (zu Z184 42 b (Z42 44 b (Z42 47 b q 0) 0) 5 ((Z184 42 b (Z42 44 b (Z42 47 b q 0) 0) 5) + (Z184 200 n 0 0))) (fun Z189 => (Z189, n16))))))))))))))))))))) else (zlet (zu Z68 42 b (Z42 44 b (Z42 47 b q 0) 0) 2 ((Z68 42 b (Z42 44 b (Z42 47 b q 0) 0) 2) - (Z68 200 n 0 0))) (fun Z192 => (zlet (zu Z192 42 b (Z42 44 b (Z42 47 b q 0) 0) 5 ((Z192 42 b (Z42 44 b (Z42 47 b q 0) 0) 5) + (Z192 200 n 0 0))) (fun Z197 => (Z197, n16))))))))))))))))))))))))))))))))))))))
set_option maxRecDepth 16000 in
set_option maxHeartbeats 4000000 in
theorem zb7 {Z14 : qz_Z} {b i q v n n16 s0 s1 s2 : Int} (h : zS3 n s0 s1 s2 Z14) : zg_7 (Z14, n16) b i q v n = (zf_9007 Z14 b i q v s0 s1 s2, n16) := by
  unfold zg_7 zf_9007
  rw [zlet2_b]
  dsimp only
  refine zl_cgp (P := zS3 n s0 s1 s2) (zS3_u h (by decide)) (fun Z18 hZ18 => ?_)
  refine zl_cgp (P := zS3 n s0 s1 s2) (zS3_u hZ18 (by decide)) (fun Z22 hZ22 => ?_)
  rw []
  rw [zpy_s3 hZ22]
  refine zl_cg3 (v1 := zu Z22 54 b i 4 s0) (f := fun z => zu z 54 b i 5 s1) (g := fun z => zu z 54 b i 6 s2) (P := zS3 n s0 s1 s2) (zS3_u (k := 54) (zS3_u (k := 54) (zS3_u (k := 54) hZ22 (by decide)) (by decide)) (by decide)) (fun Z24 hZ24 => ?_)
  refine zl_cgp (P := zS3 n s0 s1 s2) (zS3_u hZ24 (by decide)) (fun Z29 hZ29 => ?_)
  refine zl_cgp (P := zS3 n s0 s1 s2) (zS3_u hZ29 (by decide)) (fun Z33 hZ33 => ?_)
  refine zl_cgp (P := zS3 n s0 s1 s2) (zS3_u hZ33 (by decide)) (fun Z38 hZ38 => ?_)
  refine zl_cgp (P := zS3 n s0 s1 s2) (zS3_u hZ38 (by decide)) (fun Z42 hZ42 => ?_)
  refine zl_cgp (P := zS3 n s0 s1 s2) (zS3_u hZ42 (by decide)) (fun Z48 hZ48 => ?_)
  refine zl_cgp (P := zS3 n s0 s1 s2) (zS3_u hZ48 (by decide)) (fun Z52 hZ52 => ?_)
  refine zl_cgp (P := zS3 n s0 s1 s2) (zS3_u hZ52 (by decide)) (fun Z55 hZ55 => ?_)
  refine zl_cgp (P := zS3 n s0 s1 s2) (zS3_u hZ55 (by decide)) (fun Z57 hZ57 => ?_)
  refine zl_cgp (P := zS3 n s0 s1 s2) (zS3_u hZ57 (by decide)) (fun Z59 hZ59 => ?_)
  refine zl_cgp (P := zS3 n s0 s1 s2) (zS3_u hZ59 (by decide)) (fun Z61 hZ61 => ?_)
  refine zl_cgp (P := zS3 n s0 s1 s2) (zS3_u hZ61 (by decide)) (fun Z64 hZ64 => ?_)
  refine zl_cgp (P := zS3 n s0 s1 s2) (zS3_u hZ64 (by decide)) (fun Z68 hZ68 => ?_)
  have e9 := zb7_0 (Z900 := Z42) hZ68 (b := b) (i := i) (q := q) (v := v) (n16 := n16)
  try simp only [hZ68.1, hZ68.2.1, hZ68.2.2] at e9
  try simp only [hZ68.1, hZ68.2.1, hZ68.2.2]
  exact e9
