/-! A quarrel judged: the class's shares lie in an array that it makes, the reference's in the row. -/
def zS3 (n s0 s1 s2 : Int) (Z : qz_Z) : Prop := Z 200 n 0 0 = s0 ∧ Z 200 n 0 1 = s1 ∧ Z 200 n 0 2 = s2
theorem zS3_u {n s0 s1 s2 : Int} {Z : qz_Z} {k : Nat} {b i j v : Int} (h : zS3 n s0 s1 s2 Z) (hk : k ≠ 200) : zS3 n s0 s1 s2 (zu Z k b i j v) := by
  refine ⟨?_, ?_, ?_⟩
  · rw [zu_ne rfl (fun q => hk q.1.symm)]; exact h.1
  · rw [zu_ne rfl (fun q => hk q.1.symm)]; exact h.2.1
  · rw [zu_ne rfl (fun q => hk q.1.symm)]; exact h.2.2
theorem zl_cgp {α β : Type} {v : qz_Z} {k : qz_Z → α × β} {k' : qz_Z → α} {m : β} {P : qz_Z → Prop} (hv : P v) (h : ∀ z, P z → k z = (k' z, m)) : zlet v k = (zlet v k', m) := h v hv
theorem zpy_s3 {n s0 s1 s2 b i : Int} {Z : qz_Z} (h : zS3 n s0 s1 s2 Z) : zpy Z 200 n 0 54 b i 4 3 = zu (zu (zu Z 54 b i 4 s0) 54 b i 5 s1) 54 b i 6 s2 := by
  funext k' b' i' j'
  show (if k' = 54 ∧ b' = b ∧ i' = i ∧ (4 : Int) ≤ j' ∧ j' < 4 + 3 then Z 200 n 0 (j' - 4) else Z k' b' i' j') = (if k' = 54 ∧ b' = b ∧ i' = i ∧ j' = 6 then s2 else if k' = 54 ∧ b' = b ∧ i' = i ∧ j' = 5 then s1 else if k' = 54 ∧ b' = b ∧ i' = i ∧ j' = 4 then s0 else Z k' b' i' j')
  by_cases c : k' = 54 ∧ b' = b ∧ i' = i
  · obtain ⟨rfl, rfl, rfl⟩ := c
    by_cases g : 4 ≤ j' ∧ j' < 4 + 3
    · rw [if_pos ⟨rfl, rfl, rfl, g.1, g.2⟩]
      rcases (show j' = 4 ∨ j' = 5 ∨ j' = 6 by omega) with rfl | rfl | rfl
      · rw [if_neg (fun q => absurd q.2.2.2 (by decide)), if_neg (fun q => absurd q.2.2.2 (by decide)), if_pos ⟨rfl, rfl, rfl, rfl⟩]
        exact h.1
      · rw [if_neg (fun q => absurd q.2.2.2 (by decide)), if_pos ⟨rfl, rfl, rfl, rfl⟩]
        exact h.2.1
      · rw [if_pos ⟨rfl, rfl, rfl, rfl⟩]
        exact h.2.2
    · rw [if_neg (fun q => g ⟨q.2.2.2.1, q.2.2.2.2⟩), if_neg (fun q => g (by have := q.2.2.2; omega)), if_neg (fun q => g (by have := q.2.2.2; omega)), if_neg (fun q => g (by have := q.2.2.2; omega))]
  · rw [if_neg (fun q => c ⟨q.1, q.2.1, q.2.2.1⟩), if_neg (fun q => c ⟨q.1, q.2.1, q.2.2.1⟩), if_neg (fun q => c ⟨q.1, q.2.1, q.2.2.1⟩), if_neg (fun q => c ⟨q.1, q.2.1, q.2.2.1⟩)]
def zg_7 (p : qz_Z × Int) (b : Int) (i : Int) (q : Int) (v : Int) (n : Int) : qz_Z × Int := zlet2 p (fun Z14 n16 => (zlet (zu Z14 54 b i 2 2) (fun Z18 => (zlet (zu Z18 54 b i 3 v) (fun Z22 => (zlet (zpy Z22 200 n 0 54 b i 4 3) (fun Z24 => (zlet (zu Z24 47 b q 19 (w3 ((Z24 47 b q 19) - (min (Z24 47 b q 19) v)))) (fun Z29 => (zlet (zu Z29 45 b (Z24 47 b q 1) 4 (w3 ((Z29 45 b (Z24 47 b q 1) 4) - (min (Z24 47 b q 19) v)))) (fun Z33 => (zlet (zu Z33 45 b (Z24 47 b q 1) 3 (w3 ((Z33 45 b (Z24 47 b q 1) 3) + (w3 (v - (min (Z24 47 b q 19) v)))))) (fun Z38 => (zlet (zu Z38 45 b (Z24 47 b q 1) 13 (w3 ((Z38 45 b (Z24 47 b q 1) 13) + v))) (fun Z42 => (zlet (zu Z42 14 b 0 1 (w3 ((Z42 14 b 0 1) - v))) (fun Z48 => (zlet (zu Z48 14 b 0 8 (w3 ((Z48 14 b 0 8) + v))) (fun Z52 => (zlet (zu Z52 53 b ((Z52 11 b 0 12) % 60) 0 1) (fun Z55 => (zlet (zu Z55 53 b ((Z52 11 b 0 12) % 60) 1 8) (fun Z57 => (zlet (zu Z57 53 b ((Z52 11 b 0 12) % 60) 2 v) (fun Z59 => (zlet (zu Z59 53 b ((Z52 11 b 0 12) % 60) 3 (Z42 47 b q 0)) (fun Z61 => (zlet (zu Z61 53 b ((Z52 11 b 0 12) % 60) 4 (Z61 11 b 0 13)) (fun Z64 => (zlet (zu Z64 11 b 0 12 ((Z64 11 b 0 12) + 1)) (fun Z68 => (if (Z68 200 n 0 0) ≠ 0 then (zlet (zu Z68 14 b 0 8 (w3 ((Z68 14 b 0 8) - (Z68 200 n 0 0)))) (fun Z75 => (zlet (zu Z75 14 b 0 2 (w3 ((Z75 14 b 0 2) + (Z68 200 n 0 0)))) (fun Z79 => (zlet (zu Z79 53 b ((Z79 11 b 0 12) % 60) 0 8) (fun Z83 => (zlet (zu Z83 53 b ((Z79 11 b 0 12) % 60) 1 2) (fun Z85 => (zlet (zu Z85 53 b ((Z79 11 b 0 12) % 60) 2 (Z68 200 n 0 0)) (fun Z87 => (zlet (zu Z87 53 b ((Z79 11 b 0 12) % 60) 3 (Z42 47 b q 0)) (fun Z89 => (zlet (zu Z89 53 b ((Z79 11 b 0 12) % 60) 4 (Z89 11 b 0 13)) (fun Z93 => (zlet (zu Z93 11 b 0 12 ((Z93 11 b 0 12) + 1)) (fun Z97 => (if (Z97 200 n 0 2) ≠ 0 then (zlet (zu Z97 14 b 0 8 (w3 ((Z97 14 b 0 8) - (Z97 200 n 0 2)))) (fun Z104 => (zlet (zu Z104 14 b 0 0 (w3 ((Z104 14 b 0 0) + (Z97 200 n 0 2)))) (fun Z108 => (zlet (zu Z108 53 b ((Z108 11 b 0 12) % 60) 0 8) (fun Z112 => (zlet (zu Z112 53 b ((Z108 11 b 0 12) % 60) 1 0) (fun Z114 => (zlet (zu Z114 53 b ((Z108 11 b 0 12) % 60) 2 (Z97 200 n 0 2)) (fun Z116 => (zlet (zu Z116 53 b ((Z108 11 b 0 12) % 60) 3 (Z42 47 b q 0)) (fun Z118 => (zlet (zu Z118 53 b ((Z108 11 b 0 12) % 60) 4 (Z118 11 b 0 13)) (fun Z122 => (zlet (zu Z122 11 b 0 12 ((Z122 11 b 0 12) + 1)) (fun Z126 => (zlet (zu Z126 42 b (Z42 44 b (Z42 47 b q 0) 0) 2 (w3 ((Z126 42 b (Z42 44 b (Z42 47 b q 0) 0) 2) - (Z126 200 n 0 0)))) (fun Z132 => (zlet (zu Z132 42 b (Z42 44 b (Z42 47 b q 0) 0) 5 (w3 ((Z132 42 b (Z42 44 b (Z42 47 b q 0) 0) 5) + (Z132 200 n 0 0)))) (fun Z138 => (Z138, n16))))))))))))))))))))) else (zlet (zu Z97 42 b (Z42 44 b (Z42 47 b q 0) 0) 2 (w3 ((Z97 42 b (Z42 44 b (Z42 47 b q 0) 0) 2) - (Z97 200 n 0 0)))) (fun Z144 => (zlet (zu Z144 42 b (Z42 44 b (Z42 47 b q 0) 0) 5 (w3 ((Z144 42 b (Z42 44 b (Z42 47 b q 0) 0) 5) + (Z144 200 n 0 0)))) (fun Z150 => (Z150, n16)))))))))))))))))))))) else (if (Z68 200 n 0 2) ≠ 0 then (zlet (zu Z68 14 b 0 8 (w3 ((Z68 14 b 0 8) - (Z68 200 n 0 2)))) (fun Z157 => (zlet (zu Z157 14 b 0 0 (w3 ((Z157 14 b 0 0) + (Z68 200 n 0 2)))) (fun Z161 => (zlet (zu Z161 53 b ((Z161 11 b 0 12) % 60) 0 8) (fun Z165 => (zlet (zu Z165 53 b ((Z161 11 b 0 12) % 60) 1 0) (fun Z167 => (zlet (zu Z167 53 b ((Z161 11 b 0 12) % 60) 2 (Z68 200 n 0 2)) (fun Z169 => (zlet (zu Z169 53 b ((Z161 11 b 0 12) % 60) 3 (Z42 47 b q 0)) (fun Z171 => (zlet (zu Z171 53 b ((Z161 11 b 0 12) % 60) 4 (Z171 11 b 0 13)) (fun Z175 => (zlet (zu Z175 11 b 0 12 ((Z175 11 b 0 12) + 1)) (fun Z179 => (zlet (zu Z179 42 b (Z42 44 b (Z42 47 b q 0) 0) 2 ((Z179 42 b (Z42 44 b (Z42 47 b q 0) 0) 2) - (Z179 200 n 0 0))) (fun Z184 => (zlet (zu Z184 42 b (Z42 44 b (Z42 47 b q 0) 0) 5 ((Z184 42 b (Z42 44 b (Z42 47 b q 0) 0) 5) + (Z184 200 n 0 0))) (fun Z189 => (Z189, n16))))))))))))))))))))) else (zlet (zu Z68 42 b (Z42 44 b (Z42 47 b q 0) 0) 2 ((Z68 42 b (Z42 44 b (Z42 47 b q 0) 0) 2) - (Z68 200 n 0 0))) (fun Z192 => (zlet (zu Z192 42 b (Z42 44 b (Z42 47 b q 0) 0) 5 ((Z192 42 b (Z42 44 b (Z42 47 b q 0) 0) 5) + (Z192 200 n 0 0))) (fun Z197 => (Z197, n16))))))))))))))))))))))))))))))))))))))
set_option maxHeartbeats 4000000 in
theorem zb7 {Z14 : qz_Z} {b i q v n n16 s0 s1 s2 : Int} (h : zS3 n s0 s1 s2 Z14) : zg_7 (Z14, n16) b i q v n = (zf_9007 Z14 b i q v s0 s1 s2, n16) := by
  unfold zf_9007
  show (zlet (zu Z14 54 b i 2 2) (fun Z18 => (zlet (zu Z18 54 b i 3 v) (fun Z22 => (zlet (zpy Z22 200 n 0 54 b i 4 3) (fun Z24 => (zlet (zu Z24 47 b q 19 (w3 ((Z24 47 b q 19) - (min (Z24 47 b q 19) v)))) (fun Z29 => (zlet (zu Z29 45 b (Z24 47 b q 1) 4 (w3 ((Z29 45 b (Z24 47 b q 1) 4) - (min (Z24 47 b q 19) v)))) (fun Z33 => (zlet (zu Z33 45 b (Z24 47 b q 1) 3 (w3 ((Z33 45 b (Z24 47 b q 1) 3) + (w3 (v - (min (Z24 47 b q 19) v)))))) (fun Z38 => (zlet (zu Z38 45 b (Z24 47 b q 1) 13 (w3 ((Z38 45 b (Z24 47 b q 1) 13) + v))) (fun Z42 => (zlet (zu Z42 14 b 0 1 (w3 ((Z42 14 b 0 1) - v))) (fun Z48 => (zlet (zu Z48 14 b 0 8 (w3 ((Z48 14 b 0 8) + v))) (fun Z52 => (zlet (zu Z52 53 b ((Z52 11 b 0 12) % 60) 0 1) (fun Z55 => (zlet (zu Z55 53 b ((Z52 11 b 0 12) % 60) 1 8) (fun Z57 => (zlet (zu Z57 53 b ((Z52 11 b 0 12) % 60) 2 v) (fun Z59 => (zlet (zu Z59 53 b ((Z52 11 b 0 12) % 60) 3 (Z42 47 b q 0)) (fun Z61 => (zlet (zu Z61 53 b ((Z52 11 b 0 12) % 60) 4 (Z61 11 b 0 13)) (fun Z64 => (zlet (zu Z64 11 b 0 12 ((Z64 11 b 0 12) + 1)) (fun Z68 => (if (Z68 200 n 0 0) ≠ 0 then (zlet (zu Z68 14 b 0 8 (w3 ((Z68 14 b 0 8) - (Z68 200 n 0 0)))) (fun Z75 => (zlet (zu Z75 14 b 0 2 (w3 ((Z75 14 b 0 2) + (Z68 200 n 0 0)))) (fun Z79 => (zlet (zu Z79 53 b ((Z79 11 b 0 12) % 60) 0 8) (fun Z83 => (zlet (zu Z83 53 b ((Z79 11 b 0 12) % 60) 1 2) (fun Z85 => (zlet (zu Z85 53 b ((Z79 11 b 0 12) % 60) 2 (Z68 200 n 0 0)) (fun Z87 => (zlet (zu Z87 53 b ((Z79 11 b 0 12) % 60) 3 (Z42 47 b q 0)) (fun Z89 => (zlet (zu Z89 53 b ((Z79 11 b 0 12) % 60) 4 (Z89 11 b 0 13)) (fun Z93 => (zlet (zu Z93 11 b 0 12 ((Z93 11 b 0 12) + 1)) (fun Z97 => (if (Z97 200 n 0 2) ≠ 0 then (zlet (zu Z97 14 b 0 8 (w3 ((Z97 14 b 0 8) - (Z97 200 n 0 2)))) (fun Z104 => (zlet (zu Z104 14 b 0 0 (w3 ((Z104 14 b 0 0) + (Z97 200 n 0 2)))) (fun Z108 => (zlet (zu Z108 53 b ((Z108 11 b 0 12) % 60) 0 8) (fun Z112 => (zlet (zu Z112 53 b ((Z108 11 b 0 12) % 60) 1 0) (fun Z114 => (zlet (zu Z114 53 b ((Z108 11 b 0 12) % 60) 2 (Z97 200 n 0 2)) (fun Z116 => (zlet (zu Z116 53 b ((Z108 11 b 0 12) % 60) 3 (Z42 47 b q 0)) (fun Z118 => (zlet (zu Z118 53 b ((Z108 11 b 0 12) % 60) 4 (Z118 11 b 0 13)) (fun Z122 => (zlet (zu Z122 11 b 0 12 ((Z122 11 b 0 12) + 1)) (fun Z126 => (zlet (zu Z126 42 b (Z42 44 b (Z42 47 b q 0) 0) 2 (w3 ((Z126 42 b (Z42 44 b (Z42 47 b q 0) 0) 2) - (Z126 200 n 0 0)))) (fun Z132 => (zlet (zu Z132 42 b (Z42 44 b (Z42 47 b q 0) 0) 5 (w3 ((Z132 42 b (Z42 44 b (Z42 47 b q 0) 0) 5) + (Z132 200 n 0 0)))) (fun Z138 => (Z138, n16))))))))))))))))))))) else (zlet (zu Z97 42 b (Z42 44 b (Z42 47 b q 0) 0) 2 (w3 ((Z97 42 b (Z42 44 b (Z42 47 b q 0) 0) 2) - (Z97 200 n 0 0)))) (fun Z144 => (zlet (zu Z144 42 b (Z42 44 b (Z42 47 b q 0) 0) 5 (w3 ((Z144 42 b (Z42 44 b (Z42 47 b q 0) 0) 5) + (Z144 200 n 0 0)))) (fun Z150 => (Z150, n16)))))))))))))))))))))) else (if (Z68 200 n 0 2) ≠ 0 then (zlet (zu Z68 14 b 0 8 (w3 ((Z68 14 b 0 8) - (Z68 200 n 0 2)))) (fun Z157 => (zlet (zu Z157 14 b 0 0 (w3 ((Z157 14 b 0 0) + (Z68 200 n 0 2)))) (fun Z161 => (zlet (zu Z161 53 b ((Z161 11 b 0 12) % 60) 0 8) (fun Z165 => (zlet (zu Z165 53 b ((Z161 11 b 0 12) % 60) 1 0) (fun Z167 => (zlet (zu Z167 53 b ((Z161 11 b 0 12) % 60) 2 (Z68 200 n 0 2)) (fun Z169 => (zlet (zu Z169 53 b ((Z161 11 b 0 12) % 60) 3 (Z42 47 b q 0)) (fun Z171 => (zlet (zu Z171 53 b ((Z161 11 b 0 12) % 60) 4 (Z171 11 b 0 13)) (fun Z175 => (zlet (zu Z175 11 b 0 12 ((Z175 11 b 0 12) + 1)) (fun Z179 => (zlet (zu Z179 42 b (Z42 44 b (Z42 47 b q 0) 0) 2 ((Z179 42 b (Z42 44 b (Z42 47 b q 0) 0) 2) - (Z179 200 n 0 0))) (fun Z184 => (zlet (zu Z184 42 b (Z42 44 b (Z42 47 b q 0) 0) 5 ((Z184 42 b (Z42 44 b (Z42 47 b q 0) 0) 5) + (Z184 200 n 0 0))) (fun Z189 => (Z189, n16))))))))))))))))))))) else (zlet (zu Z68 42 b (Z42 44 b (Z42 47 b q 0) 0) 2 ((Z68 42 b (Z42 44 b (Z42 47 b q 0) 0) 2) - (Z68 200 n 0 0))) (fun Z192 => (zlet (zu Z192 42 b (Z42 44 b (Z42 47 b q 0) 0) 5 ((Z192 42 b (Z42 44 b (Z42 47 b q 0) 0) 5) + (Z192 200 n 0 0))) (fun Z197 => (Z197, n16))))))))))))))))))))))))))))))))))))) = _
  refine zl_cgp (P := zS3 n s0 s1 s2) (zS3_u h (by decide)) (fun Z18 hZ18 => ?_)
  refine zl_cgp (P := zS3 n s0 s1 s2) (zS3_u hZ18 (by decide)) (fun Z22 hZ22 => ?_)
  rw []
  rw [zpy_s3 hZ22]
  refine zl_cgp (P := zS3 n s0 s1 s2) (zS3_u (zS3_u (zS3_u hZ22 (by decide)) (by decide)) (by decide)) (fun Z24 hZ24 => ?_)
  refine zl_cgp (P := zS3 n s0 s1 s2) (zS3_u hZ24 (by decide)) (fun Z29 hZ29 => ?_)
  refine zl_cgp (P := zS3 n s0 s1 s2) (zS3_u hZ29 (by decide)) (fun Z33 hZ33 => ?_)
  refine zl_cgp (P := zS3 n s0 s1 s2) (zS3_u hZ33 (by decide)) (fun Z38 hZ38 => ?_)
  refine zl_cgp (P := zS3 n s0 s1 s2) (zS3_u hZ38 (by decide)) (fun Z42 hZ42 => ?_)
  refine zl_cgp (P := zS3 n s0 s1 s2) (zS3_u hZ42 (by decide)) (fun Z48 hZ48 => ?_)
  refine zl_cgp (P := zS3 n s0 s1 s2) (zS3_u hZ48 (by decide)) (fun Z52 hZ52 => ?_)
  refine zl_cgp (P := zS3 n s0 s1 s2) (zS3_u hZ52 (by decide)) (fun Z55 hZ55 => ?_)
  refine zl_cgp (P := zS3 n s0 s1 s2) (zS3_u hZ55 (by decide)) (fun Z57 hZ57 => ?_)
  refine zl_cgp (P := zS3 n s0 s1 s2) (zS3_u hZ57 (by decide)) (fun Z59 hZ59 => ?_)
  refine zl_cgp (P := zS3 n s0 s1 s2) (zS3_u hZ59 (by decide)) (fun Z61 hZ61 => ?_)
  refine zl_cgp (P := zS3 n s0 s1 s2) (zS3_u hZ61 (by decide)) (fun Z64 hZ64 => ?_)
  refine zl_cgp (P := zS3 n s0 s1 s2) (zS3_u hZ64 (by decide)) (fun Z68 hZ68 => ?_)
  rw [hZ68.1, hZ68.2.2]
  split
  · rename_i c1
    refine zl_cgp (P := zS3 n s0 s1 s2) (zS3_u hZ68 (by decide)) (fun Z75 hZ75 => ?_)
    refine zl_cgp (P := zS3 n s0 s1 s2) (zS3_u hZ75 (by decide)) (fun Z79 hZ79 => ?_)
    refine zl_cgp (P := zS3 n s0 s1 s2) (zS3_u hZ79 (by decide)) (fun Z83 hZ83 => ?_)
    refine zl_cgp (P := zS3 n s0 s1 s2) (zS3_u hZ83 (by decide)) (fun Z85 hZ85 => ?_)
    refine zl_cgp (P := zS3 n s0 s1 s2) (zS3_u hZ85 (by decide)) (fun Z87 hZ87 => ?_)
    refine zl_cgp (P := zS3 n s0 s1 s2) (zS3_u hZ87 (by decide)) (fun Z89 hZ89 => ?_)
    refine zl_cgp (P := zS3 n s0 s1 s2) (zS3_u hZ89 (by decide)) (fun Z93 hZ93 => ?_)
    refine zl_cgp (P := zS3 n s0 s1 s2) (zS3_u hZ93 (by decide)) (fun Z97 hZ97 => ?_)
    rw [hZ97.1, hZ97.2.2]
    split
    · rename_i c2
      refine zl_cgp (P := zS3 n s0 s1 s2) (zS3_u hZ97 (by decide)) (fun Z104 hZ104 => ?_)
      refine zl_cgp (P := zS3 n s0 s1 s2) (zS3_u hZ104 (by decide)) (fun Z108 hZ108 => ?_)
      refine zl_cgp (P := zS3 n s0 s1 s2) (zS3_u hZ108 (by decide)) (fun Z112 hZ112 => ?_)
      refine zl_cgp (P := zS3 n s0 s1 s2) (zS3_u hZ112 (by decide)) (fun Z114 hZ114 => ?_)
      refine zl_cgp (P := zS3 n s0 s1 s2) (zS3_u hZ114 (by decide)) (fun Z116 hZ116 => ?_)
      refine zl_cgp (P := zS3 n s0 s1 s2) (zS3_u hZ116 (by decide)) (fun Z118 hZ118 => ?_)
      refine zl_cgp (P := zS3 n s0 s1 s2) (zS3_u hZ118 (by decide)) (fun Z122 hZ122 => ?_)
      refine zl_cgp (P := zS3 n s0 s1 s2) (zS3_u hZ122 (by decide)) (fun Z126 hZ126 => ?_)
      rw [hZ126.1]
      refine zl_cgp (P := zS3 n s0 s1 s2) (zS3_u hZ126 (by decide)) (fun Z132 hZ132 => ?_)
      rw [hZ132.1]
      refine zl_cgp (P := zS3 n s0 s1 s2) (zS3_u hZ132 (by decide)) (fun Z138 hZ138 => ?_)
      rfl
    · rename_i c2
      refine zl_cgp (P := zS3 n s0 s1 s2) (zS3_u hZ97 (by decide)) (fun Z144 hZ144 => ?_)
      rw [hZ144.1]
      refine zl_cgp (P := zS3 n s0 s1 s2) (zS3_u hZ144 (by decide)) (fun Z150 hZ150 => ?_)
      rfl
  · rename_i c1
    split
    · rename_i c3
      refine zl_cgp (P := zS3 n s0 s1 s2) (zS3_u hZ68 (by decide)) (fun Z157 hZ157 => ?_)
      refine zl_cgp (P := zS3 n s0 s1 s2) (zS3_u hZ157 (by decide)) (fun Z161 hZ161 => ?_)
      refine zl_cgp (P := zS3 n s0 s1 s2) (zS3_u hZ161 (by decide)) (fun Z165 hZ165 => ?_)
      refine zl_cgp (P := zS3 n s0 s1 s2) (zS3_u hZ165 (by decide)) (fun Z167 hZ167 => ?_)
      refine zl_cgp (P := zS3 n s0 s1 s2) (zS3_u hZ167 (by decide)) (fun Z169 hZ169 => ?_)
      refine zl_cgp (P := zS3 n s0 s1 s2) (zS3_u hZ169 (by decide)) (fun Z171 hZ171 => ?_)
      refine zl_cgp (P := zS3 n s0 s1 s2) (zS3_u hZ171 (by decide)) (fun Z175 hZ175 => ?_)
      refine zl_cgp (P := zS3 n s0 s1 s2) (zS3_u hZ175 (by decide)) (fun Z179 hZ179 => ?_)
      rw [hZ179.1]
      refine zl_cgp (P := zS3 n s0 s1 s2) (zS3_u hZ179 (by decide)) (fun Z184 hZ184 => ?_)
      rw [hZ184.1]
      refine zl_cgp (P := zS3 n s0 s1 s2) (zS3_u hZ184 (by decide)) (fun Z189 hZ189 => ?_)
      rfl
    · rename_i c3
      refine zl_cgp (P := zS3 n s0 s1 s2) (zS3_u hZ68 (by decide)) (fun Z192 hZ192 => ?_)
      rw [hZ192.1]
      refine zl_cgp (P := zS3 n s0 s1 s2) (zS3_u hZ192 (by decide)) (fun Z197 hZ197 => ?_)
      rfl
