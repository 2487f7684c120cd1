def wz_rx (rk : Nat) (kv : qz_M → Option qz_V → Prop) (ke : qz_M → Nat → Prop) : wz_R := fun μ o => match o with
  | .inl (some v) => bif Nat.beq rk 4 then False else kv μ (some v)
  | .inl none => bif Nat.beq rk 4 then kv μ none else False
  | .inr E => ke μ E
def wz_rpk (n : Nat) (k : qz_L → Prop) : Prop := match n with
  | 0 => k []
  | n + 1 => wz_rpk n (fun L => k (none :: L))
def wz_enk (as : List qz_V) (n : Nat) (k : qz_L → Prop) : Prop := match as with
  | [] => wz_rpk n k
  | .inr (.inl v) :: as => wz_enk as (n - 2) (fun L => k (some (.inr (.inl v)) :: none :: L))
  | v :: as => wz_enk as (n - 1) (fun L => k (some v :: L))
theorem wz_rpk_ok : ∀ {n : Nat} {k : qz_L → Prop}, wz_rpk n k → k (List.replicate n none) := by sorry
theorem wz_enk_ok : ∀ {as : List qz_V} {n : Nat} {k : qz_L → Prop}, wz_enk as n k → k (qz_ent as n) := by sorry
def wkx (G : wz_W) (n l kd t : Nat) (hs : List (Nat × Nat)) (rk : Nat) : wz_W := fun k R x => match qz_args n x.2.1 with
  | none => False
  | some (as, rest) => bif (Nat.ble (qz_wt rest) 8 && Nat.ble (qz_es as).length l) && (Nat.beq kd 0 || qz_rcv x.2.2 t as) then wz_enk as l (fun L => G wz_k0 (wz_rx rk (fun μ' v => k 0 (x.1, wz_psh v rest, μ')) (wz_ex kd hs x.1 k R)) (L, [], x.2.2)) else False
theorem s_kx {G : wz_W} {F : qz_F} {n l kd t : Nat} {hs : List (Nat × Nat)} {rk : Nat} (hS : wz_S G F) : wz_S (wkx G n l kd t hs rk) (qn_k (qz_mt l F) n l kd t hs) := by sorry
noncomputable def gw_0 : wz_W := Classical.choice ⟨fun _ _ _ => False⟩
noncomputable def gb_1_1 : wz_W := Classical.choice ⟨fun _ _ _ => False⟩
theorem sb_1_1 : wz_S gb_1_1 qb_1_1 := by sorry
noncomputable def gb_1_2 : wz_W := Classical.choice ⟨fun _ _ _ => False⟩
theorem sb_1_2 : wz_S gb_1_2 qb_1_2 := by sorry
noncomputable def gb_1_3 : wz_W := Classical.choice ⟨fun _ _ _ => False⟩
theorem sb_1_3 : wz_S gb_1_3 qb_1_3 := by sorry
noncomputable def gb_1_4 : wz_W := Classical.choice ⟨fun _ _ _ => False⟩
theorem sb_1_4 : wz_S gb_1_4 qb_1_4 := by sorry
noncomputable def gb_1_5 : wz_W := Classical.choice ⟨fun _ _ _ => False⟩
theorem sb_1_5 : wz_S gb_1_5 qb_1_5 := by sorry
noncomputable def gc_1_6 : wz_W := Classical.choice ⟨fun _ _ _ => False⟩
theorem sc_1_6 : wz_S gc_1_6 qc_1_6 := by sorry
noncomputable def gb_1_7 : wz_W := Classical.choice ⟨fun _ _ _ => False⟩
theorem sb_1_7 : wz_S gb_1_7 qb_1_7 := by sorry
noncomputable def gc_1_8 : wz_W := Classical.choice ⟨fun _ _ _ => False⟩
theorem sc_1_8 : wz_S gc_1_8 qc_1_8 := by sorry
noncomputable def gc_1_9 : wz_W := Classical.choice ⟨fun _ _ _ => False⟩
theorem sc_1_9 : wz_S gc_1_9 qc_1_9 := by sorry
noncomputable def gc_1_10 : wz_W := Classical.choice ⟨fun _ _ _ => False⟩
theorem sc_1_10 : wz_S gc_1_10 qc_1_10 := by sorry
noncomputable def gc_1_11 : wz_W := Classical.choice ⟨fun _ _ _ => False⟩
theorem sc_1_11 : wz_S gc_1_11 qc_1_11 := by sorry
noncomputable def gc_1_12 : wz_W := Classical.choice ⟨fun _ _ _ => False⟩
theorem sc_1_12 : wz_S gc_1_12 qc_1_12 := by sorry
noncomputable def gw_1 : wz_W := Classical.choice ⟨fun _ _ _ => False⟩
noncomputable def gb_3_1 : wz_W := Classical.choice ⟨fun _ _ _ => False⟩
theorem sb_3_1 : wz_S gb_3_1 qb_3_1 := by sorry
noncomputable def gc_3_2 : wz_W := Classical.choice ⟨fun _ _ _ => False⟩
theorem sc_3_2 : wz_S gc_3_2 qc_3_2 := by sorry
noncomputable def gw_3 : wz_W := Classical.choice ⟨fun _ _ _ => False⟩
noncomputable def gw_5 : wz_W := Classical.choice ⟨fun _ _ _ => False⟩
noncomputable def gw_104 : wz_W := Classical.choice ⟨fun _ _ _ => False⟩
noncomputable def gb_9_1 : wz_W := Classical.choice ⟨fun _ _ _ => False⟩
theorem sb_9_1 : wz_S gb_9_1 qb_9_1 := by sorry
noncomputable def gb_9_2 : wz_W := Classical.choice ⟨fun _ _ _ => False⟩
theorem sb_9_2 : wz_S gb_9_2 qb_9_2 := by sorry
noncomputable def gc_9_3 : wz_W := Classical.choice ⟨fun _ _ _ => False⟩
theorem sc_9_3 : wz_S gc_9_3 qc_9_3 := by sorry
noncomputable def gb_9_4 : wz_W := Classical.choice ⟨fun _ _ _ => False⟩
theorem sb_9_4 : wz_S gb_9_4 qb_9_4 := by sorry
noncomputable def gc_9_5 : wz_W := Classical.choice ⟨fun _ _ _ => False⟩
theorem sc_9_5 : wz_S gc_9_5 qc_9_5 := by sorry
noncomputable def gc_9_6 : wz_W := Classical.choice ⟨fun _ _ _ => False⟩
theorem sc_9_6 : wz_S gc_9_6 qc_9_6 := by sorry
noncomputable def gw_9 : wz_W := Classical.choice ⟨fun _ _ _ => False⟩
noncomputable def gw_10 : wz_W := Classical.choice ⟨fun _ _ _ => False⟩
noncomputable def gw_23 : wz_W := Classical.choice ⟨fun _ _ _ => False⟩
noncomputable def gw_7 : wz_W := Classical.choice ⟨fun _ _ _ => False⟩
noncomputable def gw_125 : wz_W := Classical.choice ⟨fun _ _ _ => False⟩
noncomputable def gb_8_1 : wz_W := Classical.choice ⟨fun _ _ _ => False⟩
theorem sb_8_1 : wz_S gb_8_1 qb_8_1 := by sorry
noncomputable def gc_8_2 : wz_W := Classical.choice ⟨fun _ _ _ => False⟩
theorem sc_8_2 : wz_S gc_8_2 qc_8_2 := by sorry
noncomputable def gw_8 : wz_W := Classical.choice ⟨fun _ _ _ => False⟩
noncomputable def gb_4_1 : wz_W := Classical.choice ⟨fun _ _ _ => False⟩
theorem sb_4_1 : wz_S gb_4_1 qb_4_1 := by sorry
noncomputable def gb_4_2 : wz_W := Classical.choice ⟨fun _ _ _ => False⟩
theorem sb_4_2 : wz_S gb_4_2 qb_4_2 := by sorry
noncomputable def gb_4_3 : wz_W := Classical.choice ⟨fun _ _ _ => False⟩
theorem sb_4_3 : wz_S gb_4_3 qb_4_3 := by sorry
noncomputable def gc_4_4 : wz_W := Classical.choice ⟨fun _ _ _ => False⟩
theorem sc_4_4 : wz_S gc_4_4 qc_4_4 := by sorry
noncomputable def gc_4_5 : wz_W := Classical.choice ⟨fun _ _ _ => False⟩
theorem sc_4_5 : wz_S gc_4_5 qc_4_5 := by sorry
noncomputable def gc_4_6 : wz_W := Classical.choice ⟨fun _ _ _ => False⟩
theorem sc_4_6 : wz_S gc_4_6 qc_4_6 := by sorry
noncomputable def gw_4 : wz_W := Classical.choice ⟨fun _ _ _ => False⟩
noncomputable def gw_6 : wz_W := Classical.choice ⟨fun _ _ _ => False⟩
noncomputable def gw_11 : wz_W := Classical.choice ⟨fun _ _ _ => False⟩
noncomputable def gw_12 : wz_W := Classical.choice ⟨fun _ _ _ => False⟩
noncomputable def gw_97 : wz_W := Classical.choice ⟨fun _ _ _ => False⟩
noncomputable def gb_13_1 : wz_W := Classical.choice ⟨fun _ _ _ => False⟩
theorem sb_13_1 : wz_S gb_13_1 qb_13_1 := by sorry
noncomputable def gc_13_2 : wz_W := Classical.choice ⟨fun _ _ _ => False⟩
theorem sc_13_2 : wz_S gc_13_2 qc_13_2 := by sorry
noncomputable def gb_13_3 : wz_W := Classical.choice ⟨fun _ _ _ => False⟩
theorem sb_13_3 : wz_S gb_13_3 qb_13_3 := by sorry
noncomputable def gb_13_4 : wz_W := Classical.choice ⟨fun _ _ _ => False⟩
theorem sb_13_4 : wz_S gb_13_4 qb_13_4 := by sorry
noncomputable def gb_13_5 : wz_W := Classical.choice ⟨fun _ _ _ => False⟩
theorem sb_13_5 : wz_S gb_13_5 qb_13_5 := by sorry
noncomputable def gc_13_6 : wz_W := Classical.choice ⟨fun _ _ _ => False⟩
theorem sc_13_6 : wz_S gc_13_6 qc_13_6 := by sorry
noncomputable def gc_13_7 : wz_W := Classical.choice ⟨fun _ _ _ => False⟩
theorem sc_13_7 : wz_S gc_13_7 qc_13_7 := by sorry
noncomputable def gc_13_8 : wz_W := Classical.choice ⟨fun _ _ _ => False⟩
theorem sc_13_8 : wz_S gc_13_8 qc_13_8 := by sorry
noncomputable def gw_13 : wz_W := Classical.choice ⟨fun _ _ _ => False⟩
noncomputable def gw_117 : wz_W := Classical.choice ⟨fun _ _ _ => False⟩
noncomputable def gw_14 : wz_W := Classical.choice ⟨fun _ _ _ => False⟩
noncomputable def gw_15 : wz_W := Classical.choice ⟨fun _ _ _ => False⟩
noncomputable def gw_16 : wz_W := Classical.choice ⟨fun _ _ _ => False⟩
noncomputable def gb_30_1 : wz_W := Classical.choice ⟨fun _ _ _ => False⟩
theorem sb_30_1 : wz_S gb_30_1 qb_30_1 := by sorry
noncomputable def gc_30_2 : wz_W := Classical.choice ⟨fun _ _ _ => False⟩
theorem sc_30_2 : wz_S gc_30_2 qc_30_2 := by sorry
noncomputable def gw_30 : wz_W := Classical.choice ⟨fun _ _ _ => False⟩
noncomputable def gb_17_1 : wz_W := Classical.choice ⟨fun _ _ _ => False⟩
theorem sb_17_1 : wz_S gb_17_1 qb_17_1 := by sorry
noncomputable def gc_17_2 : wz_W := Classical.choice ⟨fun _ _ _ => False⟩
theorem sc_17_2 : wz_S gc_17_2 qc_17_2 := by sorry
noncomputable def gb_17_3 : wz_W := Classical.choice ⟨fun _ _ _ => False⟩
theorem sb_17_3 : wz_S gb_17_3 qb_17_3 := by sorry
noncomputable def gb_17_4 : wz_W := Classical.choice ⟨fun _ _ _ => False⟩
theorem sb_17_4 : wz_S gb_17_4 qb_17_4 := by sorry
noncomputable def gc_17_5 : wz_W := Classical.choice ⟨fun _ _ _ => False⟩
theorem sc_17_5 : wz_S gc_17_5 qc_17_5 := by sorry
noncomputable def gc_17_6 : wz_W := Classical.choice ⟨fun _ _ _ => False⟩
theorem sc_17_6 : wz_S gc_17_6 qc_17_6 := by sorry
noncomputable def gw_17 : wz_W := Classical.choice ⟨fun _ _ _ => False⟩
noncomputable def gw_18 : wz_W := Classical.choice ⟨fun _ _ _ => False⟩
noncomputable def gb_19_1 : wz_W := Classical.choice ⟨fun _ _ _ => False⟩
theorem sb_19_1 : wz_S gb_19_1 qb_19_1 := by sorry
noncomputable def gc_19_2 : wz_W := Classical.choice ⟨fun _ _ _ => False⟩
theorem sc_19_2 : wz_S gc_19_2 qc_19_2 := by sorry
noncomputable def gw_19 : wz_W := Classical.choice ⟨fun _ _ _ => False⟩
noncomputable def gw_20 : wz_W := Classical.choice ⟨fun _ _ _ => False⟩
noncomputable def gb_22_1 : wz_W := Classical.choice ⟨fun _ _ _ => False⟩
theorem sb_22_1 : wz_S gb_22_1 qb_22_1 := by sorry
noncomputable def gc_22_2 : wz_W := Classical.choice ⟨fun _ _ _ => False⟩
theorem sc_22_2 : wz_S gc_22_2 qc_22_2 := by sorry
noncomputable def gb_22_3 : wz_W := Classical.choice ⟨fun _ _ _ => False⟩
theorem sb_22_3 : wz_S gb_22_3 qb_22_3 := by sorry
noncomputable def gc_22_4 : wz_W := Classical.choice ⟨fun _ _ _ => False⟩
theorem sc_22_4 : wz_S gc_22_4 qc_22_4 := by sorry
noncomputable def gw_22 : wz_W := Classical.choice ⟨fun _ _ _ => False⟩
noncomputable def gb_29_1 : wz_W := Classical.choice ⟨fun _ _ _ => False⟩
theorem sb_29_1 : wz_S gb_29_1 qb_29_1 := by sorry
noncomputable def gc_29_2 : wz_W := Classical.choice ⟨fun _ _ _ => False⟩
theorem sc_29_2 : wz_S gc_29_2 qc_29_2 := by sorry
noncomputable def gw_29 : wz_W := Classical.choice ⟨fun _ _ _ => False⟩
noncomputable def gb_24_1 : wz_W := Classical.choice ⟨fun _ _ _ => False⟩
theorem sb_24_1 : wz_S gb_24_1 qb_24_1 := by sorry
noncomputable def gb_24_2 : wz_W := Classical.choice ⟨fun _ _ _ => False⟩
theorem sb_24_2 : wz_S gb_24_2 qb_24_2 := by sorry
noncomputable def gc_24_3 : wz_W := Classical.choice ⟨fun _ _ _ => False⟩
theorem sc_24_3 : wz_S gc_24_3 qc_24_3 := by sorry
noncomputable def gc_24_4 : wz_W := Classical.choice ⟨fun _ _ _ => False⟩
theorem sc_24_4 : wz_S gc_24_4 qc_24_4 := by sorry
noncomputable def gw_24 : wz_W := Classical.choice ⟨fun _ _ _ => False⟩
noncomputable def gb_21_1 : wz_W := Classical.choice ⟨fun _ _ _ => False⟩
theorem sb_21_1 : wz_S gb_21_1 qb_21_1 := by sorry
noncomputable def gb_21_2 : wz_W := Classical.choice ⟨fun _ _ _ => False⟩
theorem sb_21_2 : wz_S gb_21_2 qb_21_2 := by sorry
noncomputable def gc_21_3 : wz_W := Classical.choice ⟨fun _ _ _ => False⟩
theorem sc_21_3 : wz_S gc_21_3 qc_21_3 := by sorry
noncomputable def gc_21_4 : wz_W := Classical.choice ⟨fun _ _ _ => False⟩
theorem sc_21_4 : wz_S gc_21_4 qc_21_4 := by sorry
noncomputable def gw_21 : wz_W := Classical.choice ⟨fun _ _ _ => False⟩
noncomputable def gw_33 : wz_W := Classical.choice ⟨fun _ _ _ => False⟩
noncomputable def gw_28 : wz_W := Classical.choice ⟨fun _ _ _ => False⟩
noncomputable def gw_25 : wz_W := Classical.choice ⟨fun _ _ _ => False⟩
noncomputable def gb_26_1 : wz_W := Classical.choice ⟨fun _ _ _ => False⟩
theorem sb_26_1 : wz_S gb_26_1 qb_26_1 := by sorry
noncomputable def gc_26_2 : wz_W := Classical.choice ⟨fun _ _ _ => False⟩
theorem sc_26_2 : wz_S gc_26_2 qc_26_2 := by sorry
noncomputable def gw_26 : wz_W := Classical.choice ⟨fun _ _ _ => False⟩
noncomputable def gb_27_1 : wz_W := Classical.choice ⟨fun _ _ _ => False⟩
theorem sb_27_1 : wz_S gb_27_1 qb_27_1 := by sorry
noncomputable def gc_27_2 : wz_W := Classical.choice ⟨fun _ _ _ => False⟩
theorem sc_27_2 : wz_S gc_27_2 qc_27_2 := by sorry
noncomputable def gw_27 : wz_W := Classical.choice ⟨fun _ _ _ => False⟩
noncomputable def gw_31 : wz_W := Classical.choice ⟨fun _ _ _ => False⟩
noncomputable def gw_32 : wz_W := Classical.choice ⟨fun _ _ _ => False⟩
noncomputable def gb_34_1 : wz_W := Classical.choice ⟨fun _ _ _ => False⟩
theorem sb_34_1 : wz_S gb_34_1 qb_34_1 := by sorry
noncomputable def gc_34_2 : wz_W := Classical.choice ⟨fun _ _ _ => False⟩
theorem sc_34_2 : wz_S gc_34_2 qc_34_2 := by sorry
noncomputable def gw_34 : wz_W := Classical.choice ⟨fun _ _ _ => False⟩
noncomputable def gb_35_1 : wz_W := Classical.choice ⟨fun _ _ _ => False⟩
theorem sb_35_1 : wz_S gb_35_1 qb_35_1 := by sorry
noncomputable def gc_35_2 : wz_W := Classical.choice ⟨fun _ _ _ => False⟩
theorem sc_35_2 : wz_S gc_35_2 qc_35_2 := by sorry
noncomputable def gw_35 : wz_W := Classical.choice ⟨fun _ _ _ => False⟩
noncomputable def gw_36 : wz_W := Classical.choice ⟨fun _ _ _ => False⟩
noncomputable def gw_37 : wz_W := Classical.choice ⟨fun _ _ _ => False⟩
noncomputable def gb_53_1 : wz_W := Classical.choice ⟨fun _ _ _ => False⟩
theorem sb_53_1 : wz_S gb_53_1 qb_53_1 := by sorry
noncomputable def gc_53_2 : wz_W := Classical.choice ⟨fun _ _ _ => False⟩
theorem sc_53_2 : wz_S gc_53_2 qc_53_2 := by sorry
noncomputable def gw_53 : wz_W := Classical.choice ⟨fun _ _ _ => False⟩
noncomputable def gb_40_1 : wz_W := Classical.choice ⟨fun _ _ _ => False⟩
theorem sb_40_1 : wz_S gb_40_1 qb_40_1 := by sorry
noncomputable def gc_40_2 : wz_W := Classical.choice ⟨fun _ _ _ => False⟩
theorem sc_40_2 : wz_S gc_40_2 qc_40_2 := by sorry
noncomputable def gw_40 : wz_W := Classical.choice ⟨fun _ _ _ => False⟩
noncomputable def gw_58 : wz_W := Classical.choice ⟨fun _ _ _ => False⟩
noncomputable def gb_48_1 : wz_W := Classical.choice ⟨fun _ _ _ => False⟩
theorem sb_48_1 : wz_S gb_48_1 qb_48_1 := by sorry
noncomputable def gc_48_2 : wz_W := Classical.choice ⟨fun _ _ _ => False⟩
theorem sc_48_2 : wz_S gc_48_2 qc_48_2 := by sorry
noncomputable def gw_48 : wz_W := Classical.choice ⟨fun _ _ _ => False⟩
noncomputable def gb_59_1 : wz_W := Classical.choice ⟨fun _ _ _ => False⟩
theorem sb_59_1 : wz_S gb_59_1 qb_59_1 := by sorry
noncomputable def gc_59_2 : wz_W := Classical.choice ⟨fun _ _ _ => False⟩
theorem sc_59_2 : wz_S gc_59_2 qc_59_2 := by sorry
noncomputable def gw_59 : wz_W := Classical.choice ⟨fun _ _ _ => False⟩
noncomputable def gb_43_1 : wz_W := Classical.choice ⟨fun _ _ _ => False⟩
theorem sb_43_1 : wz_S gb_43_1 qb_43_1 := by sorry
noncomputable def gc_43_2 : wz_W := Classical.choice ⟨fun _ _ _ => False⟩
theorem sc_43_2 : wz_S gc_43_2 qc_43_2 := by sorry
noncomputable def gw_43 : wz_W := Classical.choice ⟨fun _ _ _ => False⟩
noncomputable def gb_47_1 : wz_W := Classical.choice ⟨fun _ _ _ => False⟩
theorem sb_47_1 : wz_S gb_47_1 qb_47_1 := by sorry
noncomputable def gc_47_2 : wz_W := Classical.choice ⟨fun _ _ _ => False⟩
theorem sc_47_2 : wz_S gc_47_2 qc_47_2 := by sorry
noncomputable def gw_47 : wz_W := Classical.choice ⟨fun _ _ _ => False⟩
noncomputable def gw_75 : wz_W := Classical.choice ⟨fun _ _ _ => False⟩
noncomputable def gb_70_1 : wz_W := Classical.choice ⟨fun _ _ _ => False⟩
theorem sb_70_1 : wz_S gb_70_1 qb_70_1 := by sorry
noncomputable def gb_70_2 : wz_W := Classical.choice ⟨fun _ _ _ => False⟩
theorem sb_70_2 : wz_S gb_70_2 qb_70_2 := by sorry
noncomputable def gb_70_3 : wz_W := Classical.choice ⟨fun _ _ _ => False⟩
theorem sb_70_3 : wz_S gb_70_3 qb_70_3 := by sorry
noncomputable def gc_70_4 : wz_W := Classical.choice ⟨fun _ _ _ => False⟩
theorem sc_70_4 : wz_S gc_70_4 qc_70_4 := by sorry
noncomputable def gc_70_5 : wz_W := Classical.choice ⟨fun _ _ _ => False⟩
theorem sc_70_5 : wz_S gc_70_5 qc_70_5 := by sorry
noncomputable def gc_70_6 : wz_W := Classical.choice ⟨fun _ _ _ => False⟩
theorem sc_70_6 : wz_S gc_70_6 qc_70_6 := by sorry
noncomputable def gw_70 : wz_W := Classical.choice ⟨fun _ _ _ => False⟩
noncomputable def gb_56_1 : wz_W := Classical.choice ⟨fun _ _ _ => False⟩
theorem sb_56_1 : wz_S gb_56_1 qb_56_1 := by sorry
noncomputable def gb_56_2 : wz_W := Classical.choice ⟨fun _ _ _ => False⟩
theorem sb_56_2 : wz_S gb_56_2 qb_56_2 := by sorry
noncomputable def gc_56_3 : wz_W := Classical.choice ⟨fun _ _ _ => False⟩
theorem sc_56_3 : wz_S gc_56_3 qc_56_3 := by sorry
noncomputable def gc_56_4 : wz_W := Classical.choice ⟨fun _ _ _ => False⟩
theorem sc_56_4 : wz_S gc_56_4 qc_56_4 := by sorry
noncomputable def gw_56 : wz_W := Classical.choice ⟨fun _ _ _ => False⟩
noncomputable def gb_51_1 : wz_W := Classical.choice ⟨fun _ _ _ => False⟩
theorem sb_51_1 : wz_S gb_51_1 qb_51_1 := by sorry
noncomputable def gc_51_2 : wz_W := Classical.choice ⟨fun _ _ _ => False⟩
theorem sc_51_2 : wz_S gc_51_2 qc_51_2 := by sorry
noncomputable def gb_51_3 : wz_W := Classical.choice ⟨fun _ _ _ => False⟩
theorem sb_51_3 : wz_S gb_51_3 qb_51_3 := by sorry
noncomputable def gc_51_4 : wz_W := Classical.choice ⟨fun _ _ _ => False⟩
theorem sc_51_4 : wz_S gc_51_4 qc_51_4 := by sorry
noncomputable def gb_51_5 : wz_W := Classical.choice ⟨fun _ _ _ => False⟩
theorem sb_51_5 : wz_S gb_51_5 qb_51_5 := by sorry
noncomputable def gc_51_6 : wz_W := Classical.choice ⟨fun _ _ _ => False⟩
theorem sc_51_6 : wz_S gc_51_6 qc_51_6 := by sorry
noncomputable def gw_51 : wz_W := Classical.choice ⟨fun _ _ _ => False⟩
noncomputable def gb_38_1 : wz_W := Classical.choice ⟨fun _ _ _ => False⟩
theorem sb_38_1 : wz_S gb_38_1 qb_38_1 := by sorry
noncomputable def gb_38_2 : wz_W := Classical.choice ⟨fun _ _ _ => False⟩
theorem sb_38_2 : wz_S gb_38_2 qb_38_2 := by sorry
noncomputable def gc_38_3 : wz_W := Classical.choice ⟨fun _ _ _ => False⟩
theorem sc_38_3 : wz_S gc_38_3 qc_38_3 := by sorry
noncomputable def gc_38_4 : wz_W := Classical.choice ⟨fun _ _ _ => False⟩
theorem sc_38_4 : wz_S gc_38_4 qc_38_4 := by sorry
noncomputable def gw_38 : wz_W := Classical.choice ⟨fun _ _ _ => False⟩
noncomputable def gb_41_1 : wz_W := Classical.choice ⟨fun _ _ _ => False⟩
theorem sb_41_1 : wz_S gb_41_1 qb_41_1 := by sorry
noncomputable def gc_41_2 : wz_W := Classical.choice ⟨fun _ _ _ => False⟩
theorem sc_41_2 : wz_S gc_41_2 qc_41_2 := by sorry
noncomputable def gw_41 : wz_W := Classical.choice ⟨fun _ _ _ => False⟩
noncomputable def gb_39_1 : wz_W := Classical.choice ⟨fun _ _ _ => False⟩
theorem sb_39_1 : wz_S gb_39_1 qb_39_1 := by sorry
noncomputable def gc_39_2 : wz_W := Classical.choice ⟨fun _ _ _ => False⟩
theorem sc_39_2 : wz_S gc_39_2 qc_39_2 := by sorry
noncomputable def gc_39_3 : wz_W := Classical.choice ⟨fun _ _ _ => False⟩
theorem sc_39_3 : wz_S gc_39_3 qc_39_3 := by sorry
noncomputable def gb_39_4 : wz_W := Classical.choice ⟨fun _ _ _ => False⟩
theorem sb_39_4 : wz_S gb_39_4 qb_39_4 := by sorry
noncomputable def gc_39_5 : wz_W := Classical.choice ⟨fun _ _ _ => False⟩
theorem sc_39_5 : wz_S gc_39_5 qc_39_5 := by sorry
noncomputable def gw_39 : wz_W := Classical.choice ⟨fun _ _ _ => False⟩
noncomputable def gw_42 : wz_W := Classical.choice ⟨fun _ _ _ => False⟩
noncomputable def gb_44_1 : wz_W := Classical.choice ⟨fun _ _ _ => False⟩
theorem sb_44_1 : wz_S gb_44_1 qb_44_1 := by sorry
noncomputable def gc_44_2 : wz_W := Classical.choice ⟨fun _ _ _ => False⟩
theorem sc_44_2 : wz_S gc_44_2 qc_44_2 := by sorry
noncomputable def gb_44_3 : wz_W := Classical.choice ⟨fun _ _ _ => False⟩
theorem sb_44_3 : wz_S gb_44_3 qb_44_3 := by sorry
noncomputable def gc_44_4 : wz_W := Classical.choice ⟨fun _ _ _ => False⟩
theorem sc_44_4 : wz_S gc_44_4 qc_44_4 := by sorry
noncomputable def gw_44 : wz_W := Classical.choice ⟨fun _ _ _ => False⟩
noncomputable def gb_45_1 : wz_W := Classical.choice ⟨fun _ _ _ => False⟩
theorem sb_45_1 : wz_S gb_45_1 qb_45_1 := by sorry
noncomputable def gc_45_2 : wz_W := Classical.choice ⟨fun _ _ _ => False⟩
theorem sc_45_2 : wz_S gc_45_2 qc_45_2 := by sorry
noncomputable def gw_45 : wz_W := Classical.choice ⟨fun _ _ _ => False⟩
noncomputable def gb_46_1 : wz_W := Classical.choice ⟨fun _ _ _ => False⟩
theorem sb_46_1 : wz_S gb_46_1 qb_46_1 := by sorry
noncomputable def gc_46_2 : wz_W := Classical.choice ⟨fun _ _ _ => False⟩
theorem sc_46_2 : wz_S gc_46_2 qc_46_2 := by sorry
noncomputable def gw_46 : wz_W := Classical.choice ⟨fun _ _ _ => False⟩
noncomputable def gw_173 : wz_W := Classical.choice ⟨fun _ _ _ => False⟩
noncomputable def gw_49 : wz_W := Classical.choice ⟨fun _ _ _ => False⟩
noncomputable def gb_109_1 : wz_W := Classical.choice ⟨fun _ _ _ => False⟩
theorem sb_109_1 : wz_S gb_109_1 qb_109_1 := by sorry
noncomputable def gc_109_2 : wz_W := Classical.choice ⟨fun _ _ _ => False⟩
theorem sc_109_2 : wz_S gc_109_2 qc_109_2 := by sorry
noncomputable def gw_109 : wz_W := Classical.choice ⟨fun _ _ _ => False⟩
noncomputable def gw_175 : wz_W := Classical.choice ⟨fun _ _ _ => False⟩
noncomputable def gw_92 : wz_W := Classical.choice ⟨fun _ _ _ => False⟩
noncomputable def gw_50 : wz_W := Classical.choice ⟨fun _ _ _ => False⟩
noncomputable def gb_52_1 : wz_W := Classical.choice ⟨fun _ _ _ => False⟩
theorem sb_52_1 : wz_S gb_52_1 qb_52_1 := by sorry
noncomputable def gc_52_2 : wz_W := Classical.choice ⟨fun _ _ _ => False⟩
theorem sc_52_2 : wz_S gc_52_2 qc_52_2 := by sorry
noncomputable def gw_52 : wz_W := Classical.choice ⟨fun _ _ _ => False⟩
noncomputable def gb_54_1 : wz_W := Classical.choice ⟨fun _ _ _ => False⟩
theorem sb_54_1 : wz_S gb_54_1 qb_54_1 := by sorry
noncomputable def gc_54_2 : wz_W := Classical.choice ⟨fun _ _ _ => False⟩
theorem sc_54_2 : wz_S gc_54_2 qc_54_2 := by sorry
noncomputable def gw_54 : wz_W := Classical.choice ⟨fun _ _ _ => False⟩
noncomputable def gw_55 : wz_W := Classical.choice ⟨fun _ _ _ => False⟩
noncomputable def gw_57 : wz_W := Classical.choice ⟨fun _ _ _ => False⟩
noncomputable def gw_60 : wz_W := Classical.choice ⟨fun _ _ _ => False⟩
noncomputable def gb_68_1 : wz_W := Classical.choice ⟨fun _ _ _ => False⟩
theorem sb_68_1 : wz_S gb_68_1 qb_68_1 := by sorry
noncomputable def gc_68_2 : wz_W := Classical.choice ⟨fun _ _ _ => False⟩
theorem sc_68_2 : wz_S gc_68_2 qc_68_2 := by sorry
noncomputable def gb_68_3 : wz_W := Classical.choice ⟨fun _ _ _ => False⟩
theorem sb_68_3 : wz_S gb_68_3 qb_68_3 := by sorry
noncomputable def gc_68_4 : wz_W := Classical.choice ⟨fun _ _ _ => False⟩
theorem sc_68_4 : wz_S gc_68_4 qc_68_4 := by sorry
noncomputable def gw_68 : wz_W := Classical.choice ⟨fun _ _ _ => False⟩
noncomputable def gw_112 : wz_W := Classical.choice ⟨fun _ _ _ => False⟩
noncomputable def gb_113_1 : wz_W := Classical.choice ⟨fun _ _ _ => False⟩
theorem sb_113_1 : wz_S gb_113_1 qb_113_1 := by sorry
noncomputable def gc_113_2 : wz_W := Classical.choice ⟨fun _ _ _ => False⟩
theorem sc_113_2 : wz_S gc_113_2 qc_113_2 := by sorry
noncomputable def gw_113 : wz_W := Classical.choice ⟨fun _ _ _ => False⟩
noncomputable def gw_111 : wz_W := Classical.choice ⟨fun _ _ _ => False⟩
noncomputable def gb_69_1 : wz_W := Classical.choice ⟨fun _ _ _ => False⟩
theorem sb_69_1 : wz_S gb_69_1 qb_69_1 := by sorry
noncomputable def gc_69_2 : wz_W := Classical.choice ⟨fun _ _ _ => False⟩
theorem sc_69_2 : wz_S gc_69_2 qc_69_2 := by sorry
noncomputable def gb_69_3 : wz_W := Classical.choice ⟨fun _ _ _ => False⟩
theorem sb_69_3 : wz_S gb_69_3 qb_69_3 := by sorry
noncomputable def gc_69_4 : wz_W := Classical.choice ⟨fun _ _ _ => False⟩
theorem sc_69_4 : wz_S gc_69_4 qc_69_4 := by sorry
noncomputable def gw_69 : wz_W := Classical.choice ⟨fun _ _ _ => False⟩
noncomputable def gb_73_1 : wz_W := Classical.choice ⟨fun _ _ _ => False⟩
theorem sb_73_1 : wz_S gb_73_1 qb_73_1 := by sorry
noncomputable def gc_73_2 : wz_W := Classical.choice ⟨fun _ _ _ => False⟩
theorem sc_73_2 : wz_S gc_73_2 qc_73_2 := by sorry
noncomputable def gw_73 : wz_W := Classical.choice ⟨fun _ _ _ => False⟩
noncomputable def gb_74_1 : wz_W := Classical.choice ⟨fun _ _ _ => False⟩
theorem sb_74_1 : wz_S gb_74_1 qb_74_1 := by sorry
noncomputable def gc_74_2 : wz_W := Classical.choice ⟨fun _ _ _ => False⟩
theorem sc_74_2 : wz_S gc_74_2 qc_74_2 := by sorry
noncomputable def gw_74 : wz_W := Classical.choice ⟨fun _ _ _ => False⟩
noncomputable def gb_77_1 : wz_W := Classical.choice ⟨fun _ _ _ => False⟩
theorem sb_77_1 : wz_S gb_77_1 qb_77_1 := by sorry
noncomputable def gc_77_2 : wz_W := Classical.choice ⟨fun _ _ _ => False⟩
theorem sc_77_2 : wz_S gc_77_2 qc_77_2 := by sorry
noncomputable def gw_77 : wz_W := Classical.choice ⟨fun _ _ _ => False⟩
noncomputable def gb_64_1 : wz_W := Classical.choice ⟨fun _ _ _ => False⟩
theorem sb_64_1 : wz_S gb_64_1 qb_64_1 := by sorry
noncomputable def gc_64_2 : wz_W := Classical.choice ⟨fun _ _ _ => False⟩
theorem sc_64_2 : wz_S gc_64_2 qc_64_2 := by sorry
noncomputable def gw_64 : wz_W := Classical.choice ⟨fun _ _ _ => False⟩
noncomputable def gb_66_1 : wz_W := Classical.choice ⟨fun _ _ _ => False⟩
theorem sb_66_1 : wz_S gb_66_1 qb_66_1 := by sorry
noncomputable def gc_66_2 : wz_W := Classical.choice ⟨fun _ _ _ => False⟩
theorem sc_66_2 : wz_S gc_66_2 qc_66_2 := by sorry
noncomputable def gw_66 : wz_W := Classical.choice ⟨fun _ _ _ => False⟩
noncomputable def gw_79 : wz_W := Classical.choice ⟨fun _ _ _ => False⟩
noncomputable def gb_62_1 : wz_W := Classical.choice ⟨fun _ _ _ => False⟩
theorem sb_62_1 : wz_S gb_62_1 qb_62_1 := by sorry
noncomputable def gb_62_2 : wz_W := Classical.choice ⟨fun _ _ _ => False⟩
theorem sb_62_2 : wz_S gb_62_2 qb_62_2 := by sorry
noncomputable def gc_62_3 : wz_W := Classical.choice ⟨fun _ _ _ => False⟩
theorem sc_62_3 : wz_S gc_62_3 qc_62_3 := by sorry
noncomputable def gb_62_4 : wz_W := Classical.choice ⟨fun _ _ _ => False⟩
theorem sb_62_4 : wz_S gb_62_4 qb_62_4 := by sorry
noncomputable def gc_62_5 : wz_W := Classical.choice ⟨fun _ _ _ => False⟩
theorem sc_62_5 : wz_S gc_62_5 qc_62_5 := by sorry
noncomputable def gc_62_6 : wz_W := Classical.choice ⟨fun _ _ _ => False⟩
theorem sc_62_6 : wz_S gc_62_6 qc_62_6 := by sorry
noncomputable def gw_62 : wz_W := Classical.choice ⟨fun _ _ _ => False⟩
noncomputable def gb_61_1 : wz_W := Classical.choice ⟨fun _ _ _ => False⟩
theorem sb_61_1 : wz_S gb_61_1 qb_61_1 := by sorry
noncomputable def gb_61_2 : wz_W := Classical.choice ⟨fun _ _ _ => False⟩
theorem sb_61_2 : wz_S gb_61_2 qb_61_2 := by sorry
noncomputable def gb_61_3 : wz_W := Classical.choice ⟨fun _ _ _ => False⟩
theorem sb_61_3 : wz_S gb_61_3 qb_61_3 := by sorry
noncomputable def gc_61_4 : wz_W := Classical.choice ⟨fun _ _ _ => False⟩
theorem sc_61_4 : wz_S gc_61_4 qc_61_4 := by sorry
noncomputable def gc_61_5 : wz_W := Classical.choice ⟨fun _ _ _ => False⟩
theorem sc_61_5 : wz_S gc_61_5 qc_61_5 := by sorry
noncomputable def gc_61_6 : wz_W := Classical.choice ⟨fun _ _ _ => False⟩
theorem sc_61_6 : wz_S gc_61_6 qc_61_6 := by sorry
noncomputable def gw_61 : wz_W := Classical.choice ⟨fun _ _ _ => False⟩
noncomputable def gb_63_1 : wz_W := Classical.choice ⟨fun _ _ _ => False⟩
theorem sb_63_1 : wz_S gb_63_1 qb_63_1 := by sorry
noncomputable def gc_63_2 : wz_W := Classical.choice ⟨fun _ _ _ => False⟩
theorem sc_63_2 : wz_S gc_63_2 qc_63_2 := by sorry
noncomputable def gw_63 : wz_W := Classical.choice ⟨fun _ _ _ => False⟩
noncomputable def gw_65 : wz_W := Classical.choice ⟨fun _ _ _ => False⟩
noncomputable def gw_67 : wz_W := Classical.choice ⟨fun _ _ _ => False⟩
noncomputable def gw_71 : wz_W := Classical.choice ⟨fun _ _ _ => False⟩
noncomputable def gw_72 : wz_W := Classical.choice ⟨fun _ _ _ => False⟩
noncomputable def gb_76_1 : wz_W := Classical.choice ⟨fun _ _ _ => False⟩
theorem sb_76_1 : wz_S gb_76_1 qb_76_1 := by sorry
noncomputable def gc_76_2 : wz_W := Classical.choice ⟨fun _ _ _ => False⟩
theorem sc_76_2 : wz_S gc_76_2 qc_76_2 := by sorry
noncomputable def gb_76_3 : wz_W := Classical.choice ⟨fun _ _ _ => False⟩
theorem sb_76_3 : wz_S gb_76_3 qb_76_3 := by sorry
noncomputable def gc_76_4 : wz_W := Classical.choice ⟨fun _ _ _ => False⟩
theorem sc_76_4 : wz_S gc_76_4 qc_76_4 := by sorry
noncomputable def gw_76 : wz_W := Classical.choice ⟨fun _ _ _ => False⟩
noncomputable def gw_78 : wz_W := Classical.choice ⟨fun _ _ _ => False⟩
noncomputable def gw_80 : wz_W := Classical.choice ⟨fun _ _ _ => False⟩
noncomputable def gw_81 : wz_W := Classical.choice ⟨fun _ _ _ => False⟩
noncomputable def gb_115_1 : wz_W := Classical.choice ⟨fun _ _ _ => False⟩
theorem sb_115_1 : wz_S gb_115_1 qb_115_1 := by sorry
noncomputable def gb_115_2 : wz_W := Classical.choice ⟨fun _ _ _ => False⟩
theorem sb_115_2 : wz_S gb_115_2 qb_115_2 := by sorry
noncomputable def gc_115_3 : wz_W := Classical.choice ⟨fun _ _ _ => False⟩
theorem sc_115_3 : wz_S gc_115_3 qc_115_3 := by sorry
noncomputable def gb_115_4 : wz_W := Classical.choice ⟨fun _ _ _ => False⟩
theorem sb_115_4 : wz_S gb_115_4 qb_115_4 := by sorry
noncomputable def gc_115_5 : wz_W := Classical.choice ⟨fun _ _ _ => False⟩
theorem sc_115_5 : wz_S gc_115_5 qc_115_5 := by sorry
noncomputable def gc_115_6 : wz_W := Classical.choice ⟨fun _ _ _ => False⟩
theorem sc_115_6 : wz_S gc_115_6 qc_115_6 := by sorry
noncomputable def gw_115 : wz_W := Classical.choice ⟨fun _ _ _ => False⟩
noncomputable def gw_82 : wz_W := Classical.choice ⟨fun _ _ _ => False⟩
noncomputable def gw_83 : wz_W := Classical.choice ⟨fun _ _ _ => False⟩
noncomputable def gw_89 : wz_W := Classical.choice ⟨fun _ _ _ => False⟩
noncomputable def gw_87 : wz_W := Classical.choice ⟨fun _ _ _ => False⟩
noncomputable def gw_88 : wz_W := Classical.choice ⟨fun _ _ _ => False⟩
noncomputable def gw_102 : wz_W := Classical.choice ⟨fun _ _ _ => False⟩
noncomputable def gw_94 : wz_W := Classical.choice ⟨fun _ _ _ => False⟩
noncomputable def gw_100 : wz_W := Classical.choice ⟨fun _ _ _ => False⟩
noncomputable def gb_95_1 : wz_W := Classical.choice ⟨fun _ _ _ => False⟩
theorem sb_95_1 : wz_S gb_95_1 qb_95_1 := by sorry
noncomputable def gc_95_2 : wz_W := Classical.choice ⟨fun _ _ _ => False⟩
theorem sc_95_2 : wz_S gc_95_2 qc_95_2 := by sorry
noncomputable def gw_95 : wz_W := Classical.choice ⟨fun _ _ _ => False⟩
noncomputable def gw_160 : wz_W := Classical.choice ⟨fun _ _ _ => False⟩
noncomputable def gw_122 : wz_W := Classical.choice ⟨fun _ _ _ => False⟩
noncomputable def gb_182_1 : wz_W := Classical.choice ⟨fun _ _ _ => False⟩
theorem sb_182_1 : wz_S gb_182_1 qb_182_1 := by sorry
noncomputable def gc_182_2 : wz_W := Classical.choice ⟨fun _ _ _ => False⟩
theorem sc_182_2 : wz_S gc_182_2 qc_182_2 := by sorry
noncomputable def gw_182 : wz_W := Classical.choice ⟨fun _ _ _ => False⟩
noncomputable def gw_176 : wz_W := Classical.choice ⟨fun _ _ _ => False⟩
noncomputable def gw_179 : wz_W := Classical.choice ⟨fun _ _ _ => False⟩
noncomputable def gb_105_1 : wz_W := Classical.choice ⟨fun _ _ _ => False⟩
theorem sb_105_1 : wz_S gb_105_1 qb_105_1 := by sorry
noncomputable def gc_105_2 : wz_W := Classical.choice ⟨fun _ _ _ => False⟩
theorem sc_105_2 : wz_S gc_105_2 qc_105_2 := by sorry
noncomputable def gw_105 : wz_W := Classical.choice ⟨fun _ _ _ => False⟩
noncomputable def gw_126 : wz_W := Classical.choice ⟨fun _ _ _ => False⟩
noncomputable def gb_133_1 : wz_W := Classical.choice ⟨fun _ _ _ => False⟩
theorem sb_133_1 : wz_S gb_133_1 qb_133_1 := by sorry
noncomputable def gc_133_2 : wz_W := Classical.choice ⟨fun _ _ _ => False⟩
theorem sc_133_2 : wz_S gc_133_2 qc_133_2 := by sorry
noncomputable def gw_133 : wz_W := Classical.choice ⟨fun _ _ _ => False⟩
noncomputable def gw_130 : wz_W := Classical.choice ⟨fun _ _ _ => False⟩
noncomputable def gw_143 : wz_W := Classical.choice ⟨fun _ _ _ => False⟩
noncomputable def gw_142 : wz_W := Classical.choice ⟨fun _ _ _ => False⟩
noncomputable def gb_148_1 : wz_W := Classical.choice ⟨fun _ _ _ => False⟩
theorem sb_148_1 : wz_S gb_148_1 qb_148_1 := by sorry
noncomputable def gb_148_2 : wz_W := Classical.choice ⟨fun _ _ _ => False⟩
theorem sb_148_2 : wz_S gb_148_2 qb_148_2 := by sorry
noncomputable def gb_148_3 : wz_W := Classical.choice ⟨fun _ _ _ => False⟩
theorem sb_148_3 : wz_S gb_148_3 qb_148_3 := by sorry
noncomputable def gc_148_4 : wz_W := Classical.choice ⟨fun _ _ _ => False⟩
theorem sc_148_4 : wz_S gc_148_4 qc_148_4 := by sorry
noncomputable def gc_148_5 : wz_W := Classical.choice ⟨fun _ _ _ => False⟩
theorem sc_148_5 : wz_S gc_148_5 qc_148_5 := by sorry
noncomputable def gc_148_6 : wz_W := Classical.choice ⟨fun _ _ _ => False⟩
theorem sc_148_6 : wz_S gc_148_6 qc_148_6 := by sorry
noncomputable def gw_148 : wz_W := Classical.choice ⟨fun _ _ _ => False⟩
noncomputable def gb_150_1 : wz_W := Classical.choice ⟨fun _ _ _ => False⟩
theorem sb_150_1 : wz_S gb_150_1 qb_150_1 := by sorry
noncomputable def gb_150_2 : wz_W := Classical.choice ⟨fun _ _ _ => False⟩
theorem sb_150_2 : wz_S gb_150_2 qb_150_2 := by sorry
noncomputable def gb_150_3 : wz_W := Classical.choice ⟨fun _ _ _ => False⟩
theorem sb_150_3 : wz_S gb_150_3 qb_150_3 := by sorry
noncomputable def gc_150_4 : wz_W := Classical.choice ⟨fun _ _ _ => False⟩
theorem sc_150_4 : wz_S gc_150_4 qc_150_4 := by sorry
noncomputable def gc_150_5 : wz_W := Classical.choice ⟨fun _ _ _ => False⟩
theorem sc_150_5 : wz_S gc_150_5 qc_150_5 := by sorry
noncomputable def gc_150_6 : wz_W := Classical.choice ⟨fun _ _ _ => False⟩
theorem sc_150_6 : wz_S gc_150_6 qc_150_6 := by sorry
noncomputable def gw_150 : wz_W := Classical.choice ⟨fun _ _ _ => False⟩
noncomputable def gb_145_1 : wz_W := Classical.choice ⟨fun _ _ _ => False⟩
theorem sb_145_1 : wz_S gb_145_1 qb_145_1 := by sorry
noncomputable def gb_145_2 : wz_W := Classical.choice ⟨fun _ _ _ => False⟩
theorem sb_145_2 : wz_S gb_145_2 qb_145_2 := by sorry
noncomputable def gc_145_3 : wz_W := Classical.choice ⟨fun _ _ _ => False⟩
theorem sc_145_3 : wz_S gc_145_3 qc_145_3 := by sorry
noncomputable def gc_145_4 : wz_W := Classical.choice ⟨fun _ _ _ => False⟩
theorem sc_145_4 : wz_S gc_145_4 qc_145_4 := by sorry
noncomputable def gw_145 : wz_W := Classical.choice ⟨fun _ _ _ => False⟩
noncomputable def gb_147_1 : wz_W := Classical.choice ⟨fun _ _ _ => False⟩
theorem sb_147_1 : wz_S gb_147_1 qb_147_1 := by sorry
noncomputable def gb_147_2 : wz_W := Classical.choice ⟨fun _ _ _ => False⟩
theorem sb_147_2 : wz_S gb_147_2 qb_147_2 := by sorry
noncomputable def gc_147_3 : wz_W := Classical.choice ⟨fun _ _ _ => False⟩
theorem sc_147_3 : wz_S gc_147_3 qc_147_3 := by sorry
noncomputable def gc_147_4 : wz_W := Classical.choice ⟨fun _ _ _ => False⟩
theorem sc_147_4 : wz_S gc_147_4 qc_147_4 := by sorry
noncomputable def gw_147 : wz_W := Classical.choice ⟨fun _ _ _ => False⟩
noncomputable def gb_146_1 : wz_W := Classical.choice ⟨fun _ _ _ => False⟩
theorem sb_146_1 : wz_S gb_146_1 qb_146_1 := by sorry
noncomputable def gc_146_2 : wz_W := Classical.choice ⟨fun _ _ _ => False⟩
theorem sc_146_2 : wz_S gc_146_2 qc_146_2 := by sorry
noncomputable def gb_146_3 : wz_W := Classical.choice ⟨fun _ _ _ => False⟩
theorem sb_146_3 : wz_S gb_146_3 qb_146_3 := by sorry
noncomputable def gb_146_4 : wz_W := Classical.choice ⟨fun _ _ _ => False⟩
theorem sb_146_4 : wz_S gb_146_4 qb_146_4 := by sorry
noncomputable def gc_146_5 : wz_W := Classical.choice ⟨fun _ _ _ => False⟩
theorem sc_146_5 : wz_S gc_146_5 qc_146_5 := by sorry
noncomputable def gc_146_6 : wz_W := Classical.choice ⟨fun _ _ _ => False⟩
theorem sc_146_6 : wz_S gc_146_6 qc_146_6 := by sorry
noncomputable def gw_146 : wz_W := Classical.choice ⟨fun _ _ _ => False⟩
noncomputable def gb_149_1 : wz_W := Classical.choice ⟨fun _ _ _ => False⟩
theorem sb_149_1 : wz_S gb_149_1 qb_149_1 := by sorry
noncomputable def gc_149_2 : wz_W := Classical.choice ⟨fun _ _ _ => False⟩
theorem sc_149_2 : wz_S gc_149_2 qc_149_2 := by sorry
noncomputable def gb_149_3 : wz_W := Classical.choice ⟨fun _ _ _ => False⟩
theorem sb_149_3 : wz_S gb_149_3 qb_149_3 := by sorry
noncomputable def gc_149_4 : wz_W := Classical.choice ⟨fun _ _ _ => False⟩
theorem sc_149_4 : wz_S gc_149_4 qc_149_4 := by sorry
noncomputable def gw_149 : wz_W := Classical.choice ⟨fun _ _ _ => False⟩
noncomputable def gw_144 : wz_W := Classical.choice ⟨fun _ _ _ => False⟩
noncomputable def gw_184 : wz_W := Classical.choice ⟨fun _ _ _ => False⟩
noncomputable def gw_174 : wz_W := Classical.choice ⟨fun _ _ _ => False⟩
noncomputable def gw_177 : wz_W := Classical.choice ⟨fun _ _ _ => False⟩
noncomputable def gw_168 : wz_W := Classical.choice ⟨fun _ _ _ => False⟩
noncomputable def gw_181 : wz_W := Classical.choice ⟨fun _ _ _ => False⟩
noncomputable def gw_172 : wz_W := Classical.choice ⟨fun _ _ _ => False⟩
noncomputable def gb_171_1 : wz_W := Classical.choice ⟨fun _ _ _ => False⟩
theorem sb_171_1 : wz_S gb_171_1 qb_171_1 := by sorry
noncomputable def gb_171_2 : wz_W := Classical.choice ⟨fun _ _ _ => False⟩
theorem sb_171_2 : wz_S gb_171_2 qb_171_2 := by sorry
noncomputable def gb_171_3 : wz_W := Classical.choice ⟨fun _ _ _ => False⟩
theorem sb_171_3 : wz_S gb_171_3 qb_171_3 := by sorry
noncomputable def gc_171_4 : wz_W := Classical.choice ⟨fun _ _ _ => False⟩
theorem sc_171_4 : wz_S gc_171_4 qc_171_4 := by sorry
noncomputable def gc_171_5 : wz_W := Classical.choice ⟨fun _ _ _ => False⟩
theorem sc_171_5 : wz_S gc_171_5 qc_171_5 := by sorry
noncomputable def gc_171_6 : wz_W := Classical.choice ⟨fun _ _ _ => False⟩
theorem sc_171_6 : wz_S gc_171_6 qc_171_6 := by sorry
noncomputable def gw_171 : wz_W := Classical.choice ⟨fun _ _ _ => False⟩
noncomputable def gb_139_1 : wz_W := Classical.choice ⟨fun _ _ _ => False⟩
theorem sb_139_1 : wz_S gb_139_1 qb_139_1 := by sorry
noncomputable def gc_139_2 : wz_W := Classical.choice ⟨fun _ _ _ => False⟩
theorem sc_139_2 : wz_S gc_139_2 qc_139_2 := by sorry
noncomputable def gw_139 : wz_W := Classical.choice ⟨fun _ _ _ => False⟩
noncomputable def gw_135 : wz_W := Classical.choice ⟨fun _ _ _ => False⟩
noncomputable def gw_141 : wz_W := Classical.choice ⟨fun _ _ _ => False⟩
noncomputable def gb_136_1 : wz_W := Classical.choice ⟨fun _ _ _ => False⟩
theorem sb_136_1 : wz_S gb_136_1 qb_136_1 := by sorry
noncomputable def gc_136_2 : wz_W := Classical.choice ⟨fun _ _ _ => False⟩
theorem sc_136_2 : wz_S gc_136_2 qc_136_2 := by sorry
noncomputable def gw_136 : wz_W := Classical.choice ⟨fun _ _ _ => False⟩
noncomputable def gb_118_1 : wz_W := Classical.choice ⟨fun _ _ _ => False⟩
theorem sb_118_1 : wz_S gb_118_1 qb_118_1 := by sorry
noncomputable def gb_118_2 : wz_W := Classical.choice ⟨fun _ _ _ => False⟩
theorem sb_118_2 : wz_S gb_118_2 qb_118_2 := by sorry
noncomputable def gc_118_3 : wz_W := Classical.choice ⟨fun _ _ _ => False⟩
theorem sc_118_3 : wz_S gc_118_3 qc_118_3 := by sorry
noncomputable def gb_118_4 : wz_W := Classical.choice ⟨fun _ _ _ => False⟩
theorem sb_118_4 : wz_S gb_118_4 qb_118_4 := by sorry
noncomputable def gb_118_5 : wz_W := Classical.choice ⟨fun _ _ _ => False⟩
theorem sb_118_5 : wz_S gb_118_5 qb_118_5 := by sorry
noncomputable def gc_118_6 : wz_W := Classical.choice ⟨fun _ _ _ => False⟩
theorem sc_118_6 : wz_S gc_118_6 qc_118_6 := by sorry
noncomputable def gc_118_7 : wz_W := Classical.choice ⟨fun _ _ _ => False⟩
theorem sc_118_7 : wz_S gc_118_7 qc_118_7 := by sorry
noncomputable def gc_118_8 : wz_W := Classical.choice ⟨fun _ _ _ => False⟩
theorem sc_118_8 : wz_S gc_118_8 qc_118_8 := by sorry
noncomputable def gb_118_9 : wz_W := Classical.choice ⟨fun _ _ _ => False⟩
theorem sb_118_9 : wz_S gb_118_9 qb_118_9 := by sorry
noncomputable def gc_118_10 : wz_W := Classical.choice ⟨fun _ _ _ => False⟩
theorem sc_118_10 : wz_S gc_118_10 qc_118_10 := by sorry
noncomputable def gw_118 : wz_W := Classical.choice ⟨fun _ _ _ => False⟩
noncomputable def gw_121 : wz_W := Classical.choice ⟨fun _ _ _ => False⟩
noncomputable def gb_119_1 : wz_W := Classical.choice ⟨fun _ _ _ => False⟩
theorem sb_119_1 : wz_S gb_119_1 qb_119_1 := by sorry
noncomputable def gc_119_2 : wz_W := Classical.choice ⟨fun _ _ _ => False⟩
theorem sc_119_2 : wz_S gc_119_2 qc_119_2 := by sorry
noncomputable def gw_119 : wz_W := Classical.choice ⟨fun _ _ _ => False⟩
noncomputable def gb_120_1 : wz_W := Classical.choice ⟨fun _ _ _ => False⟩
theorem sb_120_1 : wz_S gb_120_1 qb_120_1 := by sorry
noncomputable def gc_120_2 : wz_W := Classical.choice ⟨fun _ _ _ => False⟩
theorem sc_120_2 : wz_S gc_120_2 qc_120_2 := by sorry
noncomputable def gw_120 : wz_W := Classical.choice ⟨fun _ _ _ => False⟩
noncomputable def gw_116 : wz_W := Classical.choice ⟨fun _ _ _ => False⟩
noncomputable def gb_84_1 : wz_W := Classical.choice ⟨fun _ _ _ => False⟩
theorem sb_84_1 : wz_S gb_84_1 qb_84_1 := by sorry
noncomputable def gb_84_2 : wz_W := Classical.choice ⟨fun _ _ _ => False⟩
theorem sb_84_2 : wz_S gb_84_2 qb_84_2 := by sorry
noncomputable def gc_84_3 : wz_W := Classical.choice ⟨fun _ _ _ => False⟩
theorem sc_84_3 : wz_S gc_84_3 qc_84_3 := by sorry
noncomputable def gc_84_4 : wz_W := Classical.choice ⟨fun _ _ _ => False⟩
theorem sc_84_4 : wz_S gc_84_4 qc_84_4 := by sorry
noncomputable def gw_84 : wz_W := Classical.choice ⟨fun _ _ _ => False⟩
noncomputable def gw_85 : wz_W := Classical.choice ⟨fun _ _ _ => False⟩
noncomputable def gw_86 : wz_W := Classical.choice ⟨fun _ _ _ => False⟩
noncomputable def gw_98 : wz_W := Classical.choice ⟨fun _ _ _ => False⟩
noncomputable def gw_99 : wz_W := Classical.choice ⟨fun _ _ _ => False⟩
noncomputable def gb_103_1 : wz_W := Classical.choice ⟨fun _ _ _ => False⟩
theorem sb_103_1 : wz_S gb_103_1 qb_103_1 := by sorry
noncomputable def gc_103_2 : wz_W := Classical.choice ⟨fun _ _ _ => False⟩
theorem sc_103_2 : wz_S gc_103_2 qc_103_2 := by sorry
noncomputable def gw_103 : wz_W := Classical.choice ⟨fun _ _ _ => False⟩
noncomputable def gw_106 : wz_W := Classical.choice ⟨fun _ _ _ => False⟩
noncomputable def gb_107_1 : wz_W := Classical.choice ⟨fun _ _ _ => False⟩
theorem sb_107_1 : wz_S gb_107_1 qb_107_1 := by sorry
noncomputable def gc_107_2 : wz_W := Classical.choice ⟨fun _ _ _ => False⟩
theorem sc_107_2 : wz_S gc_107_2 qc_107_2 := by sorry
noncomputable def gw_107 : wz_W := Classical.choice ⟨fun _ _ _ => False⟩
noncomputable def gb_90_1 : wz_W := Classical.choice ⟨fun _ _ _ => False⟩
theorem sb_90_1 : wz_S gb_90_1 qb_90_1 := by sorry
noncomputable def gb_90_2 : wz_W := Classical.choice ⟨fun _ _ _ => False⟩
theorem sb_90_2 : wz_S gb_90_2 qb_90_2 := by sorry
noncomputable def gc_90_3 : wz_W := Classical.choice ⟨fun _ _ _ => False⟩
theorem sc_90_3 : wz_S gc_90_3 qc_90_3 := by sorry
noncomputable def gc_90_4 : wz_W := Classical.choice ⟨fun _ _ _ => False⟩
theorem sc_90_4 : wz_S gc_90_4 qc_90_4 := by sorry
noncomputable def gw_90 : wz_W := Classical.choice ⟨fun _ _ _ => False⟩
noncomputable def gb_91_1 : wz_W := Classical.choice ⟨fun _ _ _ => False⟩
theorem sb_91_1 : wz_S gb_91_1 qb_91_1 := by sorry
noncomputable def gc_91_2 : wz_W := Classical.choice ⟨fun _ _ _ => False⟩
theorem sc_91_2 : wz_S gc_91_2 qc_91_2 := by sorry
noncomputable def gw_91 : wz_W := Classical.choice ⟨fun _ _ _ => False⟩
noncomputable def gb_93_1 : wz_W := Classical.choice ⟨fun _ _ _ => False⟩
theorem sb_93_1 : wz_S gb_93_1 qb_93_1 := by sorry
noncomputable def gc_93_2 : wz_W := Classical.choice ⟨fun _ _ _ => False⟩
theorem sc_93_2 : wz_S gc_93_2 qc_93_2 := by sorry
noncomputable def gw_93 : wz_W := Classical.choice ⟨fun _ _ _ => False⟩
noncomputable def gb_96_1 : wz_W := Classical.choice ⟨fun _ _ _ => False⟩
theorem sb_96_1 : wz_S gb_96_1 qb_96_1 := by sorry
noncomputable def gb_96_2 : wz_W := Classical.choice ⟨fun _ _ _ => False⟩
theorem sb_96_2 : wz_S gb_96_2 qb_96_2 := by sorry
noncomputable def gc_96_3 : wz_W := Classical.choice ⟨fun _ _ _ => False⟩
theorem sc_96_3 : wz_S gc_96_3 qc_96_3 := by sorry
noncomputable def gc_96_4 : wz_W := Classical.choice ⟨fun _ _ _ => False⟩
theorem sc_96_4 : wz_S gc_96_4 qc_96_4 := by sorry
noncomputable def gw_96 : wz_W := Classical.choice ⟨fun _ _ _ => False⟩
noncomputable def gb_110_1 : wz_W := Classical.choice ⟨fun _ _ _ => False⟩
theorem sb_110_1 : wz_S gb_110_1 qb_110_1 := by sorry
noncomputable def gc_110_2 : wz_W := Classical.choice ⟨fun _ _ _ => False⟩
theorem sc_110_2 : wz_S gc_110_2 qc_110_2 := by sorry
noncomputable def gw_110 : wz_W := Classical.choice ⟨fun _ _ _ => False⟩
noncomputable def gb_101_1 : wz_W := Classical.choice ⟨fun _ _ _ => False⟩
theorem sb_101_1 : wz_S gb_101_1 qb_101_1 := by sorry
noncomputable def gc_101_2 : wz_W := Classical.choice ⟨fun _ _ _ => False⟩
theorem sc_101_2 : wz_S gc_101_2 qc_101_2 := by sorry
noncomputable def gb_101_3 : wz_W := Classical.choice ⟨fun _ _ _ => False⟩
theorem sb_101_3 : wz_S gb_101_3 qb_101_3 := by sorry
noncomputable def gc_101_4 : wz_W := Classical.choice ⟨fun _ _ _ => False⟩
theorem sc_101_4 : wz_S gc_101_4 qc_101_4 := by sorry
noncomputable def gw_101 : wz_W := Classical.choice ⟨fun _ _ _ => False⟩
noncomputable def gw_108 : wz_W := Classical.choice ⟨fun _ _ _ => False⟩
noncomputable def gb_114_1 : wz_W := Classical.choice ⟨fun _ _ _ => False⟩
theorem sb_114_1 : wz_S gb_114_1 qb_114_1 := by sorry
noncomputable def gc_114_2 : wz_W := Classical.choice ⟨fun _ _ _ => False⟩
theorem sc_114_2 : wz_S gc_114_2 qc_114_2 := by sorry
noncomputable def gw_114 : wz_W := Classical.choice ⟨fun _ _ _ => False⟩
noncomputable def gw_178 : wz_W := Classical.choice ⟨fun _ _ _ => False⟩
noncomputable def gw_165 : wz_W := Classical.choice ⟨fun _ _ _ => False⟩
noncomputable def gw_123 : wz_W := Classical.choice ⟨fun _ _ _ => False⟩
noncomputable def gw_124 : wz_W := Classical.choice ⟨fun _ _ _ => False⟩
noncomputable def gw_127 : wz_W := Classical.choice ⟨fun _ _ _ => False⟩
noncomputable def gw_131 : wz_W := Classical.choice ⟨fun _ _ _ => False⟩
noncomputable def gb_128_1 : wz_W := Classical.choice ⟨fun _ _ _ => False⟩
theorem sb_128_1 : wz_S gb_128_1 qb_128_1 := by sorry
noncomputable def gb_128_2 : wz_W := Classical.choice ⟨fun _ _ _ => False⟩
theorem sb_128_2 : wz_S gb_128_2 qb_128_2 := by sorry
noncomputable def gb_128_3 : wz_W := Classical.choice ⟨fun _ _ _ => False⟩
theorem sb_128_3 : wz_S gb_128_3 qb_128_3 := by sorry
noncomputable def gc_128_4 : wz_W := Classical.choice ⟨fun _ _ _ => False⟩
theorem sc_128_4 : wz_S gc_128_4 qc_128_4 := by sorry
noncomputable def gc_128_5 : wz_W := Classical.choice ⟨fun _ _ _ => False⟩
theorem sc_128_5 : wz_S gc_128_5 qc_128_5 := by sorry
noncomputable def gc_128_6 : wz_W := Classical.choice ⟨fun _ _ _ => False⟩
theorem sc_128_6 : wz_S gc_128_6 qc_128_6 := by sorry
noncomputable def gw_128 : wz_W := Classical.choice ⟨fun _ _ _ => False⟩
noncomputable def gw_134 : wz_W := Classical.choice ⟨fun _ _ _ => False⟩
noncomputable def gb_129_1 : wz_W := Classical.choice ⟨fun _ _ _ => False⟩
theorem sb_129_1 : wz_S gb_129_1 qb_129_1 := by sorry
noncomputable def gc_129_2 : wz_W := Classical.choice ⟨fun _ _ _ => False⟩
theorem sc_129_2 : wz_S gc_129_2 qc_129_2 := by sorry
noncomputable def gw_129 : wz_W := Classical.choice ⟨fun _ _ _ => False⟩
noncomputable def gb_132_1 : wz_W := Classical.choice ⟨fun _ _ _ => False⟩
theorem sb_132_1 : wz_S gb_132_1 qb_132_1 := by sorry
noncomputable def gc_132_2 : wz_W := Classical.choice ⟨fun _ _ _ => False⟩
theorem sc_132_2 : wz_S gc_132_2 qc_132_2 := by sorry
noncomputable def gw_132 : wz_W := Classical.choice ⟨fun _ _ _ => False⟩
noncomputable def gw_137 : wz_W := Classical.choice ⟨fun _ _ _ => False⟩
noncomputable def gb_138_1 : wz_W := Classical.choice ⟨fun _ _ _ => False⟩
theorem sb_138_1 : wz_S gb_138_1 qb_138_1 := by sorry
noncomputable def gb_138_2 : wz_W := Classical.choice ⟨fun _ _ _ => False⟩
theorem sb_138_2 : wz_S gb_138_2 qb_138_2 := by sorry
noncomputable def gc_138_3 : wz_W := Classical.choice ⟨fun _ _ _ => False⟩
theorem sc_138_3 : wz_S gc_138_3 qc_138_3 := by sorry
noncomputable def gb_138_4 : wz_W := Classical.choice ⟨fun _ _ _ => False⟩
theorem sb_138_4 : wz_S gb_138_4 qb_138_4 := by sorry
noncomputable def gc_138_5 : wz_W := Classical.choice ⟨fun _ _ _ => False⟩
theorem sc_138_5 : wz_S gc_138_5 qc_138_5 := by sorry
noncomputable def gb_138_6 : wz_W := Classical.choice ⟨fun _ _ _ => False⟩
theorem sb_138_6 : wz_S gb_138_6 qb_138_6 := by sorry
noncomputable def gc_138_7 : wz_W := Classical.choice ⟨fun _ _ _ => False⟩
theorem sc_138_7 : wz_S gc_138_7 qc_138_7 := by sorry
noncomputable def gc_138_8 : wz_W := Classical.choice ⟨fun _ _ _ => False⟩
theorem sc_138_8 : wz_S gc_138_8 qc_138_8 := by sorry
noncomputable def gw_138 : wz_W := Classical.choice ⟨fun _ _ _ => False⟩
noncomputable def gb_140_1 : wz_W := Classical.choice ⟨fun _ _ _ => False⟩
theorem sb_140_1 : wz_S gb_140_1 qb_140_1 := by sorry
noncomputable def gc_140_2 : wz_W := Classical.choice ⟨fun _ _ _ => False⟩
theorem sc_140_2 : wz_S gc_140_2 qc_140_2 := by sorry
noncomputable def gw_140 : wz_W := Classical.choice ⟨fun _ _ _ => False⟩
noncomputable def gb_151_1 : wz_W := Classical.choice ⟨fun _ _ _ => False⟩
theorem sb_151_1 : wz_S gb_151_1 qb_151_1 := by sorry
noncomputable def gc_151_2 : wz_W := Classical.choice ⟨fun _ _ _ => False⟩
theorem sc_151_2 : wz_S gc_151_2 qc_151_2 := by sorry
noncomputable def gw_151 : wz_W := Classical.choice ⟨fun _ _ _ => False⟩
noncomputable def gw_152 : wz_W := Classical.choice ⟨fun _ _ _ => False⟩
noncomputable def gw_153 : wz_W := Classical.choice ⟨fun _ _ _ => False⟩
noncomputable def gw_154 : wz_W := Classical.choice ⟨fun _ _ _ => False⟩
noncomputable def gw_155 : wz_W := Classical.choice ⟨fun _ _ _ => False⟩
noncomputable def gw_156 : wz_W := Classical.choice ⟨fun _ _ _ => False⟩
noncomputable def gb_157_1 : wz_W := Classical.choice ⟨fun _ _ _ => False⟩
theorem sb_157_1 : wz_S gb_157_1 qb_157_1 := by sorry
noncomputable def gc_157_2 : wz_W := Classical.choice ⟨fun _ _ _ => False⟩
theorem sc_157_2 : wz_S gc_157_2 qc_157_2 := by sorry
noncomputable def gw_157 : wz_W := Classical.choice ⟨fun _ _ _ => False⟩
noncomputable def gw_159 : wz_W := Classical.choice ⟨fun _ _ _ => False⟩
noncomputable def gb_161_1 : wz_W := Classical.choice ⟨fun _ _ _ => False⟩
theorem sb_161_1 : wz_S gb_161_1 qb_161_1 := by sorry
noncomputable def gb_161_2 : wz_W := Classical.choice ⟨fun _ _ _ => False⟩
theorem sb_161_2 : wz_S gb_161_2 qb_161_2 := by sorry
noncomputable def gb_161_3 : wz_W := Classical.choice ⟨fun _ _ _ => False⟩
theorem sb_161_3 : wz_S gb_161_3 qb_161_3 := by sorry
noncomputable def gc_161_4 : wz_W := Classical.choice ⟨fun _ _ _ => False⟩
theorem sc_161_4 : wz_S gc_161_4 qc_161_4 := by sorry
noncomputable def gc_161_5 : wz_W := Classical.choice ⟨fun _ _ _ => False⟩
theorem sc_161_5 : wz_S gc_161_5 qc_161_5 := by sorry
noncomputable def gc_161_6 : wz_W := Classical.choice ⟨fun _ _ _ => False⟩
theorem sc_161_6 : wz_S gc_161_6 qc_161_6 := by sorry
noncomputable def gw_161 : wz_W := Classical.choice ⟨fun _ _ _ => False⟩
noncomputable def gb_180_1 : wz_W := Classical.choice ⟨fun _ _ _ => False⟩
theorem sb_180_1 : wz_S gb_180_1 qb_180_1 := by sorry
noncomputable def gc_180_2 : wz_W := Classical.choice ⟨fun _ _ _ => False⟩
theorem sc_180_2 : wz_S gc_180_2 qc_180_2 := by sorry
noncomputable def gw_180 : wz_W := Classical.choice ⟨fun _ _ _ => False⟩
noncomputable def gw_169 : wz_W := Classical.choice ⟨fun _ _ _ => False⟩
noncomputable def gb_167_1 : wz_W := Classical.choice ⟨fun _ _ _ => False⟩
theorem sb_167_1 : wz_S gb_167_1 qb_167_1 := by sorry
noncomputable def gc_167_2 : wz_W := Classical.choice ⟨fun _ _ _ => False⟩
theorem sc_167_2 : wz_S gc_167_2 qc_167_2 := by sorry
noncomputable def gw_167 : wz_W := Classical.choice ⟨fun _ _ _ => False⟩
noncomputable def gb_166_1 : wz_W := Classical.choice ⟨fun _ _ _ => False⟩
theorem sb_166_1 : wz_S gb_166_1 qb_166_1 := by sorry
noncomputable def gc_166_2 : wz_W := Classical.choice ⟨fun _ _ _ => False⟩
theorem sc_166_2 : wz_S gc_166_2 qc_166_2 := by sorry
noncomputable def gb_166_3 : wz_W := Classical.choice ⟨fun _ _ _ => False⟩
theorem sb_166_3 : wz_S gb_166_3 qb_166_3 := by sorry
noncomputable def gb_166_4 : wz_W := Classical.choice ⟨fun _ _ _ => False⟩
theorem sb_166_4 : wz_S gb_166_4 qb_166_4 := by sorry
noncomputable def gc_166_5 : wz_W := Classical.choice ⟨fun _ _ _ => False⟩
theorem sc_166_5 : wz_S gc_166_5 qc_166_5 := by sorry
noncomputable def gb_166_6 : wz_W := Classical.choice ⟨fun _ _ _ => False⟩
theorem sb_166_6 : wz_S gb_166_6 qb_166_6 := by sorry
noncomputable def gc_166_7 : wz_W := Classical.choice ⟨fun _ _ _ => False⟩
theorem sc_166_7 : wz_S gc_166_7 qc_166_7 := by sorry
noncomputable def gb_166_8 : wz_W := Classical.choice ⟨fun _ _ _ => False⟩
theorem sb_166_8 : wz_S gb_166_8 qb_166_8 := by sorry
noncomputable def gc_166_9 : wz_W := Classical.choice ⟨fun _ _ _ => False⟩
theorem sc_166_9 : wz_S gc_166_9 qc_166_9 := by sorry
noncomputable def gc_166_10 : wz_W := Classical.choice ⟨fun _ _ _ => False⟩
theorem sc_166_10 : wz_S gc_166_10 qc_166_10 := by sorry
noncomputable def gw_166 : wz_W := Classical.choice ⟨fun _ _ _ => False⟩
noncomputable def gb_164_1 : wz_W := Classical.choice ⟨fun _ _ _ => False⟩
theorem sb_164_1 : wz_S gb_164_1 qb_164_1 := by sorry
noncomputable def gc_164_2 : wz_W := Classical.choice ⟨fun _ _ _ => False⟩
theorem sc_164_2 : wz_S gc_164_2 qc_164_2 := by sorry
noncomputable def gw_164 : wz_W := Classical.choice ⟨fun _ _ _ => False⟩
noncomputable def gb_163_1 : wz_W := Classical.choice ⟨fun _ _ _ => False⟩
theorem sb_163_1 : wz_S gb_163_1 qb_163_1 := by sorry
noncomputable def gc_163_2 : wz_W := Classical.choice ⟨fun _ _ _ => False⟩
theorem sc_163_2 : wz_S gc_163_2 qc_163_2 := by sorry
noncomputable def gw_163 : wz_W := Classical.choice ⟨fun _ _ _ => False⟩
noncomputable def gb_170_1 : wz_W := Classical.choice ⟨fun _ _ _ => False⟩
theorem sb_170_1 : wz_S gb_170_1 qb_170_1 := by sorry
noncomputable def gb_170_2 : wz_W := Classical.choice ⟨fun _ _ _ => False⟩
theorem sb_170_2 : wz_S gb_170_2 qb_170_2 := by sorry
noncomputable def gc_170_3 : wz_W := Classical.choice ⟨fun _ _ _ => False⟩
theorem sc_170_3 : wz_S gc_170_3 qc_170_3 := by sorry
noncomputable def gc_170_4 : wz_W := Classical.choice ⟨fun _ _ _ => False⟩
theorem sc_170_4 : wz_S gc_170_4 qc_170_4 := by sorry
noncomputable def gw_170 : wz_W := Classical.choice ⟨fun _ _ _ => False⟩
noncomputable def gb_162_1 : wz_W := Classical.choice ⟨fun _ _ _ => False⟩
theorem sb_162_1 : wz_S gb_162_1 qb_162_1 := by sorry
noncomputable def gc_162_2 : wz_W := Classical.choice ⟨fun _ _ _ => False⟩
theorem sc_162_2 : wz_S gc_162_2 qc_162_2 := by sorry
noncomputable def gb_162_3 : wz_W := Classical.choice ⟨fun _ _ _ => False⟩
theorem sb_162_3 : wz_S gb_162_3 qb_162_3 := by sorry
noncomputable def gc_162_4 : wz_W := Classical.choice ⟨fun _ _ _ => False⟩
theorem sc_162_4 : wz_S gc_162_4 qc_162_4 := by sorry
noncomputable def gw_162 : wz_W := Classical.choice ⟨fun _ _ _ => False⟩
noncomputable def gw_183 : wz_W := Classical.choice ⟨fun _ _ _ => False⟩
noncomputable def gw_234 : wz_W := Classical.choice ⟨fun _ _ _ => False⟩
noncomputable def gw_208 : wz_W := Classical.choice ⟨fun _ _ _ => False⟩
noncomputable def gw_185 : wz_W := Classical.choice ⟨fun _ _ _ => False⟩
noncomputable def gw_209 : wz_W := Classical.choice ⟨fun _ _ _ => False⟩
noncomputable def gw_186 : wz_W := Classical.choice ⟨fun _ _ _ => False⟩
noncomputable def gw_187 : wz_W := Classical.choice ⟨fun _ _ _ => False⟩
noncomputable def gw_249 : wz_W := Classical.choice ⟨fun _ _ _ => False⟩
noncomputable def gw_188 : wz_W := Classical.choice ⟨fun _ _ _ => False⟩
noncomputable def gw_189 : wz_W := Classical.choice ⟨fun _ _ _ => False⟩
noncomputable def gw_190 : wz_W := Classical.choice ⟨fun _ _ _ => False⟩
noncomputable def gw_194 : wz_W := Classical.choice ⟨fun _ _ _ => False⟩
noncomputable def gw_191 : wz_W := Classical.choice ⟨fun _ _ _ => False⟩
noncomputable def gw_192 : wz_W := Classical.choice ⟨fun _ _ _ => False⟩
noncomputable def gw_193 : wz_W := Classical.choice ⟨fun _ _ _ => False⟩
noncomputable def gw_195 : wz_W := Classical.choice ⟨fun _ _ _ => False⟩
noncomputable def gb_196_1 : wz_W := Classical.choice ⟨fun _ _ _ => False⟩
theorem sb_196_1 : wz_S gb_196_1 qb_196_1 := by sorry
noncomputable def gc_196_2 : wz_W := Classical.choice ⟨fun _ _ _ => False⟩
theorem sc_196_2 : wz_S gc_196_2 qc_196_2 := by sorry
noncomputable def gw_196 : wz_W := Classical.choice ⟨fun _ _ _ => False⟩
noncomputable def gw_197 : wz_W := Classical.choice ⟨fun _ _ _ => False⟩
noncomputable def gw_198 : wz_W := Classical.choice ⟨fun _ _ _ => False⟩
noncomputable def gw_199 : wz_W := Classical.choice ⟨fun _ _ _ => False⟩
noncomputable def gw_200 : wz_W := Classical.choice ⟨fun _ _ _ => False⟩
noncomputable def gw_201 : wz_W := Classical.choice ⟨fun _ _ _ => False⟩
noncomputable def gw_202 : wz_W := Classical.choice ⟨fun _ _ _ => False⟩
noncomputable def gw_203 : wz_W := Classical.choice ⟨fun _ _ _ => False⟩
noncomputable def gw_204 : wz_W := Classical.choice ⟨fun _ _ _ => False⟩
noncomputable def gw_205 : wz_W := Classical.choice ⟨fun _ _ _ => False⟩
noncomputable def gw_206 : wz_W := Classical.choice ⟨fun _ _ _ => False⟩
noncomputable def gw_207 : wz_W := Classical.choice ⟨fun _ _ _ => False⟩
noncomputable def gw_210 : wz_W := Classical.choice ⟨fun _ _ _ => False⟩
noncomputable def gw_211 : wz_W := Classical.choice ⟨fun _ _ _ => False⟩
noncomputable def gb_212_1 : wz_W := Classical.choice ⟨fun _ _ _ => False⟩
theorem sb_212_1 : wz_S gb_212_1 qb_212_1 := by sorry
noncomputable def gc_212_2 : wz_W := Classical.choice ⟨fun _ _ _ => False⟩
theorem sc_212_2 : wz_S gc_212_2 qc_212_2 := by sorry
noncomputable def gw_212 : wz_W := Classical.choice ⟨fun _ _ _ => False⟩
noncomputable def gw_213 : wz_W := Classical.choice ⟨fun _ _ _ => False⟩
noncomputable def gw_214 : wz_W := Classical.choice ⟨fun _ _ _ => False⟩
noncomputable def gw_215 : wz_W := Classical.choice ⟨fun _ _ _ => False⟩
noncomputable def gw_216 : wz_W := Classical.choice ⟨fun _ _ _ => False⟩
noncomputable def gw_217 : wz_W := Classical.choice ⟨fun _ _ _ => False⟩
noncomputable def gw_218 : wz_W := Classical.choice ⟨fun _ _ _ => False⟩
noncomputable def gw_219 : wz_W := Classical.choice ⟨fun _ _ _ => False⟩
noncomputable def gw_220 : wz_W := Classical.choice ⟨fun _ _ _ => False⟩
noncomputable def gw_221 : wz_W := Classical.choice ⟨fun _ _ _ => False⟩
noncomputable def gw_222 : wz_W := Classical.choice ⟨fun _ _ _ => False⟩
noncomputable def gw_223 : wz_W := Classical.choice ⟨fun _ _ _ => False⟩
noncomputable def gw_224 : wz_W := Classical.choice ⟨fun _ _ _ => False⟩
noncomputable def gw_225 : wz_W := Classical.choice ⟨fun _ _ _ => False⟩
noncomputable def gw_226 : wz_W := Classical.choice ⟨fun _ _ _ => False⟩
noncomputable def gw_227 : wz_W := Classical.choice ⟨fun _ _ _ => False⟩
noncomputable def gw_228 : wz_W := Classical.choice ⟨fun _ _ _ => False⟩
noncomputable def gw_229 : wz_W := Classical.choice ⟨fun _ _ _ => False⟩
noncomputable def gw_230 : wz_W := Classical.choice ⟨fun _ _ _ => False⟩
noncomputable def gw_231 : wz_W := Classical.choice ⟨fun _ _ _ => False⟩
noncomputable def gw_232 : wz_W := Classical.choice ⟨fun _ _ _ => False⟩
noncomputable def gw_233 : wz_W := Classical.choice ⟨fun _ _ _ => False⟩
noncomputable def gw_235 : wz_W := Classical.choice ⟨fun _ _ _ => False⟩
noncomputable def gw_236 : wz_W := Classical.choice ⟨fun _ _ _ => False⟩
noncomputable def gw_237 : wz_W := Classical.choice ⟨fun _ _ _ => False⟩
noncomputable def gw_238 : wz_W := Classical.choice ⟨fun _ _ _ => False⟩
noncomputable def gw_239 : wz_W := Classical.choice ⟨fun _ _ _ => False⟩
noncomputable def gw_240 : wz_W := Classical.choice ⟨fun _ _ _ => False⟩
noncomputable def gw_241 : wz_W := Classical.choice ⟨fun _ _ _ => False⟩
noncomputable def gw_242 : wz_W := Classical.choice ⟨fun _ _ _ => False⟩
noncomputable def gw_243 : wz_W := Classical.choice ⟨fun _ _ _ => False⟩
noncomputable def gw_244 : wz_W := Classical.choice ⟨fun _ _ _ => False⟩
noncomputable def gw_245 : wz_W := Classical.choice ⟨fun _ _ _ => False⟩
noncomputable def gw_246 : wz_W := Classical.choice ⟨fun _ _ _ => False⟩
noncomputable def gw_247 : wz_W := Classical.choice ⟨fun _ _ _ => False⟩
noncomputable def gw_248 : wz_W := Classical.choice ⟨fun _ _ _ => False⟩
noncomputable def gw_250 : wz_W := Classical.choice ⟨fun _ _ _ => False⟩
noncomputable def gw_251 : wz_W := Classical.choice ⟨fun _ _ _ => False⟩
noncomputable def gw_252 : wz_W := Classical.choice ⟨fun _ _ _ => False⟩
noncomputable def gw_253 : wz_W := Classical.choice ⟨fun _ _ _ => False⟩
noncomputable def gw_254 : wz_W := Classical.choice ⟨fun _ _ _ => False⟩
noncomputable def gw_255 : wz_W := Classical.choice ⟨fun _ _ _ => False⟩
noncomputable def gw_375 : wz_W := Classical.choice ⟨fun _ _ _ => False⟩
noncomputable def gw_340 : wz_W := Classical.choice ⟨fun _ _ _ => False⟩
noncomputable def gw_256 : wz_W := Classical.choice ⟨fun _ _ _ => False⟩
noncomputable def gb_565_1 : wz_W := Classical.choice ⟨fun _ _ _ => False⟩
theorem sb_565_1 : wz_S gb_565_1 qb_565_1 := by sorry
noncomputable def gc_565_2 : wz_W := Classical.choice ⟨fun _ _ _ => False⟩
theorem sc_565_2 : wz_S gc_565_2 qc_565_2 := by sorry
noncomputable def gw_565 : wz_W := Classical.choice ⟨fun _ _ _ => False⟩
noncomputable def gb_257_1 : wz_W := Classical.choice ⟨fun _ _ _ => False⟩
theorem sb_257_1 : wz_S gb_257_1 qb_257_1 := by sorry
noncomputable def gc_257_2 : wz_W := Classical.choice ⟨fun _ _ _ => False⟩
theorem sc_257_2 : wz_S gc_257_2 qc_257_2 := by sorry
noncomputable def gw_257 : wz_W := Classical.choice ⟨fun _ _ _ => False⟩
noncomputable def gb_258_1 : wz_W := Classical.choice ⟨fun _ _ _ => False⟩
theorem sb_258_1 : wz_S gb_258_1 qb_258_1 := by sorry
noncomputable def gc_258_2 : wz_W := Classical.choice ⟨fun _ _ _ => False⟩
theorem sc_258_2 : wz_S gc_258_2 qc_258_2 := by sorry
noncomputable def gw_258 : wz_W := Classical.choice ⟨fun _ _ _ => False⟩
noncomputable def gw_439 : wz_W := Classical.choice ⟨fun _ _ _ => False⟩
noncomputable def gw_263 : wz_W := Classical.choice ⟨fun _ _ _ => False⟩
noncomputable def gw_261 : wz_W := Classical.choice ⟨fun _ _ _ => False⟩
noncomputable def gw_544 : wz_W := Classical.choice ⟨fun _ _ _ => False⟩
noncomputable def gw_273 : wz_W := Classical.choice ⟨fun _ _ _ => False⟩
noncomputable def gw_260 : wz_W := Classical.choice ⟨fun _ _ _ => False⟩
noncomputable def gb_259_1 : wz_W := Classical.choice ⟨fun _ _ _ => False⟩
theorem sb_259_1 : wz_S gb_259_1 qb_259_1 := by sorry
noncomputable def gc_259_2 : wz_W := Classical.choice ⟨fun _ _ _ => False⟩
theorem sc_259_2 : wz_S gc_259_2 qc_259_2 := by sorry
noncomputable def gw_259 : wz_W := Classical.choice ⟨fun _ _ _ => False⟩
noncomputable def gw_262 : wz_W := Classical.choice ⟨fun _ _ _ => False⟩
noncomputable def gw_454 : wz_W := Classical.choice ⟨fun _ _ _ => False⟩
noncomputable def gw_346 : wz_W := Classical.choice ⟨fun _ _ _ => False⟩
noncomputable def gw_540 : wz_W := Classical.choice ⟨fun _ _ _ => False⟩
noncomputable def gb_289_1 : wz_W := Classical.choice ⟨fun _ _ _ => False⟩
theorem sb_289_1 : wz_S gb_289_1 qb_289_1 := by sorry
noncomputable def gc_289_2 : wz_W := Classical.choice ⟨fun _ _ _ => False⟩
theorem sc_289_2 : wz_S gc_289_2 qc_289_2 := by sorry
noncomputable def gw_289 : wz_W := Classical.choice ⟨fun _ _ _ => False⟩
noncomputable def gw_275 : wz_W := Classical.choice ⟨fun _ _ _ => False⟩
noncomputable def gb_264_1 : wz_W := Classical.choice ⟨fun _ _ _ => False⟩
theorem sb_264_1 : wz_S gb_264_1 qb_264_1 := by sorry
noncomputable def gc_264_2 : wz_W := Classical.choice ⟨fun _ _ _ => False⟩
theorem sc_264_2 : wz_S gc_264_2 qc_264_2 := by sorry
noncomputable def gw_264 : wz_W := Classical.choice ⟨fun _ _ _ => False⟩
noncomputable def gb_269_1 : wz_W := Classical.choice ⟨fun _ _ _ => False⟩
theorem sb_269_1 : wz_S gb_269_1 qb_269_1 := by sorry
noncomputable def gc_269_2 : wz_W := Classical.choice ⟨fun _ _ _ => False⟩
theorem sc_269_2 : wz_S gc_269_2 qc_269_2 := by sorry
noncomputable def gw_269 : wz_W := Classical.choice ⟨fun _ _ _ => False⟩
noncomputable def gb_281_1 : wz_W := Classical.choice ⟨fun _ _ _ => False⟩
theorem sb_281_1 : wz_S gb_281_1 qb_281_1 := by sorry
noncomputable def gc_281_2 : wz_W := Classical.choice ⟨fun _ _ _ => False⟩
theorem sc_281_2 : wz_S gc_281_2 qc_281_2 := by sorry
noncomputable def gw_281 : wz_W := Classical.choice ⟨fun _ _ _ => False⟩
noncomputable def gb_265_1 : wz_W := Classical.choice ⟨fun _ _ _ => False⟩
theorem sb_265_1 : wz_S gb_265_1 qb_265_1 := by sorry
noncomputable def gb_265_2 : wz_W := Classical.choice ⟨fun _ _ _ => False⟩
theorem sb_265_2 : wz_S gb_265_2 qb_265_2 := by sorry
noncomputable def gc_265_3 : wz_W := Classical.choice ⟨fun _ _ _ => False⟩
theorem sc_265_3 : wz_S gc_265_3 qc_265_3 := by sorry
noncomputable def gc_265_4 : wz_W := Classical.choice ⟨fun _ _ _ => False⟩
theorem sc_265_4 : wz_S gc_265_4 qc_265_4 := by sorry
noncomputable def gw_265 : wz_W := Classical.choice ⟨fun _ _ _ => False⟩
noncomputable def gw_266 : wz_W := Classical.choice ⟨fun _ _ _ => False⟩
noncomputable def gb_267_1 : wz_W := Classical.choice ⟨fun _ _ _ => False⟩
theorem sb_267_1 : wz_S gb_267_1 qb_267_1 := by sorry
noncomputable def gc_267_2 : wz_W := Classical.choice ⟨fun _ _ _ => False⟩
theorem sc_267_2 : wz_S gc_267_2 qc_267_2 := by sorry
noncomputable def gw_267 : wz_W := Classical.choice ⟨fun _ _ _ => False⟩
noncomputable def gw_446 : wz_W := Classical.choice ⟨fun _ _ _ => False⟩
noncomputable def gw_447 : wz_W := Classical.choice ⟨fun _ _ _ => False⟩
noncomputable def gw_393 : wz_W := Classical.choice ⟨fun _ _ _ => False⟩
noncomputable def gw_270 : wz_W := Classical.choice ⟨fun _ _ _ => False⟩
noncomputable def gb_274_1 : wz_W := Classical.choice ⟨fun _ _ _ => False⟩
theorem sb_274_1 : wz_S gb_274_1 qb_274_1 := by sorry
noncomputable def gb_274_2 : wz_W := Classical.choice ⟨fun _ _ _ => False⟩
theorem sb_274_2 : wz_S gb_274_2 qb_274_2 := by sorry
noncomputable def gc_274_3 : wz_W := Classical.choice ⟨fun _ _ _ => False⟩
theorem sc_274_3 : wz_S gc_274_3 qc_274_3 := by sorry
noncomputable def gb_274_4 : wz_W := Classical.choice ⟨fun _ _ _ => False⟩
theorem sb_274_4 : wz_S gb_274_4 qb_274_4 := by sorry
noncomputable def gc_274_5 : wz_W := Classical.choice ⟨fun _ _ _ => False⟩
theorem sc_274_5 : wz_S gc_274_5 qc_274_5 := by sorry
noncomputable def gc_274_6 : wz_W := Classical.choice ⟨fun _ _ _ => False⟩
theorem sc_274_6 : wz_S gc_274_6 qc_274_6 := by sorry
noncomputable def gw_274 : wz_W := Classical.choice ⟨fun _ _ _ => False⟩
noncomputable def gb_277_1 : wz_W := Classical.choice ⟨fun _ _ _ => False⟩
theorem sb_277_1 : wz_S gb_277_1 qb_277_1 := by sorry
noncomputable def gc_277_2 : wz_W := Classical.choice ⟨fun _ _ _ => False⟩
theorem sc_277_2 : wz_S gc_277_2 qc_277_2 := by sorry
noncomputable def gw_277 : wz_W := Classical.choice ⟨fun _ _ _ => False⟩
noncomputable def gb_283_1 : wz_W := Classical.choice ⟨fun _ _ _ => False⟩
theorem sb_283_1 : wz_S gb_283_1 qb_283_1 := by sorry
noncomputable def gc_283_2 : wz_W := Classical.choice ⟨fun _ _ _ => False⟩
theorem sc_283_2 : wz_S gc_283_2 qc_283_2 := by sorry
noncomputable def gw_283 : wz_W := Classical.choice ⟨fun _ _ _ => False⟩
noncomputable def gb_271_1 : wz_W := Classical.choice ⟨fun _ _ _ => False⟩
theorem sb_271_1 : wz_S gb_271_1 qb_271_1 := by sorry
noncomputable def gb_271_2 : wz_W := Classical.choice ⟨fun _ _ _ => False⟩
theorem sb_271_2 : wz_S gb_271_2 qb_271_2 := by sorry
noncomputable def gb_271_3 : wz_W := Classical.choice ⟨fun _ _ _ => False⟩
theorem sb_271_3 : wz_S gb_271_3 qb_271_3 := by sorry
noncomputable def gc_271_4 : wz_W := Classical.choice ⟨fun _ _ _ => False⟩
theorem sc_271_4 : wz_S gc_271_4 qc_271_4 := by sorry
noncomputable def gb_271_5 : wz_W := Classical.choice ⟨fun _ _ _ => False⟩
theorem sb_271_5 : wz_S gb_271_5 qb_271_5 := by sorry
noncomputable def gc_271_6 : wz_W := Classical.choice ⟨fun _ _ _ => False⟩
theorem sc_271_6 : wz_S gc_271_6 qc_271_6 := by sorry
noncomputable def gb_271_7 : wz_W := Classical.choice ⟨fun _ _ _ => False⟩
theorem sb_271_7 : wz_S gb_271_7 qb_271_7 := by sorry
noncomputable def gc_271_8 : wz_W := Classical.choice ⟨fun _ _ _ => False⟩
theorem sc_271_8 : wz_S gc_271_8 qc_271_8 := by sorry
noncomputable def gc_271_9 : wz_W := Classical.choice ⟨fun _ _ _ => False⟩
theorem sc_271_9 : wz_S gc_271_9 qc_271_9 := by sorry
noncomputable def gc_271_10 : wz_W := Classical.choice ⟨fun _ _ _ => False⟩
theorem sc_271_10 : wz_S gc_271_10 qc_271_10 := by sorry
noncomputable def gw_271 : wz_W := Classical.choice ⟨fun _ _ _ => False⟩
noncomputable def gb_268_1 : wz_W := Classical.choice ⟨fun _ _ _ => False⟩
theorem sb_268_1 : wz_S gb_268_1 qb_268_1 := by sorry
noncomputable def gc_268_2 : wz_W := Classical.choice ⟨fun _ _ _ => False⟩
theorem sc_268_2 : wz_S gc_268_2 qc_268_2 := by sorry
noncomputable def gb_268_3 : wz_W := Classical.choice ⟨fun _ _ _ => False⟩
theorem sb_268_3 : wz_S gb_268_3 qb_268_3 := by sorry
noncomputable def gc_268_4 : wz_W := Classical.choice ⟨fun _ _ _ => False⟩
theorem sc_268_4 : wz_S gc_268_4 qc_268_4 := by sorry
noncomputable def gw_268 : wz_W := Classical.choice ⟨fun _ _ _ => False⟩
noncomputable def gw_272 : wz_W := Classical.choice ⟨fun _ _ _ => False⟩
noncomputable def gw_276 : wz_W := Classical.choice ⟨fun _ _ _ => False⟩
noncomputable def gb_278_1 : wz_W := Classical.choice ⟨fun _ _ _ => False⟩
theorem sb_278_1 : wz_S gb_278_1 qb_278_1 := by sorry
noncomputable def gc_278_2 : wz_W := Classical.choice ⟨fun _ _ _ => False⟩
theorem sc_278_2 : wz_S gc_278_2 qc_278_2 := by sorry
noncomputable def gw_278 : wz_W := Classical.choice ⟨fun _ _ _ => False⟩
noncomputable def gb_279_1 : wz_W := Classical.choice ⟨fun _ _ _ => False⟩
theorem sb_279_1 : wz_S gb_279_1 qb_279_1 := by sorry
noncomputable def gc_279_2 : wz_W := Classical.choice ⟨fun _ _ _ => False⟩
theorem sc_279_2 : wz_S gc_279_2 qc_279_2 := by sorry
noncomputable def gw_279 : wz_W := Classical.choice ⟨fun _ _ _ => False⟩
noncomputable def gw_537 : wz_W := Classical.choice ⟨fun _ _ _ => False⟩
noncomputable def gb_280_1 : wz_W := Classical.choice ⟨fun _ _ _ => False⟩
theorem sb_280_1 : wz_S gb_280_1 qb_280_1 := by sorry
noncomputable def gc_280_2 : wz_W := Classical.choice ⟨fun _ _ _ => False⟩
theorem sc_280_2 : wz_S gc_280_2 qc_280_2 := by sorry
noncomputable def gw_280 : wz_W := Classical.choice ⟨fun _ _ _ => False⟩
noncomputable def gw_337 : wz_W := Classical.choice ⟨fun _ _ _ => False⟩
noncomputable def gb_557_1 : wz_W := Classical.choice ⟨fun _ _ _ => False⟩
theorem sb_557_1 : wz_S gb_557_1 qb_557_1 := by sorry
noncomputable def gc_557_2 : wz_W := Classical.choice ⟨fun _ _ _ => False⟩
theorem sc_557_2 : wz_S gc_557_2 qc_557_2 := by sorry
noncomputable def gb_557_3 : wz_W := Classical.choice ⟨fun _ _ _ => False⟩
theorem sb_557_3 : wz_S gb_557_3 qb_557_3 := by sorry
noncomputable def gc_557_4 : wz_W := Classical.choice ⟨fun _ _ _ => False⟩
theorem sc_557_4 : wz_S gc_557_4 qc_557_4 := by sorry
noncomputable def gc_557_5 : wz_W := Classical.choice ⟨fun _ _ _ => False⟩
theorem sc_557_5 : wz_S gc_557_5 qc_557_5 := by sorry
noncomputable def gw_557 : wz_W := Classical.choice ⟨fun _ _ _ => False⟩
noncomputable def gw_563 : wz_W := Classical.choice ⟨fun _ _ _ => False⟩
noncomputable def gw_334 : wz_W := Classical.choice ⟨fun _ _ _ => False⟩
noncomputable def gw_295 : wz_W := Classical.choice ⟨fun _ _ _ => False⟩
noncomputable def gw_379 : wz_W := Classical.choice ⟨fun _ _ _ => False⟩
noncomputable def gw_441 : wz_W := Classical.choice ⟨fun _ _ _ => False⟩
noncomputable def gb_282_1 : wz_W := Classical.choice ⟨fun _ _ _ => False⟩
theorem sb_282_1 : wz_S gb_282_1 qb_282_1 := by sorry
noncomputable def gb_282_2 : wz_W := Classical.choice ⟨fun _ _ _ => False⟩
theorem sb_282_2 : wz_S gb_282_2 qb_282_2 := by sorry
noncomputable def gc_282_3 : wz_W := Classical.choice ⟨fun _ _ _ => False⟩
theorem sc_282_3 : wz_S gc_282_3 qc_282_3 := by sorry
noncomputable def gc_282_4 : wz_W := Classical.choice ⟨fun _ _ _ => False⟩
theorem sc_282_4 : wz_S gc_282_4 qc_282_4 := by sorry
noncomputable def gw_282 : wz_W := Classical.choice ⟨fun _ _ _ => False⟩
noncomputable def gw_284 : wz_W := Classical.choice ⟨fun _ _ _ => False⟩
noncomputable def gb_285_1 : wz_W := Classical.choice ⟨fun _ _ _ => False⟩
theorem sb_285_1 : wz_S gb_285_1 qb_285_1 := by sorry
noncomputable def gb_285_2 : wz_W := Classical.choice ⟨fun _ _ _ => False⟩
theorem sb_285_2 : wz_S gb_285_2 qb_285_2 := by sorry
noncomputable def gb_285_3 : wz_W := Classical.choice ⟨fun _ _ _ => False⟩
theorem sb_285_3 : wz_S gb_285_3 qb_285_3 := by sorry
noncomputable def gc_285_4 : wz_W := Classical.choice ⟨fun _ _ _ => False⟩
theorem sc_285_4 : wz_S gc_285_4 qc_285_4 := by sorry
noncomputable def gc_285_5 : wz_W := Classical.choice ⟨fun _ _ _ => False⟩
theorem sc_285_5 : wz_S gc_285_5 qc_285_5 := by sorry
noncomputable def gc_285_6 : wz_W := Classical.choice ⟨fun _ _ _ => False⟩
theorem sc_285_6 : wz_S gc_285_6 qc_285_6 := by sorry
noncomputable def gw_285 : wz_W := Classical.choice ⟨fun _ _ _ => False⟩
noncomputable def gb_286_1 : wz_W := Classical.choice ⟨fun _ _ _ => False⟩
theorem sb_286_1 : wz_S gb_286_1 qb_286_1 := by sorry
noncomputable def gc_286_2 : wz_W := Classical.choice ⟨fun _ _ _ => False⟩
theorem sc_286_2 : wz_S gc_286_2 qc_286_2 := by sorry
noncomputable def gw_286 : wz_W := Classical.choice ⟨fun _ _ _ => False⟩
noncomputable def gw_287 : wz_W := Classical.choice ⟨fun _ _ _ => False⟩
noncomputable def gw_288 : wz_W := Classical.choice ⟨fun _ _ _ => False⟩
noncomputable def gw_318 : wz_W := Classical.choice ⟨fun _ _ _ => False⟩
noncomputable def gb_462_1 : wz_W := Classical.choice ⟨fun _ _ _ => False⟩
theorem sb_462_1 : wz_S gb_462_1 qb_462_1 := by sorry
noncomputable def gc_462_2 : wz_W := Classical.choice ⟨fun _ _ _ => False⟩
theorem sc_462_2 : wz_S gc_462_2 qc_462_2 := by sorry
noncomputable def gw_462 : wz_W := Classical.choice ⟨fun _ _ _ => False⟩
noncomputable def gb_509_1 : wz_W := Classical.choice ⟨fun _ _ _ => False⟩
theorem sb_509_1 : wz_S gb_509_1 qb_509_1 := by sorry
noncomputable def gc_509_2 : wz_W := Classical.choice ⟨fun _ _ _ => False⟩
theorem sc_509_2 : wz_S gc_509_2 qc_509_2 := by sorry
noncomputable def gw_509 : wz_W := Classical.choice ⟨fun _ _ _ => False⟩
noncomputable def gw_354 : wz_W := Classical.choice ⟨fun _ _ _ => False⟩
noncomputable def gw_400 : wz_W := Classical.choice ⟨fun _ _ _ => False⟩
noncomputable def gb_290_1 : wz_W := Classical.choice ⟨fun _ _ _ => False⟩
theorem sb_290_1 : wz_S gb_290_1 qb_290_1 := by sorry
noncomputable def gc_290_2 : wz_W := Classical.choice ⟨fun _ _ _ => False⟩
theorem sc_290_2 : wz_S gc_290_2 qc_290_2 := by sorry
noncomputable def gw_290 : wz_W := Classical.choice ⟨fun _ _ _ => False⟩
noncomputable def gw_438 : wz_W := Classical.choice ⟨fun _ _ _ => False⟩
noncomputable def gb_468_1 : wz_W := Classical.choice ⟨fun _ _ _ => False⟩
theorem sb_468_1 : wz_S gb_468_1 qb_468_1 := by sorry
noncomputable def gc_468_2 : wz_W := Classical.choice ⟨fun _ _ _ => False⟩
theorem sc_468_2 : wz_S gc_468_2 qc_468_2 := by sorry
noncomputable def gw_468 : wz_W := Classical.choice ⟨fun _ _ _ => False⟩
noncomputable def gb_491_1 : wz_W := Classical.choice ⟨fun _ _ _ => False⟩
theorem sb_491_1 : wz_S gb_491_1 qb_491_1 := by sorry
noncomputable def gc_491_2 : wz_W := Classical.choice ⟨fun _ _ _ => False⟩
theorem sc_491_2 : wz_S gc_491_2 qc_491_2 := by sorry
noncomputable def gw_491 : wz_W := Classical.choice ⟨fun _ _ _ => False⟩
noncomputable def gb_351_1 : wz_W := Classical.choice ⟨fun _ _ _ => False⟩
theorem sb_351_1 : wz_S gb_351_1 qb_351_1 := by sorry
noncomputable def gc_351_2 : wz_W := Classical.choice ⟨fun _ _ _ => False⟩
theorem sc_351_2 : wz_S gc_351_2 qc_351_2 := by sorry
noncomputable def gw_351 : wz_W := Classical.choice ⟨fun _ _ _ => False⟩
noncomputable def gb_466_1 : wz_W := Classical.choice ⟨fun _ _ _ => False⟩
theorem sb_466_1 : wz_S gb_466_1 qb_466_1 := by sorry
noncomputable def gc_466_2 : wz_W := Classical.choice ⟨fun _ _ _ => False⟩
theorem sc_466_2 : wz_S gc_466_2 qc_466_2 := by sorry
noncomputable def gw_466 : wz_W := Classical.choice ⟨fun _ _ _ => False⟩
noncomputable def gw_390 : wz_W := Classical.choice ⟨fun _ _ _ => False⟩
noncomputable def gw_461 : wz_W := Classical.choice ⟨fun _ _ _ => False⟩
noncomputable def gb_488_1 : wz_W := Classical.choice ⟨fun _ _ _ => False⟩
theorem sb_488_1 : wz_S gb_488_1 qb_488_1 := by sorry
noncomputable def gc_488_2 : wz_W := Classical.choice ⟨fun _ _ _ => False⟩
theorem sc_488_2 : wz_S gc_488_2 qc_488_2 := by sorry
noncomputable def gw_488 : wz_W := Classical.choice ⟨fun _ _ _ => False⟩
noncomputable def gw_476 : wz_W := Classical.choice ⟨fun _ _ _ => False⟩
noncomputable def gw_465 : wz_W := Classical.choice ⟨fun _ _ _ => False⟩
noncomputable def gw_472 : wz_W := Classical.choice ⟨fun _ _ _ => False⟩
noncomputable def gb_464_1 : wz_W := Classical.choice ⟨fun _ _ _ => False⟩
theorem sb_464_1 : wz_S gb_464_1 qb_464_1 := by sorry
noncomputable def gc_464_2 : wz_W := Classical.choice ⟨fun _ _ _ => False⟩
theorem sc_464_2 : wz_S gc_464_2 qc_464_2 := by sorry
noncomputable def gw_464 : wz_W := Classical.choice ⟨fun _ _ _ => False⟩
noncomputable def gw_479 : wz_W := Classical.choice ⟨fun _ _ _ => False⟩
noncomputable def gw_489 : wz_W := Classical.choice ⟨fun _ _ _ => False⟩
noncomputable def gw_490 : wz_W := Classical.choice ⟨fun _ _ _ => False⟩
noncomputable def gw_484 : wz_W := Classical.choice ⟨fun _ _ _ => False⟩
noncomputable def gw_470 : wz_W := Classical.choice ⟨fun _ _ _ => False⟩
noncomputable def gw_481 : wz_W := Classical.choice ⟨fun _ _ _ => False⟩
noncomputable def gw_507 : wz_W := Classical.choice ⟨fun _ _ _ => False⟩
noncomputable def gw_530 : wz_W := Classical.choice ⟨fun _ _ _ => False⟩
noncomputable def gw_482 : wz_W := Classical.choice ⟨fun _ _ _ => False⟩
noncomputable def gb_471_1 : wz_W := Classical.choice ⟨fun _ _ _ => False⟩
theorem sb_471_1 : wz_S gb_471_1 qb_471_1 := by sorry
noncomputable def gb_471_2 : wz_W := Classical.choice ⟨fun _ _ _ => False⟩
theorem sb_471_2 : wz_S gb_471_2 qb_471_2 := by sorry
noncomputable def gb_471_3 : wz_W := Classical.choice ⟨fun _ _ _ => False⟩
theorem sb_471_3 : wz_S gb_471_3 qb_471_3 := by sorry
noncomputable def gc_471_4 : wz_W := Classical.choice ⟨fun _ _ _ => False⟩
theorem sc_471_4 : wz_S gc_471_4 qc_471_4 := by sorry
noncomputable def gc_471_5 : wz_W := Classical.choice ⟨fun _ _ _ => False⟩
theorem sc_471_5 : wz_S gc_471_5 qc_471_5 := by sorry
noncomputable def gc_471_6 : wz_W := Classical.choice ⟨fun _ _ _ => False⟩
theorem sc_471_6 : wz_S gc_471_6 qc_471_6 := by sorry
noncomputable def gw_471 : wz_W := Classical.choice ⟨fun _ _ _ => False⟩
noncomputable def gb_460_1 : wz_W := Classical.choice ⟨fun _ _ _ => False⟩
theorem sb_460_1 : wz_S gb_460_1 qb_460_1 := by sorry
noncomputable def gc_460_2 : wz_W := Classical.choice ⟨fun _ _ _ => False⟩
theorem sc_460_2 : wz_S gc_460_2 qc_460_2 := by sorry
noncomputable def gw_460 : wz_W := Classical.choice ⟨fun _ _ _ => False⟩
noncomputable def gw_434 : wz_W := Classical.choice ⟨fun _ _ _ => False⟩
noncomputable def gb_469_1 : wz_W := Classical.choice ⟨fun _ _ _ => False⟩
theorem sb_469_1 : wz_S gb_469_1 qb_469_1 := by sorry
noncomputable def gc_469_2 : wz_W := Classical.choice ⟨fun _ _ _ => False⟩
theorem sc_469_2 : wz_S gc_469_2 qc_469_2 := by sorry
noncomputable def gw_469 : wz_W := Classical.choice ⟨fun _ _ _ => False⟩
noncomputable def gb_493_1 : wz_W := Classical.choice ⟨fun _ _ _ => False⟩
theorem sb_493_1 : wz_S gb_493_1 qb_493_1 := by sorry
noncomputable def gc_493_2 : wz_W := Classical.choice ⟨fun _ _ _ => False⟩
theorem sc_493_2 : wz_S gc_493_2 qc_493_2 := by sorry
noncomputable def gw_493 : wz_W := Classical.choice ⟨fun _ _ _ => False⟩
noncomputable def gb_467_1 : wz_W := Classical.choice ⟨fun _ _ _ => False⟩
theorem sb_467_1 : wz_S gb_467_1 qb_467_1 := by sorry
noncomputable def gc_467_2 : wz_W := Classical.choice ⟨fun _ _ _ => False⟩
theorem sc_467_2 : wz_S gc_467_2 qc_467_2 := by sorry
noncomputable def gw_467 : wz_W := Classical.choice ⟨fun _ _ _ => False⟩
noncomputable def gw_291 : wz_W := Classical.choice ⟨fun _ _ _ => False⟩
noncomputable def gw_380 : wz_W := Classical.choice ⟨fun _ _ _ => False⟩
noncomputable def gw_296 : wz_W := Classical.choice ⟨fun _ _ _ => False⟩
noncomputable def gw_303 : wz_W := Classical.choice ⟨fun _ _ _ => False⟩
noncomputable def gb_300_1 : wz_W := Classical.choice ⟨fun _ _ _ => False⟩
theorem sb_300_1 : wz_S gb_300_1 qb_300_1 := by sorry
noncomputable def gb_300_2 : wz_W := Classical.choice ⟨fun _ _ _ => False⟩
theorem sb_300_2 : wz_S gb_300_2 qb_300_2 := by sorry
noncomputable def gc_300_3 : wz_W := Classical.choice ⟨fun _ _ _ => False⟩
theorem sc_300_3 : wz_S gc_300_3 qc_300_3 := by sorry
noncomputable def gb_300_4 : wz_W := Classical.choice ⟨fun _ _ _ => False⟩
theorem sb_300_4 : wz_S gb_300_4 qb_300_4 := by sorry
noncomputable def gc_300_5 : wz_W := Classical.choice ⟨fun _ _ _ => False⟩
theorem sc_300_5 : wz_S gc_300_5 qc_300_5 := by sorry
noncomputable def gc_300_6 : wz_W := Classical.choice ⟨fun _ _ _ => False⟩
theorem sc_300_6 : wz_S gc_300_6 qc_300_6 := by sorry
noncomputable def gw_300 : wz_W := Classical.choice ⟨fun _ _ _ => False⟩
noncomputable def gb_302_1 : wz_W := Classical.choice ⟨fun _ _ _ => False⟩
theorem sb_302_1 : wz_S gb_302_1 qb_302_1 := by sorry
noncomputable def gc_302_2 : wz_W := Classical.choice ⟨fun _ _ _ => False⟩
theorem sc_302_2 : wz_S gc_302_2 qc_302_2 := by sorry
noncomputable def gb_302_3 : wz_W := Classical.choice ⟨fun _ _ _ => False⟩
theorem sb_302_3 : wz_S gb_302_3 qb_302_3 := by sorry
noncomputable def gc_302_4 : wz_W := Classical.choice ⟨fun _ _ _ => False⟩
theorem sc_302_4 : wz_S gc_302_4 qc_302_4 := by sorry
noncomputable def gw_302 : wz_W := Classical.choice ⟨fun _ _ _ => False⟩
noncomputable def gw_406 : wz_W := Classical.choice ⟨fun _ _ _ => False⟩
noncomputable def gw_403 : wz_W := Classical.choice ⟨fun _ _ _ => False⟩
noncomputable def gw_320 : wz_W := Classical.choice ⟨fun _ _ _ => False⟩
noncomputable def gw_404 : wz_W := Classical.choice ⟨fun _ _ _ => False⟩
noncomputable def gw_343 : wz_W := Classical.choice ⟨fun _ _ _ => False⟩
noncomputable def gw_419 : wz_W := Classical.choice ⟨fun _ _ _ => False⟩
noncomputable def gw_433 : wz_W := Classical.choice ⟨fun _ _ _ => False⟩
noncomputable def gb_312_1 : wz_W := Classical.choice ⟨fun _ _ _ => False⟩
theorem sb_312_1 : wz_S gb_312_1 qb_312_1 := by sorry
noncomputable def gb_312_2 : wz_W := Classical.choice ⟨fun _ _ _ => False⟩
theorem sb_312_2 : wz_S gb_312_2 qb_312_2 := by sorry
noncomputable def gc_312_3 : wz_W := Classical.choice ⟨fun _ _ _ => False⟩
theorem sc_312_3 : wz_S gc_312_3 qc_312_3 := by sorry
noncomputable def gc_312_4 : wz_W := Classical.choice ⟨fun _ _ _ => False⟩
theorem sc_312_4 : wz_S gc_312_4 qc_312_4 := by sorry
noncomputable def gw_312 : wz_W := Classical.choice ⟨fun _ _ _ => False⟩
noncomputable def gb_309_1 : wz_W := Classical.choice ⟨fun _ _ _ => False⟩
theorem sb_309_1 : wz_S gb_309_1 qb_309_1 := by sorry
noncomputable def gc_309_2 : wz_W := Classical.choice ⟨fun _ _ _ => False⟩
theorem sc_309_2 : wz_S gc_309_2 qc_309_2 := by sorry
noncomputable def gw_309 : wz_W := Classical.choice ⟨fun _ _ _ => False⟩
noncomputable def gb_313_1 : wz_W := Classical.choice ⟨fun _ _ _ => False⟩
theorem sb_313_1 : wz_S gb_313_1 qb_313_1 := by sorry
noncomputable def gc_313_2 : wz_W := Classical.choice ⟨fun _ _ _ => False⟩
theorem sc_313_2 : wz_S gc_313_2 qc_313_2 := by sorry
noncomputable def gw_313 : wz_W := Classical.choice ⟨fun _ _ _ => False⟩
noncomputable def gw_311 : wz_W := Classical.choice ⟨fun _ _ _ => False⟩
noncomputable def gb_304_1 : wz_W := Classical.choice ⟨fun _ _ _ => False⟩
theorem sb_304_1 : wz_S gb_304_1 qb_304_1 := by sorry
noncomputable def gb_304_2 : wz_W := Classical.choice ⟨fun _ _ _ => False⟩
theorem sb_304_2 : wz_S gb_304_2 qb_304_2 := by sorry
noncomputable def gb_304_3 : wz_W := Classical.choice ⟨fun _ _ _ => False⟩
theorem sb_304_3 : wz_S gb_304_3 qb_304_3 := by sorry
noncomputable def gc_304_4 : wz_W := Classical.choice ⟨fun _ _ _ => False⟩
theorem sc_304_4 : wz_S gc_304_4 qc_304_4 := by sorry
noncomputable def gc_304_5 : wz_W := Classical.choice ⟨fun _ _ _ => False⟩
theorem sc_304_5 : wz_S gc_304_5 qc_304_5 := by sorry
noncomputable def gc_304_6 : wz_W := Classical.choice ⟨fun _ _ _ => False⟩
theorem sc_304_6 : wz_S gc_304_6 qc_304_6 := by sorry
noncomputable def gw_304 : wz_W := Classical.choice ⟨fun _ _ _ => False⟩
noncomputable def gb_298_1 : wz_W := Classical.choice ⟨fun _ _ _ => False⟩
theorem sb_298_1 : wz_S gb_298_1 qb_298_1 := by sorry
noncomputable def gc_298_2 : wz_W := Classical.choice ⟨fun _ _ _ => False⟩
theorem sc_298_2 : wz_S gc_298_2 qc_298_2 := by sorry
noncomputable def gb_298_3 : wz_W := Classical.choice ⟨fun _ _ _ => False⟩
theorem sb_298_3 : wz_S gb_298_3 qb_298_3 := by sorry
noncomputable def gb_298_4 : wz_W := Classical.choice ⟨fun _ _ _ => False⟩
theorem sb_298_4 : wz_S gb_298_4 qb_298_4 := by sorry
noncomputable def gc_298_5 : wz_W := Classical.choice ⟨fun _ _ _ => False⟩
theorem sc_298_5 : wz_S gc_298_5 qc_298_5 := by sorry
noncomputable def gc_298_6 : wz_W := Classical.choice ⟨fun _ _ _ => False⟩
theorem sc_298_6 : wz_S gc_298_6 qc_298_6 := by sorry
noncomputable def gw_298 : wz_W := Classical.choice ⟨fun _ _ _ => False⟩
noncomputable def gw_292 : wz_W := Classical.choice ⟨fun _ _ _ => False⟩
noncomputable def gw_387 : wz_W := Classical.choice ⟨fun _ _ _ => False⟩
noncomputable def gb_299_1 : wz_W := Classical.choice ⟨fun _ _ _ => False⟩
theorem sb_299_1 : wz_S gb_299_1 qb_299_1 := by sorry
noncomputable def gc_299_2 : wz_W := Classical.choice ⟨fun _ _ _ => False⟩
theorem sc_299_2 : wz_S gc_299_2 qc_299_2 := by sorry
noncomputable def gw_299 : wz_W := Classical.choice ⟨fun _ _ _ => False⟩
noncomputable def gw_293 : wz_W := Classical.choice ⟨fun _ _ _ => False⟩
noncomputable def gw_388 : wz_W := Classical.choice ⟨fun _ _ _ => False⟩
noncomputable def gw_421 : wz_W := Classical.choice ⟨fun _ _ _ => False⟩
noncomputable def gw_401 : wz_W := Classical.choice ⟨fun _ _ _ => False⟩
noncomputable def gw_398 : wz_W := Classical.choice ⟨fun _ _ _ => False⟩
noncomputable def gw_416 : wz_W := Classical.choice ⟨fun _ _ _ => False⟩
noncomputable def gw_423 : wz_W := Classical.choice ⟨fun _ _ _ => False⟩
noncomputable def gw_411 : wz_W := Classical.choice ⟨fun _ _ _ => False⟩
noncomputable def gw_396 : wz_W := Classical.choice ⟨fun _ _ _ => False⟩
noncomputable def gb_418_1 : wz_W := Classical.choice ⟨fun _ _ _ => False⟩
theorem sb_418_1 : wz_S gb_418_1 qb_418_1 := by sorry
noncomputable def gc_418_2 : wz_W := Classical.choice ⟨fun _ _ _ => False⟩
theorem sc_418_2 : wz_S gc_418_2 qc_418_2 := by sorry
noncomputable def gw_418 : wz_W := Classical.choice ⟨fun _ _ _ => False⟩
noncomputable def gw_399 : wz_W := Classical.choice ⟨fun _ _ _ => False⟩
noncomputable def gw_294 : wz_W := Classical.choice ⟨fun _ _ _ => False⟩
noncomputable def gw_297 : wz_W := Classical.choice ⟨fun _ _ _ => False⟩
noncomputable def gw_352 : wz_W := Classical.choice ⟨fun _ _ _ => False⟩
noncomputable def gw_384 : wz_W := Classical.choice ⟨fun _ _ _ => False⟩
noncomputable def gb_301_1 : wz_W := Classical.choice ⟨fun _ _ _ => False⟩
theorem sb_301_1 : wz_S gb_301_1 qb_301_1 := by sorry
noncomputable def gc_301_2 : wz_W := Classical.choice ⟨fun _ _ _ => False⟩
theorem sc_301_2 : wz_S gc_301_2 qc_301_2 := by sorry
noncomputable def gb_301_3 : wz_W := Classical.choice ⟨fun _ _ _ => False⟩
theorem sb_301_3 : wz_S gb_301_3 qb_301_3 := by sorry
noncomputable def gc_301_4 : wz_W := Classical.choice ⟨fun _ _ _ => False⟩
theorem sc_301_4 : wz_S gc_301_4 qc_301_4 := by sorry
noncomputable def gw_301 : wz_W := Classical.choice ⟨fun _ _ _ => False⟩
noncomputable def gb_306_1 : wz_W := Classical.choice ⟨fun _ _ _ => False⟩
theorem sb_306_1 : wz_S gb_306_1 qb_306_1 := by sorry
noncomputable def gc_306_2 : wz_W := Classical.choice ⟨fun _ _ _ => False⟩
theorem sc_306_2 : wz_S gc_306_2 qc_306_2 := by sorry
noncomputable def gw_306 : wz_W := Classical.choice ⟨fun _ _ _ => False⟩
noncomputable def gb_305_1 : wz_W := Classical.choice ⟨fun _ _ _ => False⟩
theorem sb_305_1 : wz_S gb_305_1 qb_305_1 := by sorry
noncomputable def gc_305_2 : wz_W := Classical.choice ⟨fun _ _ _ => False⟩
theorem sc_305_2 : wz_S gc_305_2 qc_305_2 := by sorry
noncomputable def gw_305 : wz_W := Classical.choice ⟨fun _ _ _ => False⟩
noncomputable def gw_307 : wz_W := Classical.choice ⟨fun _ _ _ => False⟩
noncomputable def gw_459 : wz_W := Classical.choice ⟨fun _ _ _ => False⟩
noncomputable def gb_308_1 : wz_W := Classical.choice ⟨fun _ _ _ => False⟩
theorem sb_308_1 : wz_S gb_308_1 qb_308_1 := by sorry
noncomputable def gb_308_2 : wz_W := Classical.choice ⟨fun _ _ _ => False⟩
theorem sb_308_2 : wz_S gb_308_2 qb_308_2 := by sorry
noncomputable def gc_308_3 : wz_W := Classical.choice ⟨fun _ _ _ => False⟩
theorem sc_308_3 : wz_S gc_308_3 qc_308_3 := by sorry
noncomputable def gc_308_4 : wz_W := Classical.choice ⟨fun _ _ _ => False⟩
theorem sc_308_4 : wz_S gc_308_4 qc_308_4 := by sorry
noncomputable def gw_308 : wz_W := Classical.choice ⟨fun _ _ _ => False⟩
noncomputable def gb_436_1 : wz_W := Classical.choice ⟨fun _ _ _ => False⟩
theorem sb_436_1 : wz_S gb_436_1 qb_436_1 := by sorry
noncomputable def gc_436_2 : wz_W := Classical.choice ⟨fun _ _ _ => False⟩
theorem sc_436_2 : wz_S gc_436_2 qc_436_2 := by sorry
noncomputable def gw_436 : wz_W := Classical.choice ⟨fun _ _ _ => False⟩
noncomputable def gb_310_1 : wz_W := Classical.choice ⟨fun _ _ _ => False⟩
theorem sb_310_1 : wz_S gb_310_1 qb_310_1 := by sorry
noncomputable def gc_310_2 : wz_W := Classical.choice ⟨fun _ _ _ => False⟩
theorem sc_310_2 : wz_S gc_310_2 qc_310_2 := by sorry
noncomputable def gb_310_3 : wz_W := Classical.choice ⟨fun _ _ _ => False⟩
theorem sb_310_3 : wz_S gb_310_3 qb_310_3 := by sorry
noncomputable def gc_310_4 : wz_W := Classical.choice ⟨fun _ _ _ => False⟩
theorem sc_310_4 : wz_S gc_310_4 qc_310_4 := by sorry
noncomputable def gb_310_5 : wz_W := Classical.choice ⟨fun _ _ _ => False⟩
theorem sb_310_5 : wz_S gb_310_5 qb_310_5 := by sorry
noncomputable def gb_310_6 : wz_W := Classical.choice ⟨fun _ _ _ => False⟩
theorem sb_310_6 : wz_S gb_310_6 qb_310_6 := by sorry
noncomputable def gb_310_7 : wz_W := Classical.choice ⟨fun _ _ _ => False⟩
theorem sb_310_7 : wz_S gb_310_7 qb_310_7 := by sorry
noncomputable def gc_310_8 : wz_W := Classical.choice ⟨fun _ _ _ => False⟩
theorem sc_310_8 : wz_S gc_310_8 qc_310_8 := by sorry
noncomputable def gc_310_9 : wz_W := Classical.choice ⟨fun _ _ _ => False⟩
theorem sc_310_9 : wz_S gc_310_9 qc_310_9 := by sorry
noncomputable def gc_310_10 : wz_W := Classical.choice ⟨fun _ _ _ => False⟩
theorem sc_310_10 : wz_S gc_310_10 qc_310_10 := by sorry
noncomputable def gw_310 : wz_W := Classical.choice ⟨fun _ _ _ => False⟩
noncomputable def gw_314 : wz_W := Classical.choice ⟨fun _ _ _ => False⟩
noncomputable def gw_385 : wz_W := Classical.choice ⟨fun _ _ _ => False⟩
noncomputable def gw_315 : wz_W := Classical.choice ⟨fun _ _ _ => False⟩
noncomputable def gw_316 : wz_W := Classical.choice ⟨fun _ _ _ => False⟩
noncomputable def gb_329_1 : wz_W := Classical.choice ⟨fun _ _ _ => False⟩
theorem sb_329_1 : wz_S gb_329_1 qb_329_1 := by sorry
noncomputable def gc_329_2 : wz_W := Classical.choice ⟨fun _ _ _ => False⟩
theorem sc_329_2 : wz_S gc_329_2 qc_329_2 := by sorry
noncomputable def gw_329 : wz_W := Classical.choice ⟨fun _ _ _ => False⟩
noncomputable def gw_317 : wz_W := Classical.choice ⟨fun _ _ _ => False⟩
noncomputable def gb_319_1 : wz_W := Classical.choice ⟨fun _ _ _ => False⟩
theorem sb_319_1 : wz_S gb_319_1 qb_319_1 := by sorry
noncomputable def gc_319_2 : wz_W := Classical.choice ⟨fun _ _ _ => False⟩
theorem sc_319_2 : wz_S gc_319_2 qc_319_2 := by sorry
noncomputable def gw_319 : wz_W := Classical.choice ⟨fun _ _ _ => False⟩
noncomputable def gb_321_1 : wz_W := Classical.choice ⟨fun _ _ _ => False⟩
theorem sb_321_1 : wz_S gb_321_1 qb_321_1 := by sorry
noncomputable def gc_321_2 : wz_W := Classical.choice ⟨fun _ _ _ => False⟩
theorem sc_321_2 : wz_S gc_321_2 qc_321_2 := by sorry
noncomputable def gw_321 : wz_W := Classical.choice ⟨fun _ _ _ => False⟩
noncomputable def gb_322_1 : wz_W := Classical.choice ⟨fun _ _ _ => False⟩
theorem sb_322_1 : wz_S gb_322_1 qb_322_1 := by sorry
noncomputable def gc_322_2 : wz_W := Classical.choice ⟨fun _ _ _ => False⟩
theorem sc_322_2 : wz_S gc_322_2 qc_322_2 := by sorry
noncomputable def gw_322 : wz_W := Classical.choice ⟨fun _ _ _ => False⟩
noncomputable def gw_323 : wz_W := Classical.choice ⟨fun _ _ _ => False⟩
noncomputable def gb_324_1 : wz_W := Classical.choice ⟨fun _ _ _ => False⟩
theorem sb_324_1 : wz_S gb_324_1 qb_324_1 := by sorry
noncomputable def gc_324_2 : wz_W := Classical.choice ⟨fun _ _ _ => False⟩
theorem sc_324_2 : wz_S gc_324_2 qc_324_2 := by sorry
noncomputable def gw_324 : wz_W := Classical.choice ⟨fun _ _ _ => False⟩
noncomputable def gw_325 : wz_W := Classical.choice ⟨fun _ _ _ => False⟩
noncomputable def gw_326 : wz_W := Classical.choice ⟨fun _ _ _ => False⟩
noncomputable def gb_327_1 : wz_W := Classical.choice ⟨fun _ _ _ => False⟩
theorem sb_327_1 : wz_S gb_327_1 qb_327_1 := by sorry
noncomputable def gc_327_2 : wz_W := Classical.choice ⟨fun _ _ _ => False⟩
theorem sc_327_2 : wz_S gc_327_2 qc_327_2 := by sorry
noncomputable def gw_327 : wz_W := Classical.choice ⟨fun _ _ _ => False⟩
noncomputable def gw_330 : wz_W := Classical.choice ⟨fun _ _ _ => False⟩
noncomputable def gb_328_1 : wz_W := Classical.choice ⟨fun _ _ _ => False⟩
theorem sb_328_1 : wz_S gb_328_1 qb_328_1 := by sorry
noncomputable def gb_328_2 : wz_W := Classical.choice ⟨fun _ _ _ => False⟩
theorem sb_328_2 : wz_S gb_328_2 qb_328_2 := by sorry
noncomputable def gb_328_3 : wz_W := Classical.choice ⟨fun _ _ _ => False⟩
theorem sb_328_3 : wz_S gb_328_3 qb_328_3 := by sorry
noncomputable def gc_328_4 : wz_W := Classical.choice ⟨fun _ _ _ => False⟩
theorem sc_328_4 : wz_S gc_328_4 qc_328_4 := by sorry
noncomputable def gc_328_5 : wz_W := Classical.choice ⟨fun _ _ _ => False⟩
theorem sc_328_5 : wz_S gc_328_5 qc_328_5 := by sorry
noncomputable def gc_328_6 : wz_W := Classical.choice ⟨fun _ _ _ => False⟩
theorem sc_328_6 : wz_S gc_328_6 qc_328_6 := by sorry
noncomputable def gw_328 : wz_W := Classical.choice ⟨fun _ _ _ => False⟩
noncomputable def gb_331_1 : wz_W := Classical.choice ⟨fun _ _ _ => False⟩
theorem sb_331_1 : wz_S gb_331_1 qb_331_1 := by sorry
noncomputable def gb_331_2 : wz_W := Classical.choice ⟨fun _ _ _ => False⟩
theorem sb_331_2 : wz_S gb_331_2 qb_331_2 := by sorry
noncomputable def gc_331_3 : wz_W := Classical.choice ⟨fun _ _ _ => False⟩
theorem sc_331_3 : wz_S gc_331_3 qc_331_3 := by sorry
noncomputable def gc_331_4 : wz_W := Classical.choice ⟨fun _ _ _ => False⟩
theorem sc_331_4 : wz_S gc_331_4 qc_331_4 := by sorry
noncomputable def gw_331 : wz_W := Classical.choice ⟨fun _ _ _ => False⟩
noncomputable def gb_332_1 : wz_W := Classical.choice ⟨fun _ _ _ => False⟩
theorem sb_332_1 : wz_S gb_332_1 qb_332_1 := by sorry
noncomputable def gc_332_2 : wz_W := Classical.choice ⟨fun _ _ _ => False⟩
theorem sc_332_2 : wz_S gc_332_2 qc_332_2 := by sorry
noncomputable def gw_332 : wz_W := Classical.choice ⟨fun _ _ _ => False⟩
noncomputable def gb_333_1 : wz_W := Classical.choice ⟨fun _ _ _ => False⟩
theorem sb_333_1 : wz_S gb_333_1 qb_333_1 := by sorry
noncomputable def gc_333_2 : wz_W := Classical.choice ⟨fun _ _ _ => False⟩
theorem sc_333_2 : wz_S gc_333_2 qc_333_2 := by sorry
noncomputable def gw_333 : wz_W := Classical.choice ⟨fun _ _ _ => False⟩
noncomputable def gw_381 : wz_W := Classical.choice ⟨fun _ _ _ => False⟩
noncomputable def gw_391 : wz_W := Classical.choice ⟨fun _ _ _ => False⟩
noncomputable def gw_335 : wz_W := Classical.choice ⟨fun _ _ _ => False⟩
noncomputable def gw_386 : wz_W := Classical.choice ⟨fun _ _ _ => False⟩
noncomputable def gw_382 : wz_W := Classical.choice ⟨fun _ _ _ => False⟩
noncomputable def gb_518_1 : wz_W := Classical.choice ⟨fun _ _ _ => False⟩
theorem sb_518_1 : wz_S gb_518_1 qb_518_1 := by sorry
noncomputable def gc_518_2 : wz_W := Classical.choice ⟨fun _ _ _ => False⟩
theorem sc_518_2 : wz_S gc_518_2 qc_518_2 := by sorry
noncomputable def gw_518 : wz_W := Classical.choice ⟨fun _ _ _ => False⟩
noncomputable def gw_378 : wz_W := Classical.choice ⟨fun _ _ _ => False⟩
noncomputable def gb_508_1 : wz_W := Classical.choice ⟨fun _ _ _ => False⟩
theorem sb_508_1 : wz_S gb_508_1 qb_508_1 := by sorry
noncomputable def gc_508_2 : wz_W := Classical.choice ⟨fun _ _ _ => False⟩
theorem sc_508_2 : wz_S gc_508_2 qc_508_2 := by sorry
noncomputable def gw_508 : wz_W := Classical.choice ⟨fun _ _ _ => False⟩
noncomputable def gw_336 : wz_W := Classical.choice ⟨fun _ _ _ => False⟩
noncomputable def gw_478 : wz_W := Classical.choice ⟨fun _ _ _ => False⟩
noncomputable def gw_395 : wz_W := Classical.choice ⟨fun _ _ _ => False⟩
noncomputable def gb_435_1 : wz_W := Classical.choice ⟨fun _ _ _ => False⟩
theorem sb_435_1 : wz_S gb_435_1 qb_435_1 := by sorry
noncomputable def gc_435_2 : wz_W := Classical.choice ⟨fun _ _ _ => False⟩
theorem sc_435_2 : wz_S gc_435_2 qc_435_2 := by sorry
noncomputable def gw_435 : wz_W := Classical.choice ⟨fun _ _ _ => False⟩
noncomputable def gw_429 : wz_W := Classical.choice ⟨fun _ _ _ => False⟩
noncomputable def gw_409 : wz_W := Classical.choice ⟨fun _ _ _ => False⟩
noncomputable def gw_432 : wz_W := Classical.choice ⟨fun _ _ _ => False⟩
noncomputable def gb_431_1 : wz_W := Classical.choice ⟨fun _ _ _ => False⟩
theorem sb_431_1 : wz_S gb_431_1 qb_431_1 := by sorry
noncomputable def gc_431_2 : wz_W := Classical.choice ⟨fun _ _ _ => False⟩
theorem sc_431_2 : wz_S gc_431_2 qc_431_2 := by sorry
noncomputable def gw_431 : wz_W := Classical.choice ⟨fun _ _ _ => False⟩
noncomputable def gw_338 : wz_W := Classical.choice ⟨fun _ _ _ => False⟩
noncomputable def gw_339 : wz_W := Classical.choice ⟨fun _ _ _ => False⟩
noncomputable def gw_526 : wz_W := Classical.choice ⟨fun _ _ _ => False⟩
noncomputable def gb_517_1 : wz_W := Classical.choice ⟨fun _ _ _ => False⟩
theorem sb_517_1 : wz_S gb_517_1 qb_517_1 := by sorry
noncomputable def gc_517_2 : wz_W := Classical.choice ⟨fun _ _ _ => False⟩
theorem sc_517_2 : wz_S gc_517_2 qc_517_2 := by sorry
noncomputable def gw_517 : wz_W := Classical.choice ⟨fun _ _ _ => False⟩
noncomputable def gw_531 : wz_W := Classical.choice ⟨fun _ _ _ => False⟩
noncomputable def gb_510_1 : wz_W := Classical.choice ⟨fun _ _ _ => False⟩
theorem sb_510_1 : wz_S gb_510_1 qb_510_1 := by sorry
noncomputable def gc_510_2 : wz_W := Classical.choice ⟨fun _ _ _ => False⟩
theorem sc_510_2 : wz_S gc_510_2 qc_510_2 := by sorry
noncomputable def gb_510_3 : wz_W := Classical.choice ⟨fun _ _ _ => False⟩
theorem sb_510_3 : wz_S gb_510_3 qb_510_3 := by sorry
noncomputable def gc_510_4 : wz_W := Classical.choice ⟨fun _ _ _ => False⟩
theorem sc_510_4 : wz_S gc_510_4 qc_510_4 := by sorry
noncomputable def gw_510 : wz_W := Classical.choice ⟨fun _ _ _ => False⟩
noncomputable def gw_341 : wz_W := Classical.choice ⟨fun _ _ _ => False⟩
noncomputable def gw_342 : wz_W := Classical.choice ⟨fun _ _ _ => False⟩
noncomputable def gw_389 : wz_W := Classical.choice ⟨fun _ _ _ => False⟩
noncomputable def gw_344 : wz_W := Classical.choice ⟨fun _ _ _ => False⟩
noncomputable def gw_498 : wz_W := Classical.choice ⟨fun _ _ _ => False⟩
noncomputable def gw_417 : wz_W := Classical.choice ⟨fun _ _ _ => False⟩
noncomputable def gw_345 : wz_W := Classical.choice ⟨fun _ _ _ => False⟩
noncomputable def gw_347 : wz_W := Classical.choice ⟨fun _ _ _ => False⟩
noncomputable def gw_348 : wz_W := Classical.choice ⟨fun _ _ _ => False⟩
noncomputable def gw_349 : wz_W := Classical.choice ⟨fun _ _ _ => False⟩
noncomputable def gw_394 : wz_W := Classical.choice ⟨fun _ _ _ => False⟩
noncomputable def gb_527_1 : wz_W := Classical.choice ⟨fun _ _ _ => False⟩
theorem sb_527_1 : wz_S gb_527_1 qb_527_1 := by sorry
noncomputable def gc_527_2 : wz_W := Classical.choice ⟨fun _ _ _ => False⟩
theorem sc_527_2 : wz_S gc_527_2 qc_527_2 := by sorry
noncomputable def gw_527 : wz_W := Classical.choice ⟨fun _ _ _ => False⟩
noncomputable def gw_542 : wz_W := Classical.choice ⟨fun _ _ _ => False⟩
noncomputable def gb_514_1 : wz_W := Classical.choice ⟨fun _ _ _ => False⟩
theorem sb_514_1 : wz_S gb_514_1 qb_514_1 := by sorry
noncomputable def gc_514_2 : wz_W := Classical.choice ⟨fun _ _ _ => False⟩
theorem sc_514_2 : wz_S gc_514_2 qc_514_2 := by sorry
noncomputable def gw_514 : wz_W := Classical.choice ⟨fun _ _ _ => False⟩
noncomputable def gb_522_1 : wz_W := Classical.choice ⟨fun _ _ _ => False⟩
theorem sb_522_1 : wz_S gb_522_1 qb_522_1 := by sorry
noncomputable def gb_522_2 : wz_W := Classical.choice ⟨fun _ _ _ => False⟩
theorem sb_522_2 : wz_S gb_522_2 qb_522_2 := by sorry
noncomputable def gb_522_3 : wz_W := Classical.choice ⟨fun _ _ _ => False⟩
theorem sb_522_3 : wz_S gb_522_3 qb_522_3 := by sorry
noncomputable def gc_522_4 : wz_W := Classical.choice ⟨fun _ _ _ => False⟩
theorem sc_522_4 : wz_S gc_522_4 qc_522_4 := by sorry
noncomputable def gc_522_5 : wz_W := Classical.choice ⟨fun _ _ _ => False⟩
theorem sc_522_5 : wz_S gc_522_5 qc_522_5 := by sorry
noncomputable def gc_522_6 : wz_W := Classical.choice ⟨fun _ _ _ => False⟩
theorem sc_522_6 : wz_S gc_522_6 qc_522_6 := by sorry
noncomputable def gw_522 : wz_W := Classical.choice ⟨fun _ _ _ => False⟩
noncomputable def gb_511_1 : wz_W := Classical.choice ⟨fun _ _ _ => False⟩
theorem sb_511_1 : wz_S gb_511_1 qb_511_1 := by sorry
noncomputable def gb_511_2 : wz_W := Classical.choice ⟨fun _ _ _ => False⟩
theorem sb_511_2 : wz_S gb_511_2 qb_511_2 := by sorry
noncomputable def gc_511_3 : wz_W := Classical.choice ⟨fun _ _ _ => False⟩
theorem sc_511_3 : wz_S gc_511_3 qc_511_3 := by sorry
noncomputable def gb_511_4 : wz_W := Classical.choice ⟨fun _ _ _ => False⟩
theorem sb_511_4 : wz_S gb_511_4 qb_511_4 := by sorry
noncomputable def gc_511_5 : wz_W := Classical.choice ⟨fun _ _ _ => False⟩
theorem sc_511_5 : wz_S gc_511_5 qc_511_5 := by sorry
noncomputable def gc_511_6 : wz_W := Classical.choice ⟨fun _ _ _ => False⟩
theorem sc_511_6 : wz_S gc_511_6 qc_511_6 := by sorry
noncomputable def gw_511 : wz_W := Classical.choice ⟨fun _ _ _ => False⟩
noncomputable def gw_520 : wz_W := Classical.choice ⟨fun _ _ _ => False⟩
noncomputable def gb_521_1 : wz_W := Classical.choice ⟨fun _ _ _ => False⟩
theorem sb_521_1 : wz_S gb_521_1 qb_521_1 := by sorry
noncomputable def gc_521_2 : wz_W := Classical.choice ⟨fun _ _ _ => False⟩
theorem sc_521_2 : wz_S gc_521_2 qc_521_2 := by sorry
noncomputable def gw_521 : wz_W := Classical.choice ⟨fun _ _ _ => False⟩
noncomputable def gw_350 : wz_W := Classical.choice ⟨fun _ _ _ => False⟩
noncomputable def gw_353 : wz_W := Classical.choice ⟨fun _ _ _ => False⟩
noncomputable def gb_374_1 : wz_W := Classical.choice ⟨fun _ _ _ => False⟩
theorem sb_374_1 : wz_S gb_374_1 qb_374_1 := by sorry
noncomputable def gc_374_2 : wz_W := Classical.choice ⟨fun _ _ _ => False⟩
theorem sc_374_2 : wz_S gc_374_2 qc_374_2 := by sorry
noncomputable def gw_374 : wz_W := Classical.choice ⟨fun _ _ _ => False⟩
noncomputable def gb_373_1 : wz_W := Classical.choice ⟨fun _ _ _ => False⟩
theorem sb_373_1 : wz_S gb_373_1 qb_373_1 := by sorry
noncomputable def gc_373_2 : wz_W := Classical.choice ⟨fun _ _ _ => False⟩
theorem sc_373_2 : wz_S gc_373_2 qc_373_2 := by sorry
noncomputable def gw_373 : wz_W := Classical.choice ⟨fun _ _ _ => False⟩
noncomputable def gw_355 : wz_W := Classical.choice ⟨fun _ _ _ => False⟩
noncomputable def gw_368 : wz_W := Classical.choice ⟨fun _ _ _ => False⟩
noncomputable def gw_364 : wz_W := Classical.choice ⟨fun _ _ _ => False⟩
noncomputable def gb_363_1 : wz_W := Classical.choice ⟨fun _ _ _ => False⟩
theorem sb_363_1 : wz_S gb_363_1 qb_363_1 := by sorry
noncomputable def gc_363_2 : wz_W := Classical.choice ⟨fun _ _ _ => False⟩
theorem sc_363_2 : wz_S gc_363_2 qc_363_2 := by sorry
noncomputable def gc_363_3 : wz_W := Classical.choice ⟨fun _ _ _ => False⟩
theorem sc_363_3 : wz_S gc_363_3 qc_363_3 := by sorry
noncomputable def gw_363 : wz_W := Classical.choice ⟨fun _ _ _ => False⟩
noncomputable def gw_405 : wz_W := Classical.choice ⟨fun _ _ _ => False⟩
noncomputable def gw_357 : wz_W := Classical.choice ⟨fun _ _ _ => False⟩
noncomputable def gb_365_1 : wz_W := Classical.choice ⟨fun _ _ _ => False⟩
theorem sb_365_1 : wz_S gb_365_1 qb_365_1 := by sorry
noncomputable def gc_365_2 : wz_W := Classical.choice ⟨fun _ _ _ => False⟩
theorem sc_365_2 : wz_S gc_365_2 qc_365_2 := by sorry
noncomputable def gw_365 : wz_W := Classical.choice ⟨fun _ _ _ => False⟩
noncomputable def gb_369_1 : wz_W := Classical.choice ⟨fun _ _ _ => False⟩
theorem sb_369_1 : wz_S gb_369_1 qb_369_1 := by sorry
noncomputable def gb_369_2 : wz_W := Classical.choice ⟨fun _ _ _ => False⟩
theorem sb_369_2 : wz_S gb_369_2 qb_369_2 := by sorry
noncomputable def gc_369_3 : wz_W := Classical.choice ⟨fun _ _ _ => False⟩
theorem sc_369_3 : wz_S gc_369_3 qc_369_3 := by sorry
noncomputable def gc_369_4 : wz_W := Classical.choice ⟨fun _ _ _ => False⟩
theorem sc_369_4 : wz_S gc_369_4 qc_369_4 := by sorry
noncomputable def gw_369 : wz_W := Classical.choice ⟨fun _ _ _ => False⟩
noncomputable def gb_356_1 : wz_W := Classical.choice ⟨fun _ _ _ => False⟩
theorem sb_356_1 : wz_S gb_356_1 qb_356_1 := by sorry
noncomputable def gb_356_2 : wz_W := Classical.choice ⟨fun _ _ _ => False⟩
theorem sb_356_2 : wz_S gb_356_2 qb_356_2 := by sorry
noncomputable def gc_356_3 : wz_W := Classical.choice ⟨fun _ _ _ => False⟩
theorem sc_356_3 : wz_S gc_356_3 qc_356_3 := by sorry
noncomputable def gc_356_4 : wz_W := Classical.choice ⟨fun _ _ _ => False⟩
theorem sc_356_4 : wz_S gc_356_4 qc_356_4 := by sorry
noncomputable def gw_356 : wz_W := Classical.choice ⟨fun _ _ _ => False⟩
noncomputable def gb_358_1 : wz_W := Classical.choice ⟨fun _ _ _ => False⟩
theorem sb_358_1 : wz_S gb_358_1 qb_358_1 := by sorry
noncomputable def gc_358_2 : wz_W := Classical.choice ⟨fun _ _ _ => False⟩
theorem sc_358_2 : wz_S gc_358_2 qc_358_2 := by sorry
noncomputable def gw_358 : wz_W := Classical.choice ⟨fun _ _ _ => False⟩
noncomputable def gb_359_1 : wz_W := Classical.choice ⟨fun _ _ _ => False⟩
theorem sb_359_1 : wz_S gb_359_1 qb_359_1 := by sorry
noncomputable def gc_359_2 : wz_W := Classical.choice ⟨fun _ _ _ => False⟩
theorem sc_359_2 : wz_S gc_359_2 qc_359_2 := by sorry
noncomputable def gw_359 : wz_W := Classical.choice ⟨fun _ _ _ => False⟩
noncomputable def gw_360 : wz_W := Classical.choice ⟨fun _ _ _ => False⟩
noncomputable def gb_361_1 : wz_W := Classical.choice ⟨fun _ _ _ => False⟩
theorem sb_361_1 : wz_S gb_361_1 qb_361_1 := by sorry
noncomputable def gc_361_2 : wz_W := Classical.choice ⟨fun _ _ _ => False⟩
theorem sc_361_2 : wz_S gc_361_2 qc_361_2 := by sorry
noncomputable def gw_361 : wz_W := Classical.choice ⟨fun _ _ _ => False⟩
noncomputable def gw_362 : wz_W := Classical.choice ⟨fun _ _ _ => False⟩
noncomputable def gb_367_1 : wz_W := Classical.choice ⟨fun _ _ _ => False⟩
theorem sb_367_1 : wz_S gb_367_1 qb_367_1 := by sorry
noncomputable def gc_367_2 : wz_W := Classical.choice ⟨fun _ _ _ => False⟩
theorem sc_367_2 : wz_S gc_367_2 qc_367_2 := by sorry
noncomputable def gw_367 : wz_W := Classical.choice ⟨fun _ _ _ => False⟩
noncomputable def gw_366 : wz_W := Classical.choice ⟨fun _ _ _ => False⟩
noncomputable def gb_370_1 : wz_W := Classical.choice ⟨fun _ _ _ => False⟩
theorem sb_370_1 : wz_S gb_370_1 qb_370_1 := by sorry
noncomputable def gc_370_2 : wz_W := Classical.choice ⟨fun _ _ _ => False⟩
theorem sc_370_2 : wz_S gc_370_2 qc_370_2 := by sorry
noncomputable def gb_370_3 : wz_W := Classical.choice ⟨fun _ _ _ => False⟩
theorem sb_370_3 : wz_S gb_370_3 qb_370_3 := by sorry
noncomputable def gc_370_4 : wz_W := Classical.choice ⟨fun _ _ _ => False⟩
theorem sc_370_4 : wz_S gc_370_4 qc_370_4 := by sorry
noncomputable def gw_370 : wz_W := Classical.choice ⟨fun _ _ _ => False⟩
noncomputable def gb_371_1 : wz_W := Classical.choice ⟨fun _ _ _ => False⟩
theorem sb_371_1 : wz_S gb_371_1 qb_371_1 := by sorry
noncomputable def gc_371_2 : wz_W := Classical.choice ⟨fun _ _ _ => False⟩
theorem sc_371_2 : wz_S gc_371_2 qc_371_2 := by sorry
noncomputable def gw_371 : wz_W := Classical.choice ⟨fun _ _ _ => False⟩
noncomputable def gb_372_1 : wz_W := Classical.choice ⟨fun _ _ _ => False⟩
theorem sb_372_1 : wz_S gb_372_1 qb_372_1 := by sorry
noncomputable def gb_372_2 : wz_W := Classical.choice ⟨fun _ _ _ => False⟩
theorem sb_372_2 : wz_S gb_372_2 qb_372_2 := by sorry
noncomputable def gb_372_3 : wz_W := Classical.choice ⟨fun _ _ _ => False⟩
theorem sb_372_3 : wz_S gb_372_3 qb_372_3 := by sorry
noncomputable def gc_372_4 : wz_W := Classical.choice ⟨fun _ _ _ => False⟩
theorem sc_372_4 : wz_S gc_372_4 qc_372_4 := by sorry
noncomputable def gc_372_5 : wz_W := Classical.choice ⟨fun _ _ _ => False⟩
theorem sc_372_5 : wz_S gc_372_5 qc_372_5 := by sorry
noncomputable def gc_372_6 : wz_W := Classical.choice ⟨fun _ _ _ => False⟩
theorem sc_372_6 : wz_S gc_372_6 qc_372_6 := by sorry
noncomputable def gw_372 : wz_W := Classical.choice ⟨fun _ _ _ => False⟩
noncomputable def gw_376 : wz_W := Classical.choice ⟨fun _ _ _ => False⟩
noncomputable def gw_377 : wz_W := Classical.choice ⟨fun _ _ _ => False⟩
noncomputable def gw_383 : wz_W := Classical.choice ⟨fun _ _ _ => False⟩
noncomputable def gw_474 : wz_W := Classical.choice ⟨fun _ _ _ => False⟩
noncomputable def gw_473 : wz_W := Classical.choice ⟨fun _ _ _ => False⟩
noncomputable def gb_487_1 : wz_W := Classical.choice ⟨fun _ _ _ => False⟩
theorem sb_487_1 : wz_S gb_487_1 qb_487_1 := by sorry
noncomputable def gb_487_2 : wz_W := Classical.choice ⟨fun _ _ _ => False⟩
theorem sb_487_2 : wz_S gb_487_2 qb_487_2 := by sorry
noncomputable def gb_487_3 : wz_W := Classical.choice ⟨fun _ _ _ => False⟩
theorem sb_487_3 : wz_S gb_487_3 qb_487_3 := by sorry
noncomputable def gc_487_4 : wz_W := Classical.choice ⟨fun _ _ _ => False⟩
theorem sc_487_4 : wz_S gc_487_4 qc_487_4 := by sorry
noncomputable def gc_487_5 : wz_W := Classical.choice ⟨fun _ _ _ => False⟩
theorem sc_487_5 : wz_S gc_487_5 qc_487_5 := by sorry
noncomputable def gc_487_6 : wz_W := Classical.choice ⟨fun _ _ _ => False⟩
theorem sc_487_6 : wz_S gc_487_6 qc_487_6 := by sorry
noncomputable def gw_487 : wz_W := Classical.choice ⟨fun _ _ _ => False⟩
noncomputable def gb_525_1 : wz_W := Classical.choice ⟨fun _ _ _ => False⟩
theorem sb_525_1 : wz_S gb_525_1 qb_525_1 := by sorry
noncomputable def gc_525_2 : wz_W := Classical.choice ⟨fun _ _ _ => False⟩
theorem sc_525_2 : wz_S gc_525_2 qc_525_2 := by sorry
noncomputable def gw_525 : wz_W := Classical.choice ⟨fun _ _ _ => False⟩
noncomputable def gb_519_1 : wz_W := Classical.choice ⟨fun _ _ _ => False⟩
theorem sb_519_1 : wz_S gb_519_1 qb_519_1 := by sorry
noncomputable def gc_519_2 : wz_W := Classical.choice ⟨fun _ _ _ => False⟩
theorem sc_519_2 : wz_S gc_519_2 qc_519_2 := by sorry
noncomputable def gb_519_3 : wz_W := Classical.choice ⟨fun _ _ _ => False⟩
theorem sb_519_3 : wz_S gb_519_3 qb_519_3 := by sorry
noncomputable def gb_519_4 : wz_W := Classical.choice ⟨fun _ _ _ => False⟩
theorem sb_519_4 : wz_S gb_519_4 qb_519_4 := by sorry
noncomputable def gc_519_5 : wz_W := Classical.choice ⟨fun _ _ _ => False⟩
theorem sc_519_5 : wz_S gc_519_5 qc_519_5 := by sorry
noncomputable def gc_519_6 : wz_W := Classical.choice ⟨fun _ _ _ => False⟩
theorem sc_519_6 : wz_S gc_519_6 qc_519_6 := by sorry
noncomputable def gw_519 : wz_W := Classical.choice ⟨fun _ _ _ => False⟩
noncomputable def gb_516_1 : wz_W := Classical.choice ⟨fun _ _ _ => False⟩
theorem sb_516_1 : wz_S gb_516_1 qb_516_1 := by sorry
noncomputable def gc_516_2 : wz_W := Classical.choice ⟨fun _ _ _ => False⟩
theorem sc_516_2 : wz_S gc_516_2 qc_516_2 := by sorry
noncomputable def gw_516 : wz_W := Classical.choice ⟨fun _ _ _ => False⟩
noncomputable def gb_528_1 : wz_W := Classical.choice ⟨fun _ _ _ => False⟩
theorem sb_528_1 : wz_S gb_528_1 qb_528_1 := by sorry
noncomputable def gc_528_2 : wz_W := Classical.choice ⟨fun _ _ _ => False⟩
theorem sc_528_2 : wz_S gc_528_2 qc_528_2 := by sorry
noncomputable def gw_528 : wz_W := Classical.choice ⟨fun _ _ _ => False⟩
noncomputable def gb_524_1 : wz_W := Classical.choice ⟨fun _ _ _ => False⟩
theorem sb_524_1 : wz_S gb_524_1 qb_524_1 := by sorry
noncomputable def gb_524_2 : wz_W := Classical.choice ⟨fun _ _ _ => False⟩
theorem sb_524_2 : wz_S gb_524_2 qb_524_2 := by sorry
noncomputable def gc_524_3 : wz_W := Classical.choice ⟨fun _ _ _ => False⟩
theorem sc_524_3 : wz_S gc_524_3 qc_524_3 := by sorry
noncomputable def gc_524_4 : wz_W := Classical.choice ⟨fun _ _ _ => False⟩
theorem sc_524_4 : wz_S gc_524_4 qc_524_4 := by sorry
noncomputable def gw_524 : wz_W := Classical.choice ⟨fun _ _ _ => False⟩
noncomputable def gw_397 : wz_W := Classical.choice ⟨fun _ _ _ => False⟩
noncomputable def gb_415_1 : wz_W := Classical.choice ⟨fun _ _ _ => False⟩
theorem sb_415_1 : wz_S gb_415_1 qb_415_1 := by sorry
noncomputable def gc_415_2 : wz_W := Classical.choice ⟨fun _ _ _ => False⟩
theorem sc_415_2 : wz_S gc_415_2 qc_415_2 := by sorry
noncomputable def gw_415 : wz_W := Classical.choice ⟨fun _ _ _ => False⟩
noncomputable def gb_420_1 : wz_W := Classical.choice ⟨fun _ _ _ => False⟩
theorem sb_420_1 : wz_S gb_420_1 qb_420_1 := by sorry
noncomputable def gb_420_2 : wz_W := Classical.choice ⟨fun _ _ _ => False⟩
theorem sb_420_2 : wz_S gb_420_2 qb_420_2 := by sorry
noncomputable def gb_420_3 : wz_W := Classical.choice ⟨fun _ _ _ => False⟩
theorem sb_420_3 : wz_S gb_420_3 qb_420_3 := by sorry
noncomputable def gc_420_4 : wz_W := Classical.choice ⟨fun _ _ _ => False⟩
theorem sc_420_4 : wz_S gc_420_4 qc_420_4 := by sorry
noncomputable def gc_420_5 : wz_W := Classical.choice ⟨fun _ _ _ => False⟩
theorem sc_420_5 : wz_S gc_420_5 qc_420_5 := by sorry
noncomputable def gc_420_6 : wz_W := Classical.choice ⟨fun _ _ _ => False⟩
theorem sc_420_6 : wz_S gc_420_6 qc_420_6 := by sorry
noncomputable def gw_420 : wz_W := Classical.choice ⟨fun _ _ _ => False⟩
noncomputable def gw_503 : wz_W := Classical.choice ⟨fun _ _ _ => False⟩
noncomputable def gb_485_1 : wz_W := Classical.choice ⟨fun _ _ _ => False⟩
theorem sb_485_1 : wz_S gb_485_1 qb_485_1 := by sorry
noncomputable def gc_485_2 : wz_W := Classical.choice ⟨fun _ _ _ => False⟩
theorem sc_485_2 : wz_S gc_485_2 qc_485_2 := by sorry
noncomputable def gw_485 : wz_W := Classical.choice ⟨fun _ _ _ => False⟩
noncomputable def gw_495 : wz_W := Classical.choice ⟨fun _ _ _ => False⟩
noncomputable def gw_500 : wz_W := Classical.choice ⟨fun _ _ _ => False⟩
noncomputable def gw_443 : wz_W := Classical.choice ⟨fun _ _ _ => False⟩
noncomputable def gw_477 : wz_W := Classical.choice ⟨fun _ _ _ => False⟩
noncomputable def gw_453 : wz_W := Classical.choice ⟨fun _ _ _ => False⟩
noncomputable def gw_412 : wz_W := Classical.choice ⟨fun _ _ _ => False⟩
noncomputable def gw_451 : wz_W := Classical.choice ⟨fun _ _ _ => False⟩
noncomputable def gw_548 : wz_W := Classical.choice ⟨fun _ _ _ => False⟩
noncomputable def gw_546 : wz_W := Classical.choice ⟨fun _ _ _ => False⟩
noncomputable def gw_543 : wz_W := Classical.choice ⟨fun _ _ _ => False⟩
noncomputable def gw_539 : wz_W := Classical.choice ⟨fun _ _ _ => False⟩
noncomputable def gw_437 : wz_W := Classical.choice ⟨fun _ _ _ => False⟩
noncomputable def gw_426 : wz_W := Classical.choice ⟨fun _ _ _ => False⟩
noncomputable def gw_499 : wz_W := Classical.choice ⟨fun _ _ _ => False⟩
noncomputable def gw_496 : wz_W := Classical.choice ⟨fun _ _ _ => False⟩
noncomputable def gw_534 : wz_W := Classical.choice ⟨fun _ _ _ => False⟩
noncomputable def gb_410_1 : wz_W := Classical.choice ⟨fun _ _ _ => False⟩
theorem sb_410_1 : wz_S gb_410_1 qb_410_1 := by sorry
noncomputable def gc_410_2 : wz_W := Classical.choice ⟨fun _ _ _ => False⟩
theorem sc_410_2 : wz_S gc_410_2 qc_410_2 := by sorry
noncomputable def gw_410 : wz_W := Classical.choice ⟨fun _ _ _ => False⟩
noncomputable def gw_457 : wz_W := Classical.choice ⟨fun _ _ _ => False⟩
noncomputable def gw_430 : wz_W := Classical.choice ⟨fun _ _ _ => False⟩
noncomputable def gb_515_1 : wz_W := Classical.choice ⟨fun _ _ _ => False⟩
theorem sb_515_1 : wz_S gb_515_1 qb_515_1 := by sorry
noncomputable def gc_515_2 : wz_W := Classical.choice ⟨fun _ _ _ => False⟩
theorem sc_515_2 : wz_S gc_515_2 qc_515_2 := by sorry
noncomputable def gw_515 : wz_W := Classical.choice ⟨fun _ _ _ => False⟩
noncomputable def gw_407 : wz_W := Classical.choice ⟨fun _ _ _ => False⟩
noncomputable def gb_506_1 : wz_W := Classical.choice ⟨fun _ _ _ => False⟩
theorem sb_506_1 : wz_S gb_506_1 qb_506_1 := by sorry
noncomputable def gc_506_2 : wz_W := Classical.choice ⟨fun _ _ _ => False⟩
theorem sc_506_2 : wz_S gc_506_2 qc_506_2 := by sorry
noncomputable def gw_506 : wz_W := Classical.choice ⟨fun _ _ _ => False⟩
noncomputable def gb_505_1 : wz_W := Classical.choice ⟨fun _ _ _ => False⟩
theorem sb_505_1 : wz_S gb_505_1 qb_505_1 := by sorry
noncomputable def gc_505_2 : wz_W := Classical.choice ⟨fun _ _ _ => False⟩
theorem sc_505_2 : wz_S gc_505_2 qc_505_2 := by sorry
noncomputable def gw_505 : wz_W := Classical.choice ⟨fun _ _ _ => False⟩
noncomputable def gb_513_1 : wz_W := Classical.choice ⟨fun _ _ _ => False⟩
theorem sb_513_1 : wz_S gb_513_1 qb_513_1 := by sorry
noncomputable def gc_513_2 : wz_W := Classical.choice ⟨fun _ _ _ => False⟩
theorem sc_513_2 : wz_S gc_513_2 qc_513_2 := by sorry
noncomputable def gw_513 : wz_W := Classical.choice ⟨fun _ _ _ => False⟩
noncomputable def gb_512_1 : wz_W := Classical.choice ⟨fun _ _ _ => False⟩
theorem sb_512_1 : wz_S gb_512_1 qb_512_1 := by sorry
noncomputable def gc_512_2 : wz_W := Classical.choice ⟨fun _ _ _ => False⟩
theorem sc_512_2 : wz_S gc_512_2 qc_512_2 := by sorry
noncomputable def gw_512 : wz_W := Classical.choice ⟨fun _ _ _ => False⟩
noncomputable def gb_492_1 : wz_W := Classical.choice ⟨fun _ _ _ => False⟩
theorem sb_492_1 : wz_S gb_492_1 qb_492_1 := by sorry
noncomputable def gc_492_2 : wz_W := Classical.choice ⟨fun _ _ _ => False⟩
theorem sc_492_2 : wz_S gc_492_2 qc_492_2 := by sorry
noncomputable def gw_492 : wz_W := Classical.choice ⟨fun _ _ _ => False⟩
noncomputable def gb_463_1 : wz_W := Classical.choice ⟨fun _ _ _ => False⟩
theorem sb_463_1 : wz_S gb_463_1 qb_463_1 := by sorry
noncomputable def gc_463_2 : wz_W := Classical.choice ⟨fun _ _ _ => False⟩
theorem sc_463_2 : wz_S gc_463_2 qc_463_2 := by sorry
noncomputable def gw_463 : wz_W := Classical.choice ⟨fun _ _ _ => False⟩
noncomputable def gb_408_1 : wz_W := Classical.choice ⟨fun _ _ _ => False⟩
theorem sb_408_1 : wz_S gb_408_1 qb_408_1 := by sorry
noncomputable def gc_408_2 : wz_W := Classical.choice ⟨fun _ _ _ => False⟩
theorem sc_408_2 : wz_S gc_408_2 qc_408_2 := by sorry
noncomputable def gw_408 : wz_W := Classical.choice ⟨fun _ _ _ => False⟩
noncomputable def gb_413_1 : wz_W := Classical.choice ⟨fun _ _ _ => False⟩
theorem sb_413_1 : wz_S gb_413_1 qb_413_1 := by sorry
noncomputable def gc_413_2 : wz_W := Classical.choice ⟨fun _ _ _ => False⟩
theorem sc_413_2 : wz_S gc_413_2 qc_413_2 := by sorry
noncomputable def gw_413 : wz_W := Classical.choice ⟨fun _ _ _ => False⟩
noncomputable def gw_422 : wz_W := Classical.choice ⟨fun _ _ _ => False⟩
noncomputable def gb_402_1 : wz_W := Classical.choice ⟨fun _ _ _ => False⟩
theorem sb_402_1 : wz_S gb_402_1 qb_402_1 := by sorry
noncomputable def gc_402_2 : wz_W := Classical.choice ⟨fun _ _ _ => False⟩
theorem sc_402_2 : wz_S gc_402_2 qc_402_2 := by sorry
noncomputable def gw_402 : wz_W := Classical.choice ⟨fun _ _ _ => False⟩
noncomputable def gw_553 : wz_W := Classical.choice ⟨fun _ _ _ => False⟩
noncomputable def gb_450_1 : wz_W := Classical.choice ⟨fun _ _ _ => False⟩
theorem sb_450_1 : wz_S gb_450_1 qb_450_1 := by sorry
noncomputable def gc_450_2 : wz_W := Classical.choice ⟨fun _ _ _ => False⟩
theorem sc_450_2 : wz_S gc_450_2 qc_450_2 := by sorry
noncomputable def gw_450 : wz_W := Classical.choice ⟨fun _ _ _ => False⟩
noncomputable def gb_486_1 : wz_W := Classical.choice ⟨fun _ _ _ => False⟩
theorem sb_486_1 : wz_S gb_486_1 qb_486_1 := by sorry
noncomputable def gb_486_2 : wz_W := Classical.choice ⟨fun _ _ _ => False⟩
theorem sb_486_2 : wz_S gb_486_2 qb_486_2 := by sorry
noncomputable def gb_486_3 : wz_W := Classical.choice ⟨fun _ _ _ => False⟩
theorem sb_486_3 : wz_S gb_486_3 qb_486_3 := by sorry
noncomputable def gc_486_4 : wz_W := Classical.choice ⟨fun _ _ _ => False⟩
theorem sc_486_4 : wz_S gc_486_4 qc_486_4 := by sorry
noncomputable def gc_486_5 : wz_W := Classical.choice ⟨fun _ _ _ => False⟩
theorem sc_486_5 : wz_S gc_486_5 qc_486_5 := by sorry
noncomputable def gc_486_6 : wz_W := Classical.choice ⟨fun _ _ _ => False⟩
theorem sc_486_6 : wz_S gc_486_6 qc_486_6 := by sorry
noncomputable def gw_486 : wz_W := Classical.choice ⟨fun _ _ _ => False⟩
noncomputable def gb_523_1 : wz_W := Classical.choice ⟨fun _ _ _ => False⟩
theorem sb_523_1 : wz_S gb_523_1 qb_523_1 := by sorry
noncomputable def gc_523_2 : wz_W := Classical.choice ⟨fun _ _ _ => False⟩
theorem sc_523_2 : wz_S gc_523_2 qc_523_2 := by sorry
noncomputable def gb_523_3 : wz_W := Classical.choice ⟨fun _ _ _ => False⟩
theorem sb_523_3 : wz_S gb_523_3 qb_523_3 := by sorry
noncomputable def gb_523_4 : wz_W := Classical.choice ⟨fun _ _ _ => False⟩
theorem sb_523_4 : wz_S gb_523_4 qb_523_4 := by sorry
noncomputable def gc_523_5 : wz_W := Classical.choice ⟨fun _ _ _ => False⟩
theorem sc_523_5 : wz_S gc_523_5 qc_523_5 := by sorry
noncomputable def gc_523_6 : wz_W := Classical.choice ⟨fun _ _ _ => False⟩
theorem sc_523_6 : wz_S gc_523_6 qc_523_6 := by sorry
noncomputable def gw_523 : wz_W := Classical.choice ⟨fun _ _ _ => False⟩
noncomputable def gw_566 : wz_W := Classical.choice ⟨fun _ _ _ => False⟩
noncomputable def gw_560 : wz_W := Classical.choice ⟨fun _ _ _ => False⟩
noncomputable def gw_558 : wz_W := Classical.choice ⟨fun _ _ _ => False⟩
noncomputable def gw_555 : wz_W := Classical.choice ⟨fun _ _ _ => False⟩
noncomputable def gb_559_1 : wz_W := Classical.choice ⟨fun _ _ _ => False⟩
theorem sb_559_1 : wz_S gb_559_1 qb_559_1 := by sorry
noncomputable def gc_559_2 : wz_W := Classical.choice ⟨fun _ _ _ => False⟩
theorem sc_559_2 : wz_S gc_559_2 qc_559_2 := by sorry
noncomputable def gw_559 : wz_W := Classical.choice ⟨fun _ _ _ => False⟩
noncomputable def gb_568_1 : wz_W := Classical.choice ⟨fun _ _ _ => False⟩
theorem sb_568_1 : wz_S gb_568_1 qb_568_1 := by sorry
noncomputable def gc_568_2 : wz_W := Classical.choice ⟨fun _ _ _ => False⟩
theorem sc_568_2 : wz_S gc_568_2 qc_568_2 := by sorry
noncomputable def gw_568 : wz_W := Classical.choice ⟨fun _ _ _ => False⟩
noncomputable def gw_551 : wz_W := Classical.choice ⟨fun _ _ _ => False⟩
noncomputable def gb_550_1 : wz_W := Classical.choice ⟨fun _ _ _ => False⟩
theorem sb_550_1 : wz_S gb_550_1 qb_550_1 := by sorry
noncomputable def gc_550_2 : wz_W := Classical.choice ⟨fun _ _ _ => False⟩
theorem sc_550_2 : wz_S gc_550_2 qc_550_2 := by sorry
noncomputable def gw_550 : wz_W := Classical.choice ⟨fun _ _ _ => False⟩
noncomputable def gw_549 : wz_W := Classical.choice ⟨fun _ _ _ => False⟩
noncomputable def gb_554_1 : wz_W := Classical.choice ⟨fun _ _ _ => False⟩
theorem sb_554_1 : wz_S gb_554_1 qb_554_1 := by sorry
noncomputable def gb_554_2 : wz_W := Classical.choice ⟨fun _ _ _ => False⟩
theorem sb_554_2 : wz_S gb_554_2 qb_554_2 := by sorry
noncomputable def gc_554_3 : wz_W := Classical.choice ⟨fun _ _ _ => False⟩
theorem sc_554_3 : wz_S gc_554_3 qc_554_3 := by sorry
noncomputable def gc_554_4 : wz_W := Classical.choice ⟨fun _ _ _ => False⟩
theorem sc_554_4 : wz_S gc_554_4 qc_554_4 := by sorry
noncomputable def gw_554 : wz_W := Classical.choice ⟨fun _ _ _ => False⟩
noncomputable def gb_567_1 : wz_W := Classical.choice ⟨fun _ _ _ => False⟩
theorem sb_567_1 : wz_S gb_567_1 qb_567_1 := by sorry
noncomputable def gb_567_2 : wz_W := Classical.choice ⟨fun _ _ _ => False⟩
theorem sb_567_2 : wz_S gb_567_2 qb_567_2 := by sorry
noncomputable def gc_567_3 : wz_W := Classical.choice ⟨fun _ _ _ => False⟩
theorem sc_567_3 : wz_S gc_567_3 qc_567_3 := by sorry
noncomputable def gc_567_4 : wz_W := Classical.choice ⟨fun _ _ _ => False⟩
theorem sc_567_4 : wz_S gc_567_4 qc_567_4 := by sorry
noncomputable def gw_567 : wz_W := Classical.choice ⟨fun _ _ _ => False⟩
noncomputable def gw_556 : wz_W := Classical.choice ⟨fun _ _ _ => False⟩
noncomputable def gb_392_1 : wz_W := Classical.choice ⟨fun _ _ _ => False⟩
theorem sb_392_1 : wz_S gb_392_1 qb_392_1 := by sorry
noncomputable def gc_392_2 : wz_W := Classical.choice ⟨fun _ _ _ => False⟩
theorem sc_392_2 : wz_S gc_392_2 qc_392_2 := by sorry
noncomputable def gw_392 : wz_W := Classical.choice ⟨fun _ _ _ => False⟩
noncomputable def gw_414 : wz_W := Classical.choice ⟨fun _ _ _ => False⟩
noncomputable def gb_424_1 : wz_W := Classical.choice ⟨fun _ _ _ => False⟩
theorem sb_424_1 : wz_S gb_424_1 qb_424_1 := by sorry
noncomputable def gc_424_2 : wz_W := Classical.choice ⟨fun _ _ _ => False⟩
theorem sc_424_2 : wz_S gc_424_2 qc_424_2 := by sorry
noncomputable def gw_424 : wz_W := Classical.choice ⟨fun _ _ _ => False⟩
noncomputable def gw_475 : wz_W := Classical.choice ⟨fun _ _ _ => False⟩
noncomputable def gw_425 : wz_W := Classical.choice ⟨fun _ _ _ => False⟩
noncomputable def gw_427 : wz_W := Classical.choice ⟨fun _ _ _ => False⟩
noncomputable def gw_428 : wz_W := Classical.choice ⟨fun _ _ _ => False⟩
noncomputable def gw_440 : wz_W := Classical.choice ⟨fun _ _ _ => False⟩
noncomputable def gw_442 : wz_W := Classical.choice ⟨fun _ _ _ => False⟩
noncomputable def gw_444 : wz_W := Classical.choice ⟨fun _ _ _ => False⟩
noncomputable def gw_445 : wz_W := Classical.choice ⟨fun _ _ _ => False⟩
noncomputable def gw_480 : wz_W := Classical.choice ⟨fun _ _ _ => False⟩
noncomputable def gw_448 : wz_W := Classical.choice ⟨fun _ _ _ => False⟩
noncomputable def gw_456 : wz_W := Classical.choice ⟨fun _ _ _ => False⟩
noncomputable def gw_455 : wz_W := Classical.choice ⟨fun _ _ _ => False⟩
noncomputable def gw_449 : wz_W := Classical.choice ⟨fun _ _ _ => False⟩
noncomputable def gb_452_1 : wz_W := Classical.choice ⟨fun _ _ _ => False⟩
theorem sb_452_1 : wz_S gb_452_1 qb_452_1 := by sorry
noncomputable def gc_452_2 : wz_W := Classical.choice ⟨fun _ _ _ => False⟩
theorem sc_452_2 : wz_S gc_452_2 qc_452_2 := by sorry
noncomputable def gb_452_3 : wz_W := Classical.choice ⟨fun _ _ _ => False⟩
theorem sb_452_3 : wz_S gb_452_3 qb_452_3 := by sorry
noncomputable def gc_452_4 : wz_W := Classical.choice ⟨fun _ _ _ => False⟩
theorem sc_452_4 : wz_S gc_452_4 qc_452_4 := by sorry
noncomputable def gw_452 : wz_W := Classical.choice ⟨fun _ _ _ => False⟩
noncomputable def gw_458 : wz_W := Classical.choice ⟨fun _ _ _ => False⟩
noncomputable def gw_483 : wz_W := Classical.choice ⟨fun _ _ _ => False⟩
noncomputable def gw_494 : wz_W := Classical.choice ⟨fun _ _ _ => False⟩
noncomputable def gw_497 : wz_W := Classical.choice ⟨fun _ _ _ => False⟩
noncomputable def gw_501 : wz_W := Classical.choice ⟨fun _ _ _ => False⟩
noncomputable def gw_502 : wz_W := Classical.choice ⟨fun _ _ _ => False⟩
noncomputable def gb_561_1 : wz_W := Classical.choice ⟨fun _ _ _ => False⟩
theorem sb_561_1 : wz_S gb_561_1 qb_561_1 := by sorry
noncomputable def gc_561_2 : wz_W := Classical.choice ⟨fun _ _ _ => False⟩
theorem sc_561_2 : wz_S gc_561_2 qc_561_2 := by sorry
noncomputable def gw_561 : wz_W := Classical.choice ⟨fun _ _ _ => False⟩
noncomputable def gb_562_1 : wz_W := Classical.choice ⟨fun _ _ _ => False⟩
theorem sb_562_1 : wz_S gb_562_1 qb_562_1 := by sorry
noncomputable def gc_562_2 : wz_W := Classical.choice ⟨fun _ _ _ => False⟩
theorem sc_562_2 : wz_S gc_562_2 qc_562_2 := by sorry
noncomputable def gw_562 : wz_W := Classical.choice ⟨fun _ _ _ => False⟩
noncomputable def gw_529 : wz_W := Classical.choice ⟨fun _ _ _ => False⟩
noncomputable def gw_504 : wz_W := Classical.choice ⟨fun _ _ _ => False⟩
noncomputable def gw_532 : wz_W := Classical.choice ⟨fun _ _ _ => False⟩
noncomputable def gw_533 : wz_W := Classical.choice ⟨fun _ _ _ => False⟩
noncomputable def gw_545 : wz_W := Classical.choice ⟨fun _ _ _ => False⟩
noncomputable def gb_552_1 : wz_W := Classical.choice ⟨fun _ _ _ => False⟩
theorem sb_552_1 : wz_S gb_552_1 qb_552_1 := by sorry
noncomputable def gc_552_2 : wz_W := Classical.choice ⟨fun _ _ _ => False⟩
theorem sc_552_2 : wz_S gc_552_2 qc_552_2 := by sorry
noncomputable def gc_552_3 : wz_W := Classical.choice ⟨fun _ _ _ => False⟩
theorem sc_552_3 : wz_S gc_552_3 qc_552_3 := by sorry
noncomputable def gw_552 : wz_W := Classical.choice ⟨fun _ _ _ => False⟩
noncomputable def gb_564_1 : wz_W := Classical.choice ⟨fun _ _ _ => False⟩
theorem sb_564_1 : wz_S gb_564_1 qb_564_1 := by sorry
noncomputable def gc_564_2 : wz_W := Classical.choice ⟨fun _ _ _ => False⟩
theorem sc_564_2 : wz_S gc_564_2 qc_564_2 := by sorry
noncomputable def gw_564 : wz_W := Classical.choice ⟨fun _ _ _ => False⟩
noncomputable def gw_535 : wz_W := Classical.choice ⟨fun _ _ _ => False⟩
noncomputable def gw_536 : wz_W := Classical.choice ⟨fun _ _ _ => False⟩
noncomputable def gw_538 : wz_W := Classical.choice ⟨fun _ _ _ => False⟩
noncomputable def gb_541_1 : wz_W := Classical.choice ⟨fun _ _ _ => False⟩
theorem sb_541_1 : wz_S gb_541_1 qb_541_1 := by sorry
noncomputable def gc_541_2 : wz_W := Classical.choice ⟨fun _ _ _ => False⟩
theorem sc_541_2 : wz_S gc_541_2 qc_541_2 := by sorry
noncomputable def gw_541 : wz_W := Classical.choice ⟨fun _ _ _ => False⟩
noncomputable def gw_547 : wz_W := Classical.choice ⟨fun _ _ _ => False⟩
noncomputable def gw_569 : wz_W := Classical.choice ⟨fun _ _ _ => False⟩
noncomputable def gw_570 : wz_W := Classical.choice ⟨fun _ _ _ => False⟩
noncomputable def gw_571 : wz_W := Classical.choice ⟨fun _ _ _ => False⟩
noncomputable def gw_572 : wz_W := Classical.choice ⟨fun _ _ _ => False⟩
noncomputable def gw_573 : wz_W := Classical.choice ⟨fun _ _ _ => False⟩
noncomputable def gw_574 : wz_W := Classical.choice ⟨fun _ _ _ => False⟩
noncomputable def gw_575 : wz_W := Classical.choice ⟨fun _ _ _ => False⟩
noncomputable def gw_576 : wz_W := Classical.choice ⟨fun _ _ _ => False⟩
noncomputable def gw_577 : wz_W := Classical.choice ⟨fun _ _ _ => False⟩
noncomputable def gw_578 : wz_W := Classical.choice ⟨fun _ _ _ => False⟩
noncomputable def gw_579 : wz_W := Classical.choice ⟨fun _ _ _ => False⟩
noncomputable def gw_580 : wz_W := Classical.choice ⟨fun _ _ _ => False⟩
noncomputable def gw_581 : wz_W := Classical.choice ⟨fun _ _ _ => False⟩
noncomputable def gw_582 : wz_W := Classical.choice ⟨fun _ _ _ => False⟩
noncomputable def gw_583 : wz_W := Classical.choice ⟨fun _ _ _ => False⟩
noncomputable def gw_584 : wz_W := Classical.choice ⟨fun _ _ _ => False⟩
noncomputable def gw_585 : wz_W := Classical.choice ⟨fun _ _ _ => False⟩
noncomputable def gw_586 : wz_W := Classical.choice ⟨fun _ _ _ => False⟩
noncomputable def gw_587 : wz_W := Classical.choice ⟨fun _ _ _ => False⟩
noncomputable def gw_588 : wz_W := Classical.choice ⟨fun _ _ _ => False⟩
noncomputable def gw_589 : wz_W := Classical.choice ⟨fun _ _ _ => False⟩
noncomputable def gw_590 : wz_W := Classical.choice ⟨fun _ _ _ => False⟩
noncomputable def gw_591 : wz_W := Classical.choice ⟨fun _ _ _ => False⟩
noncomputable def gw_592 : wz_W := Classical.choice ⟨fun _ _ _ => False⟩
noncomputable def gw_593 : wz_W := Classical.choice ⟨fun _ _ _ => False⟩
noncomputable def gw_594 : wz_W := Classical.choice ⟨fun _ _ _ => False⟩
noncomputable def gw_595 : wz_W := Classical.choice ⟨fun _ _ _ => False⟩
noncomputable def gw_596 : wz_W := Classical.choice ⟨fun _ _ _ => False⟩
noncomputable def gw_597 : wz_W := Classical.choice ⟨fun _ _ _ => False⟩
noncomputable def gw_598 : wz_W := Classical.choice ⟨fun _ _ _ => False⟩
noncomputable def gw_599 : wz_W := Classical.choice ⟨fun _ _ _ => False⟩
noncomputable def gw_600 : wz_W := Classical.choice ⟨fun _ _ _ => False⟩
noncomputable def gw_601 : wz_W := Classical.choice ⟨fun _ _ _ => False⟩
noncomputable def gw_602 : wz_W := Classical.choice ⟨fun _ _ _ => False⟩
noncomputable def gw_603 : wz_W := Classical.choice ⟨fun _ _ _ => False⟩
noncomputable def gw_604 : wz_W := Classical.choice ⟨fun _ _ _ => False⟩
noncomputable def gw_605 : wz_W := Classical.choice ⟨fun _ _ _ => False⟩
noncomputable def gw_606 : wz_W := Classical.choice ⟨fun _ _ _ => False⟩
noncomputable def gw_607 : wz_W := Classical.choice ⟨fun _ _ _ => False⟩
noncomputable def gw_608 : wz_W := Classical.choice ⟨fun _ _ _ => False⟩
noncomputable def gw_609 : wz_W := Classical.choice ⟨fun _ _ _ => False⟩
noncomputable def gw_610 : wz_W := Classical.choice ⟨fun _ _ _ => False⟩
noncomputable def gw_611 : wz_W := Classical.choice ⟨fun _ _ _ => False⟩
noncomputable def gw_612 : wz_W := Classical.choice ⟨fun _ _ _ => False⟩
noncomputable def gw_613 : wz_W := Classical.choice ⟨fun _ _ _ => False⟩
noncomputable def gw_614 : wz_W := Classical.choice ⟨fun _ _ _ => False⟩
noncomputable def gw_615 : wz_W := Classical.choice ⟨fun _ _ _ => False⟩
noncomputable def gw_616 : wz_W := Classical.choice ⟨fun _ _ _ => False⟩
noncomputable def gw_617 : wz_W := Classical.choice ⟨fun _ _ _ => False⟩
noncomputable def gw_618 : wz_W := Classical.choice ⟨fun _ _ _ => False⟩
noncomputable def gw_619 : wz_W := Classical.choice ⟨fun _ _ _ => False⟩
noncomputable def gw_620 : wz_W := Classical.choice ⟨fun _ _ _ => False⟩
noncomputable def gw_621 : wz_W := Classical.choice ⟨fun _ _ _ => False⟩
noncomputable def gw_622 : wz_W := Classical.choice ⟨fun _ _ _ => False⟩
noncomputable def gw_623 : wz_W := Classical.choice ⟨fun _ _ _ => False⟩
noncomputable def gw_624 : wz_W := Classical.choice ⟨fun _ _ _ => False⟩
noncomputable def gw_625 : wz_W := Classical.choice ⟨fun _ _ _ => False⟩
noncomputable def gw_626 : wz_W := Classical.choice ⟨fun _ _ _ => False⟩
noncomputable def gw_627 : wz_W := Classical.choice ⟨fun _ _ _ => False⟩
noncomputable def gw_628 : wz_W := Classical.choice ⟨fun _ _ _ => False⟩
noncomputable def gw_629 : wz_W := Classical.choice ⟨fun _ _ _ => False⟩
noncomputable def gw_630 : wz_W := Classical.choice ⟨fun _ _ _ => False⟩
noncomputable def gw_631 : wz_W := Classical.choice ⟨fun _ _ _ => False⟩
noncomputable def gb_632_1 : wz_W := Classical.choice ⟨fun _ _ _ => False⟩
theorem sb_632_1 : wz_S gb_632_1 qb_632_1 := by sorry
noncomputable def gc_632_2 : wz_W := Classical.choice ⟨fun _ _ _ => False⟩
theorem sc_632_2 : wz_S gc_632_2 qc_632_2 := by sorry
noncomputable def gw_law0 : wz_W := Classical.choice ⟨fun _ _ _ => False⟩
noncomputable def gw_law : wz_W := Classical.choice ⟨fun _ _ _ => False⟩
