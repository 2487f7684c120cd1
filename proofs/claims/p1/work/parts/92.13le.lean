/-! what a run leaves: numbers only grow, shapes stay, script arrays stay -/
def pz_le (σ σ' : pz_S) : Prop := σ.1 ≤ σ'.1 ∧ (pz_kc σ ≤ pz_kc σ' ∧ pz_ks σ ≤ pz_ks σ') ∧ (∀ f, f < σ.1 → pz_sh σ' f = pz_sh σ f) ∧ ∀ f, f < σ.1 → (pz_sh σ f).1 = 60 → pz_mm σ' f = pz_mm σ f
theorem pz_le_rf {σ : pz_S} : pz_le σ σ := ⟨Nat.le_refl _, ⟨Nat.le_refl _, Nat.le_refl _⟩, fun _ _ => rfl, fun _ _ _ => rfl⟩
theorem pz_le_tr {a b c : pz_S} (h : pz_le a b) (g : pz_le b c) : pz_le a c := by
  obtain ⟨h1, ⟨h2, h3⟩, h4, h5⟩ := h
  obtain ⟨g1, ⟨g2, g3⟩, g4, g5⟩ := g
  refine ⟨Nat.le_trans h1 g1, ⟨Nat.le_trans h2 g2, Nat.le_trans h3 g3⟩, fun f hf => (g4 f (Nat.lt_of_lt_of_le hf h1)).trans (h4 f hf), fun f hf ht => ?_⟩
  rw [g5 f (Nat.lt_of_lt_of_le hf h1) (by rw [h4 f hf]; exact ht), h5 f hf ht]
theorem pz_le_wM {σ : pz_S} {f i k : Nat} {v : Int32} (h : (pz_sh σ f).1 ≠ 60) : pz_le σ (pz_wM σ f i k v) := by
  refine ⟨Nat.le_refl _, ⟨Nat.le_refl _, Nat.le_refl _⟩, fun _ _ => rfl, fun g _ ht => ?_⟩
  show pz_u3 σ.2.2.2.1 f i k v g = σ.2.2.2.1 g
  have hne : g ≠ f := fun e => h (e ▸ ht)
  funext i' j'
  unfold pz_u3
  rw [if_neg (fun q => hne q.1)]
theorem pz_le_wC {σ : pz_S} {f i : Nat} {v : Nat → Int32} (h : (pz_sh σ f).1 ≠ 60) : pz_le σ (pz_wC σ f i v) := by
  refine ⟨Nat.le_refl _, ⟨Nat.le_refl _, Nat.le_refl _⟩, fun _ _ => rfl, fun g _ ht => ?_⟩
  show (fun i' => if g = f ∧ i' = i then v else σ.2.2.2.1 g i') = σ.2.2.2.1 g
  have hne : g ≠ f := fun e => h (e ▸ ht)
  funext i'
  rw [if_neg (fun q => hne q.1)]
theorem pz_le_wR {σ : pz_S} {f i k : Nat} {v : Option pz_R} : pz_le σ (pz_wR σ f i k v) := ⟨Nat.le_refl _, ⟨Nat.le_refl _, Nat.le_refl _⟩, fun _ _ => rfl, fun _ _ _ => rfl⟩
theorem pz_le_wL {σ : pz_S} {f i k : Nat} {v : Int64} : pz_le σ (pz_wL σ f i k v) := ⟨Nat.le_refl _, ⟨Nat.le_refl _, Nat.le_refl _⟩, fun _ _ => rfl, fun _ _ _ => rfl⟩
theorem pz_le_al {σ : pz_S} {tag cnt len cs sl : Nat} {r : Nat → Nat → Option pz_R} : pz_le σ (pz_al σ tag cnt len cs sl r) :=
  ⟨Nat.le_succ _, ⟨Nat.le_add_right _ _, Nat.le_add_right _ _⟩, fun f hf => pz_uf_ne (Nat.ne_of_lt hf), fun f hf _ => pz_uf_ne (Nat.ne_of_lt hf)⟩
theorem pz_is_t {σ : pz_S} {f i t : Nat} (h : pz_is σ f i t = true) (ht : t ≠ 60) : (pz_sh σ f).1 ≠ 60 := by
  rw [(pz_is_sp h).1]; exact ht
section PM
variable {σ σ' : pz_S} {L L' : pz_L} {st st' : List pz_V} {pc pc' : Nat}
theorem pz_br_le {off : Int} {c : Bool} {r : List pz_V} (h : pz_br pc L σ off c r = some (pc', L', st', σ')) : pz_le σ σ' := by
  unfold pz_br at h
  split at h
  · cases h
  · cases c
    · cases h; exact pz_le_rf
    · cases h; exact pz_le_rf
theorem pz_get_le {t k : Nat} (h : pz_get pc L st σ t k = some (pc', L', st', σ')) : pz_le σ σ' := by
  unfold pz_get at h
  repeat' split at h
  all_goals first | (cases h; exact pz_le_rf) | cases h
theorem pz_put_le {t k : Nat} {fin : Bool} (ht : t ≠ 60) (h : pz_put pc L st σ t k fin = some (pc', L', st', σ')) : pz_le σ σ' := by
  unfold pz_put at h
  split at h
  · split at h
    · rename_i hc
      cases h
      exact pz_le_wM (pz_is_t hc.1 ht)
    · cases h
  · split at h
    · cases h
      exact pz_le_wR
    · cases h
  · cases h
theorem pz_isto_le (h : pz_isto pc L st σ = some (pc', L', st', σ')) : pz_le σ σ' := by
  unfold pz_isto at h
  split at h
  · split at h
    · rename_i hc
      cases h
      exact pz_le_wM (pz_is_t hc.1 (by decide))
    · cases h
  · cases h
theorem pz_bsto_le (h : pz_bsto pc L st σ = some (pc', L', st', σ')) : pz_le σ σ' := by
  unfold pz_bsto at h
  split at h
  · split at h
    · rename_i hc
      cases h
      exact pz_le_wM (pz_is_t hc.1 (by decide))
    · cases h
  · cases h
theorem pz_lsto_le (h : pz_lsto pc L st σ = some (pc', L', st', σ')) : pz_le σ σ' := by
  unfold pz_lsto at h
  repeat' split at h
  all_goals first | (cases h; exact pz_le_wL) | cases h
theorem pz_asto_le (h : pz_asto pc L st σ = some (pc', L', st', σ')) : pz_le σ σ' := by
  unfold pz_asto at h
  repeat' split at h
  all_goals first | (cases h; exact pz_le_wR) | cases h
theorem pz_newa_le {len tag : Nat} (h : pz_newa pc L st σ len tag = some (pc', L', st', σ')) : pz_le σ σ' := by
  unfold pz_newa at h
  repeat' split at h
  all_goals first | (cases h; exact pz_le_al) | cases h
theorem pz_mnew_le (h : pz_mnew pc L st σ = some (pc', L', st', σ')) : pz_le σ σ' := by
  unfold pz_mnew at h
  repeat' split at h
  all_goals first | (cases h; exact pz_le_tr pz_le_al pz_le_al) | cases h
theorem pz_if_le {off : Int} {c : Int32 → Bool} (h : pz_if pc L st σ off c = some (pc', L', st', σ')) : pz_le σ σ' := by
  unfold pz_if at h
  split at h
  · exact pz_br_le h
  · cases h
theorem pz_ic_le {off : Int} {c : Int32 → Int32 → Bool} (h : pz_ic pc L st σ off c = some (pc', L', st', σ')) : pz_le σ σ' := by
  unfold pz_ic at h
  split at h
  · exact pz_br_le h
  · cases h
set_option maxHeartbeats 4000000 in
theorem pz_step_le {fin : Bool} {i : Instr} {a b : Nat} (ha : ∀ k, i = .putfield k → a ≠ 60) (hs : pz_step fin i a b pc L st σ = some (pc', L', st', σ')) : pz_le σ σ' := by
  unfold pz_step at hs
  split at hs
  all_goals try exact pz_if_le hs
  all_goals try exact pz_ic_le hs
  all_goals try exact pz_get_le hs
  all_goals try exact pz_put_le (ha _ rfl) hs
  all_goals try exact pz_isto_le hs
  all_goals try exact pz_bsto_le hs
  all_goals try exact pz_lsto_le hs
  all_goals try exact pz_asto_le hs
  all_goals try exact pz_newa_le hs
  all_goals try exact pz_mnew_le hs
  all_goals try (simp only [pz_push, pz_ldi, pz_ldl, pz_lda, pz_sti, pz_sta, pz_stl, pz_inc, pz_bin, pz_dv, pz_lbin, pz_ldv, pz_un, pz_sw, pz_ilo, pz_llo, pz_alo, pz_len, pz_new, pz_dup, pz_pop, pz_dupx1, pz_dupx2, pz_dup2] at hs)
  all_goals repeat' split at hs
  all_goals first | cases hs; done | (cases hs; first | exact pz_le_rf | exact pz_le_al)
end PM
