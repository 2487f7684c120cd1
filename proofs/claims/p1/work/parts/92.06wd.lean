/-! the worlds of the pure machine: a cell is written, a family is new -/
theorem pz_is_sp {σ : pz_S} {f i t : Nat} (h : pz_is σ f i t = true) : (pz_sh σ f).1 = t ∧ i < (pz_sh σ f).2.1 := by
  unfold pz_is at h
  rw [Bool.and_eq_true] at h
  refine ⟨Nat.eq_of_beq_eq_true h.1, ?_⟩
  have h2 := h.2
  exact Nat.le_of_ble_eq_true h2
theorem pz_is_in {σ : pz_S} {f i t : Nat} (h : pz_is σ f i t = true) (ht : t < 6 ∨ pz_arr t = true) : pz_in σ f i := by
  obtain ⟨rfl, h2⟩ := pz_is_sp h
  exact ⟨h2, ht⟩
theorem pz_cls_at {t : Nat} (h : t < 6) : pz_cls[t]? = some (pz_C t, pz_T t, pz_n t) := by
  match t, h with
  | 0, _ => rfl
  | 1, _ => rfl
  | 2, _ => rfl
  | 3, _ => rfl
  | 4, _ => rfl
  | 5, _ => rfl
theorem pz_ws_in {t : Nat} (h : t < 6) : ∀ w ∈ u_ws (pz_C t) (pz_T t) (pz_n t), w ∈ wsL_law := by
  match t, h with
  | 0, _ => exact inlX4
  | 1, _ => exact inlX6
  | 2, _ => exact inlX8
  | 3, _ => exact inlX9
  | 4, _ => exact inlX11
  | 5, _ => exact inlX12
theorem pz_ty_ok {t : Nat} (h : t < 6) : ∀ k, k < pz_n t → parseFieldDescriptor (pz_T t k).2.2.1 = some (pz_ty t k) := by
  match t, h with
  | 0, _ => exact tyX4_ok
  | 1, _ => exact tyX6_ok
  | 2, _ => exact tyX8_ok
  | 3, _ => exact tyX9_ok
  | 4, _ => exact tyX11_ok
  | 5, _ => exact tyX12_ok
theorem pz_nm_ok {t : Nat} (h : t < 6) : ∀ a, a < pz_n t → ∀ b, b < pz_n t → a ≠ b → (pz_T t a).2.1 ≠ (pz_T t b).2.1 := by
  match t, h with
  | 0, _ => exact nmX4
  | 1, _ => exact nmX6
  | 2, _ => exact nmX8
  | 3, _ => exact nmX9
  | 4, _ => exact nmX11
  | 5, _ => exact nmX12
theorem pz_fs_get {ad : pz_R → Nat} {σ : pz_S} {t f i k : Nat} (h : k < pz_n t) : (pz_fs ad σ t f i)[k]? = some (pz_fv ad σ t f i k) := by
  unfold pz_fs
  rw [List.getElem?_map, List.getElem?_range h]
  rfl
theorem pz_fs_len {ad : pz_R → Nat} {σ : pz_S} {t f i : Nat} : (pz_fs ad σ t f i).length = pz_n t := by
  unfold pz_fs
  rw [List.length_map, List.length_range]
theorem pz_fs_set {ad : pz_R → Nat} {σ σ' : pz_S} {t f i k : Nat} {w : Value} (hw : pz_fv ad σ' t f i k = w) (ho : ∀ j, j ≠ k → pz_fv ad σ' t f i j = pz_fv ad σ t f i j) : (pz_fs ad σ t f i).set k w = pz_fs ad σ' t f i := by
  apply List.ext_getElem?
  intro j
  rw [List.getElem?_set]
  by_cases hj : k = j
  · subst hj
    rw [if_pos rfl]
    by_cases hl : k < pz_n t
    · rw [pz_fs_len, if_pos hl, pz_fs_get hl, hw]
    · rw [pz_fs_len, if_neg hl, List.getElem?_eq_none (by rw [pz_fs_len]; omega)]
  · rw [if_neg hj]
    by_cases hl : j < pz_n t
    · rw [pz_fs_get hl, pz_fs_get hl, ho j (fun q => hj q.symm)]
    · rw [List.getElem?_eq_none (by rw [pz_fs_len]; omega), List.getElem?_eq_none (by rw [pz_fs_len]; omega)]
theorem pz_arr_no {t : Nat} (h : t < 6) : pz_arr t = false := by
  match t, h with
  | 0, _ => rfl
  | 1, _ => rfl
  | 2, _ => rfl
  | 3, _ => rfl
  | 4, _ => rfl
  | 5, _ => rfl
theorem pz_wd_set {ad : pz_R → Nat} {σ σ' : pz_S} {ws : va_W} {tys : List (ClassId × FieldType)} {f i k0 : Nat} {e0 e' : va_E} (hW : pz_wd ad σ ws tys) (hsh : σ'.2.1 = σ.2.1) (hnf : σ'.1 = σ.1) (hin : pz_in σ f i) (hk : ws[k0]? = some (ad (f, i), e0))
    (hO : (pz_sh σ f).1 < 6 → e' = .inr ((pz_sh σ f).1, pz_fs ad σ' (pz_sh σ f).1 f i))
    (hA : pz_arr (pz_sh σ f).1 = true → ∃ (t0 : Nat) (cA : ClassId), e' = .inl (cA, (pz_sh σ f).2.2, pz_ac ad σ' (pz_sh σ f).1 f i) ∧ tys[t0]? = some (cA, pz_aty (pz_sh σ f).1))
    (oth : ∀ g j, ¬ (g = f ∧ j = i) → (∀ t, pz_fs ad σ' t g j = pz_fs ad σ t g j) ∧ ∀ t, pz_ac ad σ' t g j = pz_ac ad σ t g j)
    (hrr : ∀ (a b c : Nat) (r : pz_R), pz_rr σ' a b c = some r → r.1 < σ.1) : pz_wd ad σ' (ws.set k0 (ad (f, i), e')) tys := by
  obtain ⟨h1, h2, h3, h4⟩ := hW
  have esh : pz_sh σ' = pz_sh σ := hsh
  have ein : ∀ g j, pz_in σ' g j ↔ pz_in σ g j := fun g j => by unfold pz_in; rw [esh]
  have hlt : k0 < ws.length := (List.getElem?_eq_some_iff.mp hk).1
  refine ⟨fun g j h => by rw [hnf]; rw [esh] at h; exact h1 g j h, fun g j hgj => ?_, fun g j g' j' a b => h3 g j g' j' ((ein g j).mp a) ((ein g' j').mp b), fun a b c r h => by rw [hnf]; exact hrr a b c r h⟩
  have hgj' := (ein g j).mp hgj
  rw [esh]
  by_cases hq : g = f ∧ j = i
  · obtain ⟨rfl, rfl⟩ := hq
    refine ⟨fun ht => ⟨k0, ?_⟩, fun ht => ?_⟩
    · rw [esh, List.getElem?_set_self hlt, hO ht]
    · obtain ⟨t0, cA, e1, e2⟩ := hA ht
      refine ⟨k0, t0, cA, ?_, by rw [esh]; exact e2⟩
      rw [esh, List.getElem?_set_self hlt, e1]
  · obtain ⟨o1, o2⟩ := oth g j hq
    have hne : ∀ (k : Nat) (x : va_E), ws[k]? = some (ad (g, j), x) → k0 ≠ k := fun k x hx he => by
      subst he
      rw [hk] at hx
      have e9 : ad (f, i) = ad (g, j) := congrArg (fun o : Option (Nat × va_E) => (o.map Prod.fst).getD 0) hx
      exact hq (let q := h3 f i g j hin hgj' e9; ⟨q.1.symm, q.2.symm⟩)
    obtain ⟨p1, p2⟩ := h2 g j hgj'
    refine ⟨fun ht => ?_, fun ht => ?_⟩
    · obtain ⟨k, hkk⟩ := p1 ht
      exact ⟨k, by rw [esh, List.getElem?_set_ne (hne k _ hkk), o1]; exact hkk⟩
    · obtain ⟨k, t0, cA, hkk, ht0⟩ := p2 ht
      exact ⟨k, t0, cA, by rw [esh, List.getElem?_set_ne (hne k _ hkk), o2]; exact hkk, by rw [esh]; exact ht0⟩
theorem pz_map_rf {ad ad' : pz_R → Nat} {n : Nat} (h : pz_ag n ad ad') {x : Option pz_R} (hx : ∀ r, x = some r → r.1 < n) : x.map ad' = x.map ad := by
  cases x with
  | none => rfl
  | some r => exact congrArg some (h r (hx r rfl))
theorem pz_uf_eq {α : Type} {g : Nat → α} {a : Nat} {v : α} : pz_uf g a v a = v := if_pos rfl
theorem pz_uf_ne {α : Type} {g : Nat → α} {a b : Nat} {v : α} (h : b ≠ a) : pz_uf g a v b = g b := if_neg h
/-- the old families are told alike behind a new one -/
theorem pz_al_old {ad ad' : pz_R → Nat} {σ : pz_S} {tag cnt len cs sl : Nat} {rr : Nat → Nat → Option pz_R} (hg : pz_ag σ.1 ad ad') (hr : ∀ (f i j : Nat) (r : pz_R), pz_rr σ f i j = some r → r.1 < σ.1) {f i : Nat} (hf : f ≠ σ.1) :
    (∀ t, pz_fs ad' (pz_al σ tag cnt len cs sl rr) t f i = pz_fs ad σ t f i) ∧ (∀ t, pz_ac ad' (pz_al σ tag cnt len cs sl rr) t f i = pz_ac ad σ t f i) ∧ pz_sh (pz_al σ tag cnt len cs sl rr) f = pz_sh σ f := by
  have e1 : pz_rr (pz_al σ tag cnt len cs sl rr) f = pz_rr σ f := pz_uf_ne hf
  have e2 : pz_mm (pz_al σ tag cnt len cs sl rr) f = pz_mm σ f := pz_uf_ne hf
  have e3 : pz_ml (pz_al σ tag cnt len cs sl rr) f = pz_ml σ f := pz_uf_ne hf
  refine ⟨fun t => ?_, fun t => ?_, pz_uf_ne hf⟩
  · unfold pz_fs
    refine List.map_congr_left fun k _ => ?_
    unfold pz_fv
    rw [e1, e2, pz_map_rf hg (hr f i k)]
  · unfold pz_ac
    rw [e1, e2, e3]
    split
    · rfl
    · rfl
    · rfl
    · refine congrArg (fun z => Sum.inr (Sum.inr (Sum.inr (Sum.inr z)))) (funext fun j => pz_map_rf hg (hr f i j))
def pz_adn (ad : pz_R → Nat) (n : Nat) (q : Nat → Nat) : pz_R → Nat := fun r => if r.1 = n then q r.2 else ad r
theorem pz_adn_ag {ad : pz_R → Nat} {n : Nat} {q : Nat → Nat} : pz_ag n ad (pz_adn ad n q) := fun r hr => if_neg (by omega)
theorem pz_wd_new {ad : pz_R → Nat} {σ : pz_S} {ws ws' : va_W} {tys tys' : List (ClassId × FieldType)} {tag cnt len cs sl : Nat} {q : Nat → Nat} {A : Nat → Prop} {rr : Nat → Nat → Option pz_R} (hW : pz_wd ad σ ws tys) (hD : va_D A ws')
    (hpre : ∀ (k : Nat) (x : Nat × va_E), ws[k]? = some x → ws'[k]? = some x) (htys : ∀ (t0 : Nat) (x : ClassId × FieldType), tys[t0]? = some x → tys'[t0]? = some x) (hq : ∀ i j, i < cnt → j < cnt → q i = q j → i = j)
    (hk : ∀ i, i < cnt → ∃ (k : Nat) (e : va_E), ws.length ≤ k ∧ ws'[k]? = some (q i, e) ∧ (tag < 6 → e = .inr (tag, pz_fs (pz_adn ad σ.1 q) (pz_al σ tag cnt len cs sl rr) tag σ.1 i)) ∧
      (pz_arr tag = true → ∃ (t0 : Nat) (cA : ClassId), e = .inl (cA, len, pz_ac (pz_adn ad σ.1 q) (pz_al σ tag cnt len cs sl rr) tag σ.1 i) ∧ tys'[t0]? = some (cA, pz_aty tag)))
    (hrr : ∀ (i j : Nat) (r : pz_R), rr i j = some r → r.1 < σ.1 + 1) : pz_wd (pz_adn ad σ.1 q) (pz_al σ tag cnt len cs sl rr) ws' tys' := by
  obtain ⟨h1, h2, h3, h4⟩ := hW
  have hg : pz_ag σ.1 ad (pz_adn ad σ.1 q) := pz_adn_ag
  have enew : pz_sh (pz_al σ tag cnt len cs sl rr) σ.1 = (tag, cnt, len) := pz_uf_eq
  have hadn : ∀ i, pz_adn ad σ.1 q (σ.1, i) = q i := fun i => if_pos rfl
  have hold := fun (f i : Nat) (hf : f ≠ σ.1) => pz_al_old (tag := tag) (cnt := cnt) (len := len) (cs := cs) (sl := sl) (rr := rr) hg h4 (i := i) hf
  have hin : ∀ f i, f ≠ σ.1 → (pz_in (pz_al σ tag cnt len cs sl rr) f i ↔ pz_in σ f i) := fun f i hf => by unfold pz_in; rw [(hold f 0 hf).2.2]
  have hidx : ∀ f i, pz_in σ f i → ∃ (k : Nat) (x : va_E), k < ws.length ∧ ws'[k]? = some (ad (f, i), x) := fun f i hi => by
    obtain ⟨p1, p2⟩ := h2 f i hi
    rcases hi.2 with ht | ht
    · obtain ⟨k, hk⟩ := p1 ht
      exact ⟨k, _, (List.getElem?_eq_some_iff.mp hk).1, hpre _ _ hk⟩
    · obtain ⟨k, t0, cA, hk, -⟩ := p2 ht
      exact ⟨k, _, (List.getElem?_eq_some_iff.mp hk).1, hpre _ _ hk⟩
  have hnq : ∀ f i i', i' < cnt → pz_in σ f i → ad (f, i) ≠ q i' := fun f i i' hi' hi he => by
    obtain ⟨k, x, hk1, hx⟩ := hidx f i hi
    obtain ⟨k2, e2, hk2, hx2, -⟩ := hk i' hi'
    have := hD.1 k k2 _ _ hx hx2 he
    omega
  have hade : ∀ f i, f ≠ σ.1 → pz_adn ad σ.1 q (f, i) = ad (f, i) := fun f i hf => if_neg hf
  refine ⟨fun f i h => ?_, fun f i h => ?_, fun f i g j hf hg2 he => ?_, fun f i j r h => ?_⟩
  · by_cases hf : f = σ.1
    · subst hf; exact Nat.lt_succ_self _
    · rw [(hold f 0 hf).2.2] at h
      exact Nat.lt_succ_of_lt (h1 f i h)
  · by_cases hf : f = σ.1
    · subst hf
      have hi0 : i < cnt := by have := h.1; rw [enew] at this; exact this
      obtain ⟨k, e, -, hke, e1, e2⟩ := hk i hi0
      rw [enew]
      refine ⟨fun ht => ⟨k, ?_⟩, fun ht => ?_⟩
      · rw [hke, hadn, enew]
        exact congrArg (fun z => some (q i, z)) (e1 ht)
      · obtain ⟨t0, cA, e3, e4⟩ := e2 ht
        refine ⟨k, t0, cA, ?_, by rw [enew]; exact e4⟩
        rw [hke, hadn, enew]
        exact congrArg (fun z => some (q i, z)) e3
    · obtain ⟨o1, o2, o3⟩ := hold f i hf
      obtain ⟨p1, p2⟩ := h2 f i ((hin f i hf).mp h)
      rw [o3]
      refine ⟨fun ht => ?_, fun ht => ?_⟩
      · obtain ⟨k, hk⟩ := p1 ht
        exact ⟨k, by rw [o3, o1, hade f i hf]; exact hpre _ _ hk⟩
      · obtain ⟨k, t0, cA, hk, ht0⟩ := p2 ht
        exact ⟨k, t0, cA, by rw [o3, o2, hade f i hf]; exact hpre _ _ hk, by rw [o3]; exact htys t0 _ ht0⟩
  · by_cases hf1 : f = σ.1 <;> by_cases hg1 : g = σ.1
    · subst hf1
      subst hg1
      have a1 := hf.1
      have a2 := hg2.1
      rw [enew] at a1 a2
      rw [hadn, hadn] at he
      exact ⟨rfl, hq i j a1 a2 he⟩
    · subst hf1
      have a1 := hf.1
      rw [enew] at a1
      rw [hadn, hade g j hg1] at he
      exact absurd he.symm (hnq g j i a1 ((hin g j hg1).mp hg2))
    · subst hg1
      have a2 := hg2.1
      rw [enew] at a2
      rw [hadn, hade f i hf1] at he
      exact absurd he (hnq f i j a2 ((hin f i hf1).mp hf))
    · rw [hade f i hf1, hade g j hg1] at he
      exact h3 f i g j ((hin f i hf1).mp hf) ((hin g j hg1).mp hg2) he
  · by_cases hf : f = σ.1
    · subst hf
      have e1 : pz_rr (pz_al σ tag cnt len cs sl rr) σ.1 = rr := pz_uf_eq
      rw [e1] at h
      exact hrr i j r h
    · have e1 : pz_rr (pz_al σ tag cnt len cs sl rr) f = pz_rr σ f := pz_uf_ne hf
      rw [e1] at h
      exact Nat.lt_succ_of_lt (h4 f i j r h)
