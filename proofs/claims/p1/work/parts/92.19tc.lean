/-! how the tables' facts are put together -/
def wl_ll : List (List Cond) := [wsL_law0_r1, wsL_law0_r2, wsL_law0_r3, wsL_law0_r4, wsL_law0_r5, wsL_law0_r6, wsL_law0_r7, wsL_law0_r8, wsL_law0_r9, wsL_law0_r10, wsL_law0_r11, wsL_law0_r12, wsL_law0_r13, wsL_law0_r14, wsL_law0_r15, wsL_law0_r16, wsL_law0_r17, wsL_law0_r18, wsL_law0_r19, wsL_law0_r20, wsL_law0_r21, wsL_law0_r22, wsL_law0_r23, wsL_law0_r24, wsL_law0_r25, wsL_law0_r26, wsL_law0_r27, wsL_law0_r28, wsL_law0_r29, wsL_law0_r30, wsL_law0_r31, wsL_law0_r32, wsL_law0_r33, wsL_law0_r34, wsL_law0_r35, wsL_law0_r36, wsL_law0_r37, wsL_law0_r38, wsL_law0_r39, wsL_law0_r40, wsL_law0_r41, wsL_law0_r42, wsL_law0_r43, wsL_law0_r44, wsL_law0_r45, wsL_law0_r46, wsL_law0_r47, wsL_law0_r48, wsL_law0_r49, wsL_law0_r50, wsL_law0_r51, wsL_law0_r52, wsL_law0_r53, wsL_law0_r54, wsL_law0_r55, wsL_law0_r56, wsL_law0_r57, wsL_law0_r58, wsL_law0_r59, wsL_law0_r60, wsL_law0_r61, wsL_law0_r62, wsL_law0_r63, wsL_law0_r64, wsL_law0_r65, wsL_law0_r66, wsL_law0_r67, wsL_law0_r68, wsL_law0_r69, wsL_law0_r70, wsL_law0_r71, wsL_law0_r72, wsL_law0_r73, wsL_law0_r74, wsL_law0_r75, wsL_law0_r76, wsL_law0_r77, wsL_law0_r78, wsL_law0_r79, wsL_law0_r80, wsL_law0_r81, wsL_law0_r82, wsL_law0_r83, wsL_law0_r84, wsL_law0_r85, wsL_law0_r86, wsL_law0_r87, wsL_law0_r88, wsL_law0_r89, wsL_law0_r90, wsL_law0_r91, wsL_law0_r92, wsL_law0_r93, wsL_law0_r94, wsL_law0_r95, wsL_law0_r96, wsL_law0_r97, wsL_law0_r98, wsL_law0_r99, wsL_law0_r100, wsL_law0_r101, wsL_law0_r102, wsL_law0_r103, wsL_law0_r104, wsL_law0_r105, wsL_law0_r106, wsL_law0_r107, wsL_law0_r108, wsL_law0_r109, wsL_law0_r110, wsL_law0_r111, wsL_law0_r112, wsL_law0_r113, wsL_law0_r114]
theorem wl_flat : ∀ (ll : List (List Cond)) (k : Nat) (l : List Cond), ll[k]? = some l → ∀ w ∈ l, w ∈ ll.flatten := fun ll k l h w hw => List.mem_flatten.mpr ⟨l, List.mem_of_getElem? h, hw⟩
theorem wl_at0 {k : Nat} {l : List Cond} (h : wl_ll[k]? = some l) : ∀ w ∈ l, w ∈ wsL_law := fun w hw => by
  have h1 : w ∈ wl_ll.flatten := wl_flat _ k l h w hw
  have h2 : wl_ll.flatten = wl_big := by
    unfold wl_ll wl_big
    simp only [List.flatten_cons, List.flatten_nil, List.append_nil]
  rw [h2] at h1
  exact List.mem_append_left _ (List.mem_append_left _ (List.mem_append_left _ (List.mem_append_left _ (List.mem_append_left _ (List.mem_append_left _ (List.mem_append_left _ (List.mem_append_left _ (List.mem_append_left _ (List.mem_append_left _ h1)))))))))
def pz_al1 {α : Type} (P : Nat → α → Prop) : Nat → List α → Prop
  | _, [] => True
  | n, x :: r => P n x ∧ pz_al1 P (n + 1) r
def pz_al2 {α : Type} (P : Nat → α → Prop) : Nat → List (List α) → Prop
  | _, [] => True
  | n, c :: r => pz_al1 P (16 * n) c ∧ pz_al2 P (n + 1) r
theorem pz_al1_get {α : Type} {P : Nat → α → Prop} : ∀ {l : List α} {n j : Nat} {e : α}, pz_al1 P n l → l[j]? = some e → P (n + j) e
  | [], n, j, e, _, h => by simp at h
  | x :: r, n, 0, e, hp, h => by
    simp at h
    subst h
    exact hp.1
  | x :: r, n, j + 1, e, hp, h => by
    have := pz_al1_get (j := j) hp.2 (by simpa using h)
    rw [show n + (j + 1) = n + 1 + j by omega]
    exact this
theorem pz_al2_get {α : Type} {P : Nat → α → Prop} : ∀ {l : List (List α)} {n k : Nat} {c : List α}, pz_al2 P n l → l[k]? = some c → pz_al1 P (16 * (n + k)) c
  | [], n, k, c, _, h => by simp at h
  | x :: r, n, 0, c, hp, h => by
    simp at h
    subst h
    exact hp.1
  | x :: r, n, k + 1, c, hp, h => by
    have := pz_al2_get (k := k) hp.2 (by simpa using h)
    rw [show n + (k + 1) = n + 1 + k by omega]
    exact this
def pz_Py (I : pz_Ib) (y : Nat) (e : pz_Ey) : Prop := ((y ≠ 632 → pz_Mok e.1) ∧ pz_hok e.1) ∧ ∀ c ∈ e.2, ∀ x ∈ c, pz_Row I e.1 x.1 x.2.1 x.2.2.1 x.2.2.2.1 x.2.2.2.2 ∧ (y ≠ 632 → (x.2.1 = .iaload ∨ x.2.1 = .arraylength) → x.2.2.2.1 ≠ 60)
theorem pz_Tok_of {tb : pz_All} (h : pz_al2 (pz_Py (pz_II tb)) 0 tb) : pz_Tok (pz_TT tb) (pz_II tb) := by
  have key : ∀ y e, pz_atE tb y = some e → pz_Py (pz_II tb) y e := fun y e he => by
    obtain ⟨c, h1, h2⟩ := pz_atE_mem he
    have := pz_al1_get (pz_al2_get h h1) h2
    rw [show 16 * (0 + y / 16) + y % 16 = y by omega] at this
    exact this
  refine ⟨fun y M hI => ?_, fun y M pc i n a b hI hT => ?_⟩
  · unfold pz_II at hI
    split at hI
    · rename_i e he
      cases hI
      exact (key y e he).1
    · cases hI
  · unfold pz_II at hI
    unfold pz_TT at hT
    split at hI
    · rename_i e he
      cases hI
      rw [he] at hT
      dsimp only at hT
      unfold pz_look at hT
      obtain ⟨c, hc, hx⟩ := pz_getD_mem (pz_fnd_mem hT)
      have h5 := (key y e he).2 c hc (pc, i, n, a, b) hx
      dsimp only at h5
      exact h5
    · cases hI
theorem pz_Py_of {I : pz_Ib} {y q y4 y9 : Nat} {ls : pz_Ls} {M : pz_M} {rs : List (List pz_Rw)} (hM : y ≠ 632 → pz_Mok M) (hh : pz_hok M) (hl : pz_Lok I (pz_mN M).cls ls) (hq : q = 11 → (pz_mN M).cls = RX11) (h4 : ∀ Ma, I y4 = some Ma → pz_mN Ma = yX4_init) (h9 : ∀ Ma, I y9 = some Ma → pz_mN Ma = yX9_init)
    (hck : pz_ckm q y4 y9 ls (pz_mB M) rs = true) (h60 : y ≠ 632 → pz_c60 rs = true) : pz_Py I y (M, rs) := by
  refine ⟨⟨hM, hh⟩, fun c hc x hx => ⟨?_, fun hy hi ha => ?_⟩⟩
  · unfold pz_ckm at hck
    have h1 := List.all_eq_true.mp (List.all_eq_true.mp hck c hc) x hx
    unfold pz_ckr at h1
    rw [Bool.and_eq_true] at h1
    unfold pz_dec at h1
    exact pz_cki_ok hl hq h4 h9 (of_decide_eq_true h1.1) h1.2
  · have h1 := List.all_eq_true.mp (List.all_eq_true.mp (show (rs.all fun c => c.all pz_n60) = true from h60 hy) c hc) x hx
    unfold pz_n60 at h1
    rcases hi with hi | hi <;> rw [hi] at h1 <;> exact pz_bne h1 ha
theorem pz_h0 {M : pz_M} (h : pz_mH M = []) : pz_hok M := fun x hx => by rw [h] at hx; cases hx
theorem pz_hL {M : pz_M} (h : (pz_mH M).all (fun h => decide (h.2.2.2 = 24 ∨ h.2.2.2 = 13 ∨ h.2.2.2 = 15)) = true) (hc : (pz_mN M).cls = RL) (hr : RL ≠ RX11) (e : ∀ E, pz_isE E → Cond.classLink RL E (pz_exn E) ∈ wsL_law) : pz_hok M := fun x hx => by
  have h1 := of_decide_eq_true (List.all_eq_true.mp h x hx)
  rw [hc]
  exact ⟨hr, h1, e _ h1⟩
theorem pz_Mok_s {M : pz_M} (h1 : plainName (pz_mN M).cls = true ∧ ((pz_mN M).cls ≠ "java/lang/invoke/MethodHandle" ∧ (pz_mN M).cls ≠ "java/lang/invoke/VarHandle")) (h2 : (parseMethodDescriptor (pz_mN M).desc).map (fun d => d.parameters.length) = some (pz_mP M)) (h3 : Cond.initialized (pz_mN M).cls ∈ wsL_law) (hH : pz_mH M = []) (hc : Cond.code (pz_mN M) (pz_mB M) (pz_mL M) (pz_mR M) ∈ wsL_law) (hK : pz_mK M = 0) (hs : Cond.static (pz_mN M) ∈ wsL_law) : pz_Mok M :=
  ⟨h1, h2, h3, fun _ => hc, fun h => absurd hH h, fun _ => hs, fun h => (by rw [hK] at h; cases h), fun h => (by rw [hK] at h; cases h)⟩
theorem pz_Mok_h {M : pz_M} (h1 : plainName (pz_mN M).cls = true ∧ ((pz_mN M).cls ≠ "java/lang/invoke/MethodHandle" ∧ (pz_mN M).cls ≠ "java/lang/invoke/VarHandle")) (h2 : (parseMethodDescriptor (pz_mN M).desc).map (fun d => d.parameters.length) = some (pz_mP M)) (h3 : Cond.initialized (pz_mN M).cls ∈ wsL_law) (hH : pz_mH M ≠ []) (hc : Cond.codeWith (pz_mN M) (pz_mB M) (pz_mL M) (pz_mR M) (pz_mH M) ∈ wsL_law) (hK : pz_mK M = 0) (hs : Cond.static (pz_mN M) ∈ wsL_law) : pz_Mok M :=
  ⟨h1, h2, h3, fun h => absurd h hH, fun _ => hc, fun _ => hs, fun h => (by rw [hK] at h; cases h), fun h => (by rw [hK] at h; cases h)⟩
theorem pz_Mok_v {M : pz_M} (h1 : plainName (pz_mN M).cls = true ∧ ((pz_mN M).cls ≠ "java/lang/invoke/MethodHandle" ∧ (pz_mN M).cls ≠ "java/lang/invoke/VarHandle")) (h2 : (parseMethodDescriptor (pz_mN M).desc).map (fun d => d.parameters.length) = some (pz_mP M)) (h3 : Cond.initialized (pz_mN M).cls ∈ wsL_law) (hH : pz_mH M = []) (hc : Cond.code (pz_mN M) (pz_mB M) (pz_mL M) (pz_mR M) ∈ wsL_law) (hK : pz_mK M = 1) (hC : (pz_mN M).cls = pz_C (pz_mT M)) (hi : Cond.instanceMethod (pz_mN M) ∈ wsL_law) (hs : Cond.selects (pz_mN M).cls (pz_mN M) (pz_mN M) ∈ wsL_law) : pz_Mok M :=
  ⟨h1, h2, h3, fun _ => hc, fun h => absurd hH h, fun h => (by rw [hK] at h; cases h), fun _ => ⟨hH, hC, hi, hs⟩, fun h => (by rw [hK] at h; cases h)⟩
theorem pz_Mok_c {M : pz_M} (h1 : plainName (pz_mN M).cls = true ∧ ((pz_mN M).cls ≠ "java/lang/invoke/MethodHandle" ∧ (pz_mN M).cls ≠ "java/lang/invoke/VarHandle")) (h2 : (parseMethodDescriptor (pz_mN M).desc).map (fun d => d.parameters.length) = some (pz_mP M)) (h3 : Cond.initialized (pz_mN M).cls ∈ wsL_law) (hH : pz_mH M = []) (hc : Cond.code (pz_mN M) (pz_mB M) (pz_mL M) (pz_mR M) ∈ wsL_law) (hK : pz_mK M = 2) (hC : (pz_mN M).cls = pz_C (pz_mT M)) (hn : (pz_mN M).name = "<init>") (hR : pz_mR M = none) (hi : Cond.instanceMethod (pz_mN M) ∈ wsL_law) : pz_Mok M :=
  ⟨h1, h2, h3, fun _ => hc, fun h => absurd hH h, fun h => (by rw [hK] at h; cases h), fun h => (by rw [hK] at h; cases h), fun _ => ⟨hH, hC, hn, hR, hi⟩⟩
theorem pz_lmk_of {I : pz_Ib} {own : String} {idx a b : Nat} {M : pz_M} (hI : I a = some M) (ha : a < 10000) (hm : Cond.methodLink own idx (pz_mN M) ∈ wsL_law) : pz_lmk I own (idx, a, b) :=
  ⟨fun Ma _ h => by cases hI.symm.trans h; exact hm, fun h => (by have : a = 10000 := h; omega), fun h => (by have : a = 10001 := h; omega), fun h => (by have : a = 10002 := h; omega), fun h => (by have : a = 10003 := h; omega), fun h => (by have : a = 10004 := h; omega)⟩
theorem pz_lmk_b {I : pz_Ib} {own : String} {idx a b : Nat} (ha : 10000 ≤ a) (h : pz_lbk own idx a) : pz_lmk I own (idx, a, b) := ⟨fun Ma h => absurd h (Nat.not_lt.mpr ha), h⟩
theorem pz_lb0 {own : String} {idx : Nat} (h : Cond.methodLink own idx Lib.Math.min.name ∈ wsL_law) : pz_lbk own idx 10000 := ⟨fun _ => h, fun h => (by cases h), fun h => (by cases h), fun h => (by cases h), fun h => (by cases h)⟩
theorem pz_lb1 {own : String} {idx : Nat} (h : Cond.methodLink own idx Lib.Math.max.name ∈ wsL_law) : pz_lbk own idx 10001 := ⟨fun h => (by cases h), fun _ => h, fun h => (by cases h), fun h => (by cases h), fun h => (by cases h)⟩
theorem pz_lb2 {own : String} {idx : Nat} (h : Cond.methodLink own idx Lib.MathLoose.max_long.x ∈ wsL_law) : pz_lbk own idx 10002 := ⟨fun h => (by cases h), fun h => (by cases h), fun _ => h, fun h => (by cases h), fun h => (by cases h)⟩
theorem pz_lb3 {own : String} {idx : Nat} (h : Cond.methodLink own idx arraycopyName ∈ wsL_law) : pz_lbk own idx 10003 := ⟨fun h => (by cases h), fun h => (by cases h), fun h => (by cases h), fun _ => h, fun h => (by cases h)⟩
theorem pz_lb4 {own : String} {idx : Nat} (h : Cond.methodLink own idx Lib.objectInit ∈ wsL_law) : pz_lbk own idx 10004 := ⟨fun h => (by cases h), fun h => (by cases h), fun h => (by cases h), fun h => (by cases h), fun _ => h⟩
theorem pz_lc0 {own : String} {idx t b : Nat} (ht : t < 6) (h : Cond.classLink own idx (pz_C t) ∈ wsL_law) (h2 : Cond.instantiable (pz_C t) (pz_n t) ∈ wsL_law) (h3 : Cond.initialized (pz_C t) ∈ wsL_law) : pz_lck own (idx, t, b) := ⟨fun _ => ⟨h, h2, h3⟩, fun h => (by have : t = 50 := h; omega), fun h => (by have : t = 51 := h; omega)⟩
theorem pz_lc50 {own : String} {idx b : Nat} (h : Cond.classLink own idx RX6 ∈ wsL_law) : pz_lck own (idx, 50, b) := ⟨fun h => absurd (show (50 : Nat) < 6 from h) (by decide), fun _ => h, fun h => (by cases h)⟩
theorem pz_lc51 {own : String} {idx b : Nat} (h : Cond.classLink own idx "[[I" ∈ wsL_law) : pz_lck own (idx, 51, b) := ⟨fun h => absurd (show (51 : Nat) < 6 from h) (by decide), fun h => (by cases h), fun _ => h⟩
theorem pz_lv0 {own : String} {idx a : Nat} (h : Cond.constant own idx (Int32.ofNat a) ∈ wsL_law) : pz_lvk own (idx, a, 0) := ⟨fun _ => h, fun h => (by cases h)⟩
theorem pz_lv1 {own : String} {idx a : Nat} (h : Cond.constantLong own idx (pz_lcs.getD a 0) ∈ wsL_law) : pz_lvk own (idx, a, 1) := ⟨fun h => (by cases h), fun _ => h⟩
