/-! the words that all methods share -/
theorem pz_gl0 : Bundle.fit (pz_exn 24) = true ∧ Cond.classLink RX11 (pz_tix 24).1 (pz_exn 24) ∈ wsL_law ∧ Cond.initialized (pz_exn 24) ∈ wsL_law ∧ (∀ w ∈ (vx_atS RX11 (pz_tix 24).2.2 (pz_exn 24) pz_sup).filter goodWord, w ∈ wsL_law) ∧
    (∀ w ∈ (vx_atS RX11 (pz_tix 24).2.2 (pz_exn 24) pz_sup).filter (fun w => !goodWord w), w ∈ [Cond.castable (pz_exn 24) (pz_exn 24)]) ∧
    ∀ w ∈ Cond.classLink RX11 (pz_tix 24).1 (pz_exn 24) :: Cond.initialized (pz_exn 24) :: vx_atS RX11 (pz_tix 24).2.2 (pz_exn 24) pz_sup, vx_ot w = true :=
  ⟨by decide +kernel, (wl_m_7 _ (List.mem_of_getElem? (i := 15) rfl)), (wl_m_7 _ (List.mem_of_getElem? (i := 16) rfl)), fun w hw => List.mem_append_left _ (List.mem_append_left _ (List.mem_append_right _ hw)), by decide +kernel, by decide +kernel⟩
theorem pz_gl1 : Bundle.fit (pz_exn 13) = true ∧ Cond.classLink RX11 (pz_tix 13).1 (pz_exn 13) ∈ wsL_law ∧ Cond.initialized (pz_exn 13) ∈ wsL_law ∧ (∀ w ∈ (vx_atS RX11 (pz_tix 13).2.2 (pz_exn 13) pz_sup).filter goodWord, w ∈ wsL_law) ∧
    (∀ w ∈ (vx_atS RX11 (pz_tix 13).2.2 (pz_exn 13) pz_sup).filter (fun w => !goodWord w), w ∈ [Cond.castable (pz_exn 13) (pz_exn 13)]) ∧
    ∀ w ∈ Cond.classLink RX11 (pz_tix 13).1 (pz_exn 13) :: Cond.initialized (pz_exn 13) :: vx_atS RX11 (pz_tix 13).2.2 (pz_exn 13) pz_sup, vx_ot w = true :=
  ⟨by decide +kernel, (wl_m_7 _ (List.mem_of_getElem? (i := 17) rfl)), (wl_m_7 _ (List.mem_of_getElem? (i := 18) rfl)), fun w hw => List.mem_append_left _ (List.mem_append_right _ hw), by decide +kernel, by decide +kernel⟩
theorem pz_gl2 : Bundle.fit (pz_exn 15) = true ∧ Cond.classLink RX11 (pz_tix 15).1 (pz_exn 15) ∈ wsL_law ∧ Cond.initialized (pz_exn 15) ∈ wsL_law ∧ (∀ w ∈ (vx_atS RX11 (pz_tix 15).2.2 (pz_exn 15) pz_sup).filter goodWord, w ∈ wsL_law) ∧
    (∀ w ∈ (vx_atS RX11 (pz_tix 15).2.2 (pz_exn 15) pz_sup).filter (fun w => !goodWord w), w ∈ [Cond.castable (pz_exn 15) (pz_exn 15)]) ∧
    ∀ w ∈ Cond.classLink RX11 (pz_tix 15).1 (pz_exn 15) :: Cond.initialized (pz_exn 15) :: vx_atS RX11 (pz_tix 15).2.2 (pz_exn 15) pz_sup, vx_ot w = true :=
  ⟨by decide +kernel, (wl_m_7 _ (List.mem_of_getElem? (i := 19) rfl)), (wl_m_7 _ (List.mem_of_getElem? (i := 20) rfl)), fun w hw => List.mem_append_right _ hw, by decide +kernel, by decide +kernel⟩
theorem pz_gl : pz_Gl := ⟨⟨(wl_m_2 _ (List.mem_of_getElem? (i := 2) rfl)), (wl_m_1 _ (List.mem_of_getElem? (i := 6) rfl)), (wl_m_3 _ (List.mem_of_getElem? (i := 16) rfl))⟩, ⟨(wl_m_8 _ (List.mem_of_getElem? (i := 9) rfl)), (wl_m_10 _ (List.mem_of_getElem? (i := 10) rfl)), (wl_m_32 _ (List.mem_of_getElem? (i := 21) rfl)), (wl_m_8 _ (List.mem_of_getElem? (i := 10) rfl)), (wl_m_8 _ (List.mem_of_getElem? (i := 11) rfl)), (wl_m_10 _ (List.mem_of_getElem? (i := 11) rfl)), (wl_m_32 _ (List.mem_of_getElem? (i := 22) rfl))⟩, ⟨(wl_m_8 _ (List.mem_of_getElem? (i := 22) rfl)), (wl_m_8 _ (List.mem_of_getElem? (i := 23) rfl)), (wl_m_9 _ (List.mem_of_getElem? (i := 0) rfl))⟩, ⟨(wl_m_1 _ (List.mem_of_getElem? (i := 11) rfl)), (wl_m_1 _ (List.mem_of_getElem? (i := 12) rfl))⟩, fun E h => by
  rcases h with rfl | rfl | rfl
  · exact pz_gl0
  · exact pz_gl1
  · exact pz_gl2⟩
