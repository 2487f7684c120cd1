/-! class and reference tell the same at a new object -/
/- sort -/
theorem cm_sort {a1 : Int} (ga1 : -2147483648 ≤ a1 ∧ a1 ≤ 2147483647) {a2 : Int} (ga2 : -2147483648 ≤ a2 ∧ a2 ≤ 2147483647) {a3 : Int} (ga3 : -2147483648 ≤ a3 ∧ a3 ≤ 2147483647) {a4 : Int} (ga4 : -2147483648 ≤ a4 ∧ a4 ≤ 2147483647) {a5 : Int} (ga5 : -2147483648 ≤ a5 ∧ a5 ≤ 2147483647) {v E w t : Int} (h1 : (v, E) = zg_243 a1 a2 a3 a4 a5) (h2 : (w, t) = zg_503 a1 a2 a3 a4 a5) : t = (if E = 13 then 1 else (if E = 15 then 2 else 0)) ∧ (E = 0 → v = w) ∧ (E = 0 ∨ E = 13 ∨ E = 15) := by
  unfold zg_243 at h1
  unfold zg_503 at h2
  grind (splits := 60) [frz, frs]

/- grower -/
theorem cm_grower {a1 : Int} (ga1 : -2147483648 ≤ a1 ∧ a1 ≤ 2147483647) {a2 : Int} (ga2 : -2147483648 ≤ a2 ∧ a2 ≤ 2147483647) {v E w t : Int} (h1 : (v, E) = zg_204 a1 a2) (h2 : (w, t) = zg_347 a1 a2) : t = (if E = 13 then 1 else (if E = 15 then 2 else 0)) ∧ (E = 0 → v = w) ∧ (E = 0 ∨ E = 13 ∨ E = 15) := by
  unfold zg_204 at h1
  unfold zg_347 at h2
  grind (splits := 60) [frz, frs]

/- deliver -/
theorem cm_deliver {a1 : Int} (ga1 : -2147483648 ≤ a1 ∧ a1 ≤ 2147483647) {a2 : Int} (ga2 : -2147483648 ≤ a2 ∧ a2 ≤ 2147483647) {a3 : Int} (ga3 : -2147483648 ≤ a3 ∧ a3 ≤ 2147483647) {a4 : Int} (ga4 : -2147483648 ≤ a4 ∧ a4 ≤ 2147483647) {a5 : Int} (ga5 : -2147483648 ≤ a5 ∧ a5 ≤ 2147483647) {v E w t : Int} (h1 : (v, E) = zg_195 a1 a2 a3 a4 a5) (h2 : (w, t) = zg_335 a1 a2 a3 a4 a5) : t = (if E = 24 then 1 else (if E = 13 then 2 else (if E = 15 then 3 else 0))) ∧ (E = 0 → v = w) ∧ (E = 0 ∨ E = 24 ∨ E = 13 ∨ E = 15) := by
  unfold zg_195 at h1
  unfold zg_335 at h2
  grind (splits := 60) [frz, frs]

/- grade -/
theorem cm_grade {a1 : Int} (ga1 : -2147483648 ≤ a1 ∧ a1 ≤ 2147483647) {a2 : Int} (ga2 : -2147483648 ≤ a2 ∧ a2 ≤ 2147483647) {a3 : Int} (ga3 : -2147483648 ≤ a3 ∧ a3 ≤ 2147483647) {a4 : Int} (ga4 : -2147483648 ≤ a4 ∧ a4 ≤ 2147483647) {v E w t : Int} (h1 : (v, E) = zg_203 a1 a2 a3 a4) (h2 : (w, t) = zg_345 a1 a2 a3 a4) : t = (if E = 24 then 1 else (if E = 13 then 2 else (if E = 15 then 3 else 0))) ∧ (E = 0 → v = w) ∧ (E = 0 ∨ E = 24 ∨ E = 13 ∨ E = 15) := by
  unfold zg_203 at h1
  unfold zg_345 at h2
  grind (splits := 60) [frz, frs]

/- grown -/
theorem cm_grown {a1 : Int} (ga1 : -2147483648 ≤ a1 ∧ a1 ≤ 2147483647) {a2 : Int} (ga2 : -2147483648 ≤ a2 ∧ a2 ≤ 2147483647) {v E w t : Int} (h1 : (v, E) = zg_205 a1 a2) (h2 : (w, t) = zg_348 a1 a2) : t = (if E = 24 then 1 else (if E = 13 then 2 else 0)) ∧ (E = 0 → v = w) ∧ (E = 0 ∨ E = 24 ∨ E = 13) := by
  unfold zg_205 at h1
  unfold zg_348 at h2
  grind (splits := 60) [frz, frs]

/- room -/
theorem cm_room {a1 : Int} (ga1 : -2147483648 ≤ a1 ∧ a1 ≤ 2147483647) {a2 : Int} (ga2 : -2147483648 ≤ a2 ∧ a2 ≤ 2147483647) {a3 : Int} (ga3 : -2147483648 ≤ a3 ∧ a3 ≤ 2147483647) {v E w t : Int} (h1 : (v, E) = zg_236 a1 a2 a3) (h2 : (w, t) = zg_495 a1 a2 a3) : t = (if E = 13 then 1 else (if E = 15 then 2 else 0)) ∧ (E = 0 → v = w) ∧ (E = 0 ∨ E = 13 ∨ E = 15) := by
  unfold zg_236 at h1
  unfold zg_495 at h2
  grind (splits := 60) [frz, frs]

/- set -/
theorem cm_set {a1 : Int} (ga1 : -2147483648 ≤ a1 ∧ a1 ≤ 2147483647) {a2 : Int} (ga2 : -2147483648 ≤ a2 ∧ a2 ≤ 2147483647) {v E w t : Int} (h1 : (v, E) = zg_240 a1 a2) (h2 : (w, t) = zg_500 a1 a2) : t = (if E = 24 then 1 else (if E = 13 then 2 else 0)) ∧ (E = 0 → v = w) ∧ (E = 0 ∨ E = 24 ∨ E = 13) := by
  unfold zg_240 at h1
  unfold zg_500 at h2
  grind (splits := 60) [frz, frs]

/- gas -/
theorem cm_gas {a1 : Int} (ga1 : -2147483648 ≤ a1 ∧ a1 ≤ 2147483647) {a2 : Int} (ga2 : -2147483648 ≤ a2 ∧ a2 ≤ 2147483647) {v E w t : Int} (h1 : (v, E) = zg_202 a1 a2) (h2 : (w, t) = zg_344 a1 a2) : t = (if E = 24 then 1 else 0) ∧ (E = 0 → v = w) ∧ (E = 0 ∨ E = 24) := by
  unfold zg_202 at h1
  unfold zg_344 at h2
  grind (splits := 60) [frz, frs]

/- outside -/
theorem cm_outside {a1 : Int} (ga1 : -2147483648 ≤ a1 ∧ a1 ≤ 2147483647) {a2 : Int} (ga2 : -2147483648 ≤ a2 ∧ a2 ≤ 2147483647) {v E w t : Int} (h1 : (v, E) = zg_222 a1 a2) (h2 : (w, t) = zg_443 a1 a2) : t = (if E = 13 then 1 else (if E = 15 then 2 else 0)) ∧ (E = 0 → v = w) ∧ (E = 0 ∨ E = 13 ∨ E = 15) := by
  unfold zg_222 at h1
  unfold zg_443 at h2
  grind (splits := 60) [frz, frs]

/- put -/
theorem cm_put {a1 : Int} (ga1 : -2147483648 ≤ a1 ∧ a1 ≤ 2147483647) {a2 : Int} (ga2 : -2147483648 ≤ a2 ∧ a2 ≤ 2147483647) {v E w t : Int} (h1 : (v, E) = zg_230 a1 a2) (h2 : (w, t) = zg_453 a1 a2) : t = (if E = 24 then 1 else (if E = 15 then 2 else 0)) ∧ (E = 0 → v = w) ∧ (E = 0 ∨ E = 24 ∨ E = 15) := by
  unfold zg_230 at h1
  unfold zg_453 at h2
  grind (splits := 60) [frz, frs]

/- dump -/
theorem cm_dump {a1 : Int} (ga1 : -2147483648 ≤ a1 ∧ a1 ≤ 2147483647) {v E w t : Int} (h1 : (v, E) = zg_198 a1) (h2 : (w, t) = zg_338 a1) : t = (if E = 24 then 1 else (if E = 15 then 2 else 0)) ∧ (E = 0 → v = w) ∧ (E = 0 ∨ E = 24 ∨ E = 15) := by
  unfold zg_198 at h1
  unfold zg_338 at h2
  grind (splits := 60) [frz, frs]

/- kept -/
theorem cm_kept {a1 : Int} (ga1 : -2147483648 ≤ a1 ∧ a1 ≤ 2147483647) {a2 : Int} (ga2 : -2147483648 ≤ a2 ∧ a2 ≤ 2147483647) {v E w t : Int} (h1 : (v, E) = zg_214 a1 a2) (h2 : (w, t) = zg_425 a1 a2) : t = (if E = 24 then 1 else (if E = 13 then 2 else 0)) ∧ (E = 0 → v = w) ∧ (E = 0 ∨ E = 24 ∨ E = 13) := by
  unfold zg_214 at h1
  unfold zg_425 at h2
  grind (splits := 60) [frz, frs]

/- pallet -/
theorem cm_pallet {a1 : Int} (ga1 : -2147483648 ≤ a1 ∧ a1 ≤ 2147483647) {a2 : Int} (ga2 : -2147483648 ≤ a2 ∧ a2 ≤ 2147483647) {v E w t : Int} (h1 : (v, E) = zg_225 a1 a2) (h2 : (w, t) = zg_448 a1 a2) : t = (if E = 24 then 1 else (if E = 13 then 2 else 0)) ∧ (E = 0 → v = w) ∧ (E = 0 ∨ E = 24 ∨ E = 13) := by
  unfold zg_225 at h1
  unfold zg_448 at h2
  grind (splits := 60) [frz, frs]

/- ripe -/
theorem cm_ripe {a1 : Int} (ga1 : -2147483648 ≤ a1 ∧ a1 ≤ 2147483647) {a2 : Int} (ga2 : -2147483648 ≤ a2 ∧ a2 ≤ 2147483647) {a3 : Int} (ga3 : -2147483648 ≤ a3 ∧ a3 ≤ 2147483647) {v E w t : Int} (h1 : (v, E) = zg_235 a1 a2 a3) (h2 : (w, t) = zg_494 a1 a2 a3) : t = (if E = 24 then 1 else (if E = 13 then 2 else 0)) ∧ (E = 0 → v = w) ∧ (E = 0 ∨ E = 24 ∨ E = 13) := by
  unfold zg_235 at h1
  unfold zg_494 at h2
  grind (splits := 60) [frz, frs]

/- buyer -/
theorem cm_buyer {a1 : Int} (ga1 : -2147483648 ≤ a1 ∧ a1 ≤ 2147483647) {a2 : Int} (ga2 : -2147483648 ≤ a2 ∧ a2 ≤ 2147483647) {a3 : Int} (ga3 : -2147483648 ≤ a3 ∧ a3 ≤ 2147483647) {v E w t : Int} (h1 : (v, E) = zg_191 a1 a2 a3) (h2 : (w, t) = zg_295 a1 a2 a3) : t = (if E = 24 then 1 else (if E = 13 then 2 else (if E = 15 then 3 else 0))) ∧ (E = 0 → v = w) ∧ (E = 0 ∨ E = 24 ∨ E = 13 ∨ E = 15) := by
  unfold zg_191 at h1
  unfold zg_295 at h2
  grind (splits := 60) [frz, frs]

/- order -/
theorem cm_order {a1 : Int} (ga1 : -2147483648 ≤ a1 ∧ a1 ≤ 2147483647) {a2 : Int} (ga2 : -2147483648 ≤ a2 ∧ a2 ≤ 2147483647) {a3 : Int} (ga3 : -2147483648 ≤ a3 ∧ a3 ≤ 2147483647) {a4 : Int} (ga4 : -2147483648 ≤ a4 ∧ a4 ≤ 2147483647) {a5 : Int} (ga5 : -2147483648 ≤ a5 ∧ a5 ≤ 2147483647) {a6 : Int} (ga6 : -2147483648 ≤ a6 ∧ a6 ≤ 2147483647) {v E w t : Int} (h1 : (v, E) = zg_220 a1 a2 a3 a4 a5 a6) (h2 : (w, t) = zg_441 a1 a2 a3 a4 a5 a6) : t = (if E = 24 then 1 else (if E = 13 then 2 else (if E = 15 then 3 else 0))) ∧ (E = 0 → v = w) ∧ (E = 0 ∨ E = 24 ∨ E = 13 ∨ E = 15) := by
  unfold zg_220 at h1
  unfold zg_441 at h2
  grind (splits := 60) [frz, frs]

/- cancel -/
theorem cm_cancel {a1 : Int} (ga1 : -2147483648 ≤ a1 ∧ a1 ≤ 2147483647) {v E w t : Int} (h1 : (v, E) = zg_192 a1) (h2 : (w, t) = zg_315 a1) : t = (if E = 24 then 1 else (if E = 15 then 2 else 0)) ∧ (E = 0 → v = w) ∧ (E = 0 ∨ E = 24 ∨ E = 15) := by
  unfold zg_192 at h1
  unfold zg_315 at h2
  grind (splits := 60) [frz, frs]

/- pay -/
theorem cm_pay {a1 : Int} (ga1 : -2147483648 ≤ a1 ∧ a1 ≤ 2147483647) {a2 : Int} (ga2 : -2147483648 ≤ a2 ∧ a2 ≤ 2147483647) {v E w t : Int} (h1 : (v, E) = zg_228 a1 a2) (h2 : (w, t) = zg_451 a1 a2) : t = (if E = 24 then 1 else (if E = 13 then 2 else (if E = 15 then 3 else 0))) ∧ (E = 0 → v = w) ∧ (E = 0 ∨ E = 24 ∨ E = 13 ∨ E = 15) := by
  unfold zg_228 at h1
  unfold zg_451 at h2
  grind (splits := 60) [frz, frs]

/- owes -/
theorem cm_owes {a1 : Int} (ga1 : -2147483648 ≤ a1 ∧ a1 ≤ 2147483647) {a2 : Int} (ga2 : -2147483648 ≤ a2 ∧ a2 ≤ 2147483647) {v E w t : Int} (h1 : (v, E) = zg_224 a1 a2) (h2 : (w, t) = zg_445 a1 a2) : t = (if E = 24 then 1 else (if E = 13 then 2 else 0)) ∧ (E = 0 → v = w) ∧ (E = 0 ∨ E = 24 ∨ E = 13) := by
  unfold zg_224 at h1
  unfold zg_445 at h2
  grind (splits := 60) [frz, frs]

/- ordered -/
theorem cm_ordered {a1 : Int} (ga1 : -2147483648 ≤ a1 ∧ a1 ≤ 2147483647) {a2 : Int} (ga2 : -2147483648 ≤ a2 ∧ a2 ≤ 2147483647) {v E w t : Int} (h1 : (v, E) = zg_221 a1 a2) (h2 : (w, t) = zg_442 a1 a2) : t = (if E = 24 then 1 else (if E = 13 then 2 else 0)) ∧ (E = 0 → v = w) ∧ (E = 0 ∨ E = 24 ∨ E = 13) := by
  unfold zg_221 at h1
  unfold zg_442 at h2
  grind (splits := 60) [frz, frs]

/- taker -/
theorem cm_taker {a1 : Int} (ga1 : -2147483648 ≤ a1 ∧ a1 ≤ 2147483647) {a2 : Int} (ga2 : -2147483648 ≤ a2 ∧ a2 ≤ 2147483647) {v E w t : Int} (h1 : (v, E) = zg_245 a1 a2) (h2 : (w, t) = zg_532 a1 a2) : t = (if E = 24 then 1 else (if E = 13 then 2 else 0)) ∧ (E = 0 → v = w) ∧ (E = 0 ∨ E = 24 ∨ E = 13) := by
  unfold zg_245 at h1
  unfold zg_532 at h2
  grind (splits := 60) [frz, frs]

/- clock -/
theorem cm_clock {a1 : Int} (ga1 : -2147483648 ≤ a1 ∧ a1 ≤ 2147483647) {a2 : Int} (ga2 : -2147483648 ≤ a2 ∧ a2 ≤ 2147483647) {a3 : Int} (ga3 : -2147483648 ≤ a3 ∧ a3 ≤ 2147483647) {a4 : Int} (ga4 : -2147483648 ≤ a4 ∧ a4 ≤ 2147483647) {a5 : Int} (ga5 : -2147483648 ≤ a5 ∧ a5 ≤ 2147483647) {v E w t : Int} (h1 : (v, E) = zg_193 a1 a2 a3 a4 a5) (h2 : (w, t) = zg_316 a1 a2 a3 a4 a5) : t = (if E = 13 then 1 else (if E = 15 then 2 else 0)) ∧ (E = 0 → v = w) ∧ (E = 0 ∨ E = 13 ∨ E = 15) := by
  unfold zg_193 at h1
  unfold zg_316 at h2
  grind (splits := 60) [frz, frs]

/- queue -/
theorem cm_queue {a1 : Int} (ga1 : -2147483648 ≤ a1 ∧ a1 ≤ 2147483647) {a2 : Int} (ga2 : -2147483648 ≤ a2 ∧ a2 ≤ 2147483647) {a3 : Int} (ga3 : -2147483648 ≤ a3 ∧ a3 ≤ 2147483647) {a4 : Int} (ga4 : -2147483648 ≤ a4 ∧ a4 ≤ 2147483647) {v E w t : Int} (h1 : (v, E) = zg_233 a1 a2 a3 a4) (h2 : (w, t) = zg_459 a1 a2 a3 a4) : t = (if E = 24 then 1 else (if E = 13 then 2 else (if E = 15 then 3 else 0))) ∧ (E = 0 → v = w) ∧ (E = 0 ∨ E = 24 ∨ E = 13 ∨ E = 15) := by
  unfold zg_233 at h1
  unfold zg_459 at h2
  grind (splits := 60) [frz, frs]

/- withdraw -/
theorem cm_withdraw {a1 : Int} (ga1 : -2147483648 ≤ a1 ∧ a1 ≤ 2147483647) {v E w t : Int} (h1 : (v, E) = zg_254 a1) (h2 : (w, t) = zg_546 a1) : t = (if E = 24 then 1 else (if E = 15 then 2 else 0)) ∧ (E = 0 → v = w) ∧ (E = 0 ∨ E = 24 ∨ E = 15) := by
  unfold zg_254 at h1
  unfold zg_546 at h2
  grind (splits := 60) [frz, frs]

/- hand -/
theorem cm_hand {a1 : Int} (ga1 : -2147483648 ≤ a1 ∧ a1 ≤ 2147483647) {a2 : Int} (ga2 : -2147483648 ≤ a2 ∧ a2 ≤ 2147483647) {v E w t : Int} (h1 : (v, E) = zg_206 a1 a2) (h2 : (w, t) = zg_349 a1 a2) : t = (if E = 24 then 1 else (if E = 13 then 2 else 0)) ∧ (E = 0 → v = w) ∧ (E = 0 ∨ E = 24 ∨ E = 13) := by
  unfold zg_206 at h1
  unfold zg_349 at h2
  grind (splits := 60) [frz, frs]

/- lot -/
theorem cm_lot {a1 : Int} (ga1 : -2147483648 ≤ a1 ∧ a1 ≤ 2147483647) {a2 : Int} (ga2 : -2147483648 ≤ a2 ∧ a2 ≤ 2147483647) {a3 : Int} (ga3 : -2147483648 ≤ a3 ∧ a3 ≤ 2147483647) {v E w t : Int} (h1 : (v, E) = zg_217 a1 a2 a3) (h2 : (w, t) = zg_428 a1 a2 a3) : t = (if E = 24 then 1 else (if E = 13 then 2 else 0)) ∧ (E = 0 → v = w) ∧ (E = 0 ∨ E = 24 ∨ E = 13) := by
  unfold zg_217 at h1
  unfold zg_428 at h2
  grind (splits := 60) [frz, frs]

/- takings -/
theorem cm_takings {a1 : Int} (ga1 : -2147483648 ≤ a1 ∧ a1 ≤ 2147483647) {a2 : Int} (ga2 : -2147483648 ≤ a2 ∧ a2 ≤ 2147483647) {a3 : Int} (ga3 : -2147483648 ≤ a3 ∧ a3 ≤ 2147483647) {v E w t : Int} (h1 : (v, E) = zg_246 a1 a2 a3) (h2 : (w, t) = zg_533 a1 a2 a3) : t = (if E = 24 then 1 else (if E = 13 then 2 else 0)) ∧ (E = 0 → v = w) ∧ (E = 0 ∨ E = 24 ∨ E = 13) := by
  unfold zg_246 at h1
  unfold zg_533 at h2
  grind (splits := 60) [frz, frs]

/- bestRow -/
theorem cm_bestRow {a1 : Int} (ga1 : -2147483648 ≤ a1 ∧ a1 ≤ 2147483647) {a2 : Int} (ga2 : -2147483648 ≤ a2 ∧ a2 ≤ 2147483647) {v E w t : Int} (h1 : (v, E) = zg_188 a1 a2) (h2 : (w, t) = zg_292 a1 a2) : t = (if E = 24 then 1 else (if E = 15 then 2 else 0)) ∧ (E = 0 → v = w) ∧ (E = 0 ∨ E = 24 ∨ E = 15) := by
  unfold zg_188 at h1
  unfold zg_292 at h2
  grind (splits := 60) [frz, frs]

/- bestStart -/
theorem cm_bestStart {a1 : Int} (ga1 : -2147483648 ≤ a1 ∧ a1 ≤ 2147483647) {a2 : Int} (ga2 : -2147483648 ≤ a2 ∧ a2 ≤ 2147483647) {a3 : Int} (ga3 : -2147483648 ≤ a3 ∧ a3 ≤ 2147483647) {a4 : Int} (ga4 : -2147483648 ≤ a4 ∧ a4 ≤ 2147483647) {v E w t : Int} (h1 : (v, E) = zg_189 a1 a2 a3 a4) (h2 : (w, t) = zg_293 a1 a2 a3 a4) : t = (if E = 24 then 1 else (if E = 13 then 2 else (if E = 15 then 3 else 0))) ∧ (E = 0 → v = w) ∧ (E = 0 ∨ E = 24 ∨ E = 13 ∨ E = 15) := by
  unfold zg_189 at h1
  unfold zg_293 at h2
  grind (splits := 60) [frz, frs]

/- way -/
theorem cm_way {a1 : Int} (ga1 : -2147483648 ≤ a1 ∧ a1 ≤ 2147483647) {a2 : Int} (ga2 : -2147483648 ≤ a2 ∧ a2 ≤ 2147483647) {a3 : Int} (ga3 : -2147483648 ≤ a3 ∧ a3 ≤ 2147483647) {v E w t : Int} (h1 : (v, E) = zg_253 a1 a2 a3) (h2 : (w, t) = zg_543 a1 a2 a3) : t = (if E = 24 then 1 else (if E = 13 then 2 else 0)) ∧ (E = 0 → v = w) ∧ (E = 0 ∨ E = 24 ∨ E = 13) := by
  unfold zg_253 at h1
  unfold zg_543 at h2
  grind (splits := 60) [frz, frs]

/- docks -/
theorem cm_docks {a1 : Int} (ga1 : -2147483648 ≤ a1 ∧ a1 ≤ 2147483647) {v E w t : Int} (h1 : (v, E) = zg_197 a1) (h2 : (w, t) = zg_336 a1) : t = (if E = 13 then 1 else (if E = 15 then 2 else 0)) ∧ (E = 0 → v = w) ∧ (E = 0 ∨ E = 13 ∨ E = 15) := by
  unfold zg_197 at h1
  unfold zg_336 at h2
  grind (splits := 60) [frz, frs]

/- truck -/
theorem cm_truck {a1 : Int} (ga1 : -2147483648 ≤ a1 ∧ a1 ≤ 2147483647) {a2 : Int} (ga2 : -2147483648 ≤ a2 ∧ a2 ≤ 2147483647) {v E w t : Int} (h1 : (v, E) = zg_251 a1 a2) (h2 : (w, t) = zg_539 a1 a2) : t = (if E = 13 then 1 else (if E = 15 then 2 else 0)) ∧ (E = 0 → v = w) ∧ (E = 0 ∨ E = 13 ∨ E = 15) := by
  unfold zg_251 at h1
  unfold zg_539 at h2
  grind (splits := 60) [frz, frs]

/- load -/
theorem cm_load {a1 : Int} (ga1 : -2147483648 ≤ a1 ∧ a1 ≤ 2147483647) {a2 : Int} (ga2 : -2147483648 ≤ a2 ∧ a2 ≤ 2147483647) {v E w t : Int} (h1 : (v, E) = zg_215 a1 a2) (h2 : (w, t) = zg_426 a1 a2) : t = (if E = 24 then 1 else (if E = 15 then 2 else 0)) ∧ (E = 0 → v = w) ∧ (E = 0 ∨ E = 24 ∨ E = 15) := by
  unfold zg_215 at h1
  unfold zg_426 at h2
  grind (splits := 60) [frz, frs]

/- send -/
theorem cm_send {a1 : Int} (ga1 : -2147483648 ≤ a1 ∧ a1 ≤ 2147483647) {a2 : Int} (ga2 : -2147483648 ≤ a2 ∧ a2 ≤ 2147483647) {v E w t : Int} (h1 : (v, E) = zg_239 a1 a2) (h2 : (w, t) = zg_499 a1 a2) : t = (if E = 24 then 1 else (if E = 13 then 2 else (if E = 15 then 3 else 0))) ∧ (E = 0 → v = w) ∧ (E = 0 ∨ E = 24 ∨ E = 13 ∨ E = 15) := by
  unfold zg_239 at h1
  unfold zg_499 at h2
  grind (splits := 60) [frz, frs]

/- haul -/
theorem cm_haul {a1 : Int} (ga1 : -2147483648 ≤ a1 ∧ a1 ≤ 2147483647) {a2 : Int} (ga2 : -2147483648 ≤ a2 ∧ a2 ≤ 2147483647) {v E w t : Int} (h1 : (v, E) = zg_207 a1 a2) (h2 : (w, t) = zg_350 a1 a2) : t = (if E = 24 then 1 else (if E = 13 then 2 else 0)) ∧ (E = 0 → v = w) ∧ (E = 0 ∨ E = 24 ∨ E = 13) := by
  unfold zg_207 at h1
  unfold zg_350 at h2
  grind (splits := 60) [frz, frs]

/- parcel -/
theorem cm_parcel {a1 : Int} (ga1 : -2147483648 ≤ a1 ∧ a1 ≤ 2147483647) {a2 : Int} (ga2 : -2147483648 ≤ a2 ∧ a2 ≤ 2147483647) {v E w t : Int} (h1 : (v, E) = zg_226 a1 a2) (h2 : (w, t) = zg_449 a1 a2) : t = (if E = 24 then 1 else (if E = 13 then 2 else 0)) ∧ (E = 0 → v = w) ∧ (E = 0 ∨ E = 24 ∨ E = 13) := by
  unfold zg_226 at h1
  unfold zg_449 at h2
  grind (splits := 60) [frz, frs]

/- trip -/
theorem cm_trip {a1 : Int} (ga1 : -2147483648 ≤ a1 ∧ a1 ≤ 2147483647) {a2 : Int} (ga2 : -2147483648 ≤ a2 ∧ a2 ≤ 2147483647) {v E w t : Int} (h1 : (v, E) = zg_250 a1 a2) (h2 : (w, t) = zg_538 a1 a2) : t = (if E = 24 then 1 else (if E = 13 then 2 else 0)) ∧ (E = 0 → v = w) ∧ (E = 0 ∨ E = 24 ∨ E = 13) := by
  unfold zg_250 at h1
  unfold zg_538 at h2
  grind (splits := 60) [frz, frs]

/- fewest -/
theorem cm_fewest {a1 : Int} (ga1 : -2147483648 ≤ a1 ∧ a1 ≤ 2147483647) {a2 : Int} (ga2 : -2147483648 ≤ a2 ∧ a2 ≤ 2147483647) {v E w t : Int} (h1 : (v, E) = zg_200 a1 a2) (h2 : (w, t) = zg_341 a1 a2) : t = (if E = 24 then 1 else (if E = 13 then 2 else (if E = 15 then 3 else 0))) ∧ (E = 0 → v = w) ∧ (E = 0 ∨ E = 24 ∨ E = 13 ∨ E = 15) := by
  unfold zg_200 at h1
  unfold zg_341 at h2
  grind (splits := 60) [frz, frs]

/- inspector -/
theorem cm_inspector {a1 : Int} (ga1 : -2147483648 ≤ a1 ∧ a1 ≤ 2147483647) {a2 : Int} (ga2 : -2147483648 ≤ a2 ∧ a2 ≤ 2147483647) {v E w t : Int} (h1 : (v, E) = zg_211 a1 a2) (h2 : (w, t) = zg_377 a1 a2) : t = (if E = 13 then 1 else (if E = 15 then 2 else 0)) ∧ (E = 0 → v = w) ∧ (E = 0 ∨ E = 13 ∨ E = 15) := by
  unfold zg_211 at h1
  unfold zg_377 at h2
  grind (splits := 60) [frz, frs]

/- round -/
theorem cm_round {a1 : Int} (ga1 : -2147483648 ≤ a1 ∧ a1 ≤ 2147483647) {a2 : Int} (ga2 : -2147483648 ≤ a2 ∧ a2 ≤ 2147483647) {a3 : Int} (ga3 : -2147483648 ≤ a3 ∧ a3 ≤ 2147483647) {v E w t : Int} (h1 : (v, E) = zg_237 a1 a2 a3) (h2 : (w, t) = zg_496 a1 a2 a3) : t = (if E = 24 then 1 else (if E = 13 then 2 else 0)) ∧ (E = 0 → v = w) ∧ (E = 0 ∨ E = 24 ∨ E = 13) := by
  unfold zg_237 at h1
  unfold zg_496 at h2
  grind (splits := 60) [frz, frs]

/- looked -/
theorem cm_looked {a1 : Int} (ga1 : -2147483648 ≤ a1 ∧ a1 ≤ 2147483647) {a2 : Int} (ga2 : -2147483648 ≤ a2 ∧ a2 ≤ 2147483647) {v E w t : Int} (h1 : (v, E) = zg_216 a1 a2) (h2 : (w, t) = zg_427 a1 a2) : t = (if E = 24 then 1 else (if E = 13 then 2 else 0)) ∧ (E = 0 → v = w) ∧ (E = 0 ∨ E = 24 ∨ E = 13) := by
  unfold zg_216 at h1
  unfold zg_427 at h2
  grind (splits := 60) [frz, frs]

/- found -/
theorem cm_found {a1 : Int} (ga1 : -2147483648 ≤ a1 ∧ a1 ≤ 2147483647) {a2 : Int} (ga2 : -2147483648 ≤ a2 ∧ a2 ≤ 2147483647) {v E w t : Int} (h1 : (v, E) = zg_201 a1 a2) (h2 : (w, t) = zg_342 a1 a2) : t = (if E = 24 then 1 else (if E = 13 then 2 else 0)) ∧ (E = 0 → v = w) ∧ (E = 0 ∨ E = 24 ∨ E = 13) := by
  unfold zg_201 at h1
  unfold zg_342 at h2
  grind (splits := 60) [frz, frs]

/- worst -/
theorem cm_worst {a1 : Int} (ga1 : -2147483648 ≤ a1 ∧ a1 ≤ 2147483647) {a2 : Int} (ga2 : -2147483648 ≤ a2 ∧ a2 ≤ 2147483647) {v E w t : Int} (h1 : (v, E) = zg_255 a1 a2) (h2 : (w, t) = zg_547 a1 a2) : t = (if E = 24 then 1 else (if E = 13 then 2 else 0)) ∧ (E = 0 → v = w) ∧ (E = 0 ∨ E = 24 ∨ E = 13) := by
  unfold zg_255 at h1
  unfold zg_547 at h2
  grind (splits := 60) [frz, frs]

/- tariff -/
theorem cm_tariff {a1 : Int} (ga1 : -2147483648 ≤ a1 ∧ a1 ≤ 2147483647) {a2 : Int} (ga2 : -2147483648 ≤ a2 ∧ a2 ≤ 2147483647) {v E w t : Int} (h1 : (v, E) = zg_247 a1 a2) (h2 : (w, t) = zg_534 a1 a2) : t = (if E = 13 then 1 else 0) ∧ (E = 0 → v = w) ∧ (E = 0 ∨ E = 13) := by
  unfold zg_247 at h1
  unfold zg_534 at h2
  grind (splits := 60) [frz, frs]

/- account -/
theorem cm_account {a1 : Int} (ga1 : -2147483648 ≤ a1 ∧ a1 ≤ 2147483647) {v E w t : Int} (h1 : (v, E) = zg_185 a1) (h2 : (w, t) = zg_256 a1) : t = (if E = 13 then 1 else 0) ∧ (E = 0 → v = w) ∧ (E = 0 ∨ E = 13) := by
  unfold zg_185 at h1
  unfold zg_256 at h2
  grind (splits := 60) [frz, frs]

/- entry -/
theorem cm_entry {a1 : Int} (ga1 : -2147483648 ≤ a1 ∧ a1 ≤ 2147483647) {a2 : Int} (ga2 : -2147483648 ≤ a2 ∧ a2 ≤ 2147483647) {v E w t : Int} (h1 : (v, E) = zg_199 a1 a2) (h2 : (w, t) = zg_339 a1 a2) : t = (if E = 24 then 1 else (if E = 13 then 2 else 0)) ∧ (E = 0 → v = w) ∧ (E = 0 ∨ E = 24 ∨ E = 13) := by
  unfold zg_199 at h1
  unfold zg_339 at h2
  grind (splits := 60) [frz, frs]

/- owed -/
theorem cm_owed {a1 : Int} (ga1 : -2147483648 ≤ a1 ∧ a1 ≤ 2147483647) {a2 : Int} (ga2 : -2147483648 ≤ a2 ∧ a2 ≤ 2147483647) {v E w t : Int} (h1 : (v, E) = zg_223 a1 a2) (h2 : (w, t) = zg_444 a1 a2) : t = (if E = 24 then 1 else (if E = 13 then 2 else 0)) ∧ (E = 0 → v = w) ∧ (E = 0 ∨ E = 24 ∨ E = 13) := by
  unfold zg_223 at h1
  unfold zg_444 at h2
  grind (splits := 60) [frz, frs]

/- quarrel -/
theorem cm_quarrel {a1 : Int} (ga1 : -2147483648 ≤ a1 ∧ a1 ≤ 2147483647) {a2 : Int} (ga2 : -2147483648 ≤ a2 ∧ a2 ≤ 2147483647) {v E w t : Int} (h1 : (v, E) = zg_231 a1 a2) (h2 : (w, t) = zg_457 a1 a2) : t = (if E = 24 then 1 else (if E = 13 then 2 else (if E = 15 then 3 else 0))) ∧ (E = 0 → v = w) ∧ (E = 0 ∨ E = 24 ∨ E = 13 ∨ E = 15) := by
  unfold zg_231 at h1
  unfold zg_457 at h2
  grind (splits := 60) [frz, frs]

/- quarrelled -/
theorem cm_quarrelled {a1 : Int} (ga1 : -2147483648 ≤ a1 ∧ a1 ≤ 2147483647) {a2 : Int} (ga2 : -2147483648 ≤ a2 ∧ a2 ≤ 2147483647) {v E w t : Int} (h1 : (v, E) = zg_232 a1 a2) (h2 : (w, t) = zg_458 a1 a2) : t = (if E = 24 then 1 else (if E = 13 then 2 else 0)) ∧ (E = 0 → v = w) ∧ (E = 0 ∨ E = 24 ∨ E = 13) := by
  unfold zg_232 at h1
  unfold zg_458 at h2
  grind (splits := 60) [frz, frs]

/- blame -/
theorem cm_blame {a1 : Int} (ga1 : -2147483648 ≤ a1 ∧ a1 ≤ 2147483647) {a2 : Int} (ga2 : -2147483648 ≤ a2 ∧ a2 ≤ 2147483647) {a3 : Int} (ga3 : -2147483648 ≤ a3 ∧ a3 ≤ 2147483647) {v E w t : Int} (h1 : (v, E) = zg_190 a1 a2 a3) (h2 : (w, t) = zg_294 a1 a2 a3) : t = (if E = 24 then 1 else (if E = 13 then 2 else (if E = 15 then 3 else 0))) ∧ (E = 0 → v = w) ∧ (E = 0 ∨ E = 24 ∨ E = 13 ∨ E = 15) := by
  unfold zg_190 at h1
  unfold zg_294 at h2
  grind (splits := 60) [frz, frs]

/- sign -/
theorem cm_sign {a1 : Int} (ga1 : -2147483648 ≤ a1 ∧ a1 ≤ 2147483647) {v E w t : Int} (h1 : (v, E) = zg_242 a1) (h2 : (w, t) = zg_502 a1) : t = (if E = 13 then 1 else (if E = 15 then 2 else 0)) ∧ (E = 0 → v = w) ∧ (E = 0 ∨ E = 13 ∨ E = 15) := by
  unfold zg_242 at h1
  unfold zg_502 at h2
  grind (splits := 60) [frz, frs]

/- tasks -/
theorem cm_tasks  {v E w t : Int} (h1 : (v, E) = zg_248 ) (h2 : (w, t) = zg_535 ) : t = 0 ∧ (E = 0 → v = w) ∧ (E = 0) := by
  unfold zg_248 at h1
  unfold zg_535 at h2
  grind (splits := 60) [frz, frs]

/- undo -/
theorem cm_undo  {v E w t : Int} (h1 : (v, E) = zg_252 ) (h2 : (w, t) = zg_541 ) : t = (if E = 15 then 1 else 0) ∧ (E = 0 → v = w) ∧ (E = 0 ∨ E = 15) := by
  unfold zg_252 at h1
  unfold zg_541 at h2
  grind (splits := 60) [frz, frs]

/- again -/
theorem cm_again {a1 : Int} (ga1 : -2147483648 ≤ a1 ∧ a1 ≤ 2147483647) {v E w t : Int} (h1 : (v, E) = zg_186 a1) (h2 : (w, t) = zg_257 a1) : t = (if E = 13 then 1 else (if E = 15 then 2 else 0)) ∧ (E = 0 → v = w) ∧ (E = 0 ∨ E = 13 ∨ E = 15) := by
  unfold zg_186 at h1
  unfold zg_257 at h2
  grind (splits := 60) [frz, frs]

/- sum -/
theorem cm_sum {a1 : Int} (ga1 : -2147483648 ≤ a1 ∧ a1 ≤ 2147483647) {v E w t : Int} (h1 : (v, E) = zg_244 a1) (h2 : (w, t) = zg_504 a1) : t = (if E = 13 then 1 else 0) ∧ (E = 0 → v = w) ∧ (E = 0 ∨ E = 13) := by
  unfold zg_244 at h1
  unfold zg_504 at h2
  grind (splits := 60) [frz, frs]
