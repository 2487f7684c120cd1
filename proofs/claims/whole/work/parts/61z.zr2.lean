/-- rows of rooms beyond those that there are -/
def zNr (Y : qz_Z) : Prop := (∀ a : Int, 1210 + 12 * Y 2 0 0 1200 ≤ a → a < 1282 → Y 2 0 0 a = 0) ∧ (∀ r : Int, Y 2 0 0 1200 ≤ r → r < 6 → Y 2 0 0 (3510 + r) = 0)
theorem zNr_c {a : Int} (h0 : 1210 ≤ a) (h1 : a < 1282) : (Nat.beq (zcm a / 100) 43 || Nat.beq (zcm a) 0) = true := by
  rcases (show a = 1210 ∨ a = 1211 ∨ a = 1212 ∨ a = 1213 ∨ a = 1214 ∨ a = 1215 ∨ a = 1216 ∨ a = 1217 ∨ a = 1218 ∨ a = 1219 ∨ a = 1220 ∨ a = 1221 ∨ a = 1222 ∨ a = 1223 ∨ a = 1224 ∨ a = 1225 ∨ a = 1226 ∨ a = 1227 ∨ a = 1228 ∨ a = 1229 ∨ a = 1230 ∨ a = 1231 ∨ a = 1232 ∨ a = 1233 ∨ a = 1234 ∨ a = 1235 ∨ a = 1236 ∨ a = 1237 ∨ a = 1238 ∨ a = 1239 ∨ a = 1240 ∨ a = 1241 ∨ a = 1242 ∨ a = 1243 ∨ a = 1244 ∨ a = 1245 ∨ a = 1246 ∨ a = 1247 ∨ a = 1248 ∨ a = 1249 ∨ a = 1250 ∨ a = 1251 ∨ a = 1252 ∨ a = 1253 ∨ a = 1254 ∨ a = 1255 ∨ a = 1256 ∨ a = 1257 ∨ a = 1258 ∨ a = 1259 ∨ a = 1260 ∨ a = 1261 ∨ a = 1262 ∨ a = 1263 ∨ a = 1264 ∨ a = 1265 ∨ a = 1266 ∨ a = 1267 ∨ a = 1268 ∨ a = 1269 ∨ a = 1270 ∨ a = 1271 ∨ a = 1272 ∨ a = 1273 ∨ a = 1274 ∨ a = 1275 ∨ a = 1276 ∨ a = 1277 ∨ a = 1278 ∨ a = 1279 ∨ a = 1280 ∨ a = 1281 by omega) with rfl | rfl | rfl | rfl | rfl | rfl | rfl | rfl | rfl | rfl | rfl | rfl | rfl | rfl | rfl | rfl | rfl | rfl | rfl | rfl | rfl | rfl | rfl | rfl | rfl | rfl | rfl | rfl | rfl | rfl | rfl | rfl | rfl | rfl | rfl | rfl | rfl | rfl | rfl | rfl | rfl | rfl | rfl | rfl | rfl | rfl | rfl | rfl | rfl | rfl | rfl | rfl | rfl | rfl | rfl | rfl | rfl | rfl | rfl | rfl | rfl | rfl | rfl | rfl | rfl | rfl | rfl | rfl | rfl | rfl | rfl | rfl <;> decide
theorem zNr_f {K : List Nat} {Y M : qz_Z} (h : zNr Y) (hV : zV Y) (g : yFa K Y M) (e : K.contains 1102 = false ∧ K.contains 10016 = false ∧ K.any (fun n => Nat.beq (n / 100) 43 || Nat.beq n 0) = false) : zNr M := by
  have r := zVr_11_2 (a := 1200) hV rfl
  have k := yFr_at 1102 g e.1 (zcm_s (ac_11_2 rfl))
  refine ⟨fun a h0 h1 => ?_, fun r0 h0 h1 => ?_⟩
  · rw [k] at h0
    have c : K.contains (zcm a) = false := by
      cases q : K.contains (zcm a) with
      | false => rfl
      | true =>
        have u : K.any (fun n => Nat.beq (n / 100) 43 || Nat.beq n 0) = true := List.any_eq_true.mpr ⟨zcm a, by simpa using q, zNr_c (by omega) h1⟩
        rw [e.2.2] at u
        cases u
    rw [g a c]
    exact h.1 a h0 h1
  · rw [k] at h0
    rw [yFr_at 10016 g e.2.1 (zcm_shut (by omega) h1 rfl)]
    exact h.2 r0 h0 h1
theorem z485_i {x1 x2 x3 x4 x5 : Int} {Y : qz_Z} (hz : ∀ a : Int, 1210 + 12 * x5 ≤ a → a < 1222 + 12 * x5 → Y 2 0 0 a = 0) : ∀ (m : Nat) (x6 : Int), 0 ≤ x6 → x6 ≤ 12 → 12 - x6 < (m : Int) → zl_485_1 x1 x2 x3 x4 x5 m Y x6 = (Y, 12) := by
  intro m
  induction m with
  | zero => intros; omega
  | succ m ih =>
    intro x6 h0 h1 h2
    unfold zl_485_1
    by_cases q : 12 ≤ x6
    · rw [if_pos q, show x6 = 12 by omega]
    · rw [if_neg q]
      show zl_485_1 x1 x2 x3 x4 x5 m (zu Y 2 0 0 (1210 + 12 * x5 + x6) 0) (x6 + 1) = _
      rw [zu_id (hz _ (by omega) (by omega))]
      exact ih _ (by omega) (by omega) (by omega)
theorem zNi_put {Y M : qz_Z} {c : Int} (h : zNi Y) (hc : Y 2 0 0 3500 = c) (nm : ∀ a : Int, 3530 + 10 * c ≤ a → a < 3540 → M 2 0 0 a = Y 2 0 0 a) (l : M 2 0 0 3500 = c + 1) : zNi M := fun a h0 h1 => by
  rw [l] at h0
  rw [nm a (by omega) h1]
  exact h a (by omega) h1
theorem zNr_put {Y M : qz_Z} {c : Int} (h : zNr Y) (c0 : 0 ≤ c) (hc : Y 2 0 0 1200 = c) (nm : ∀ a : Int, (1222 + 12 * c ≤ a ∧ a < 1282) ∨ (3510 ≤ a ∧ a < 3516) → M 2 0 0 a = Y 2 0 0 a) (l : M 2 0 0 1200 = c + 1) : zNr M := by
  refine ⟨fun a h0 h1 => ?_, fun r h0 h1 => ?_⟩
  · rw [l] at h0
    rw [nm a (.inl ⟨by omega, h1⟩)]
    exact h.1 a (by omega) h1
  · rw [l] at h0
    rw [nm _ (.inr ⟨by omega, by omega⟩)]
    exact h.2 r (by omega) h1
theorem zDs_put {b c : Int} {Z Y C M : qz_Z} (h : zDs b Z Y) (hN : zNr Y) (hc : Y 2 0 0 1200 = c) (nc : ∀ r : Int, r ≠ c → C 43 b r 10 = Z 43 b r 10) (l : C 43 b c 10 = -1) (nm : ∀ r : Int, 0 ≤ r → r < 6 → M 2 0 0 (3510 + r) = Y 2 0 0 (3510 + r)) : zDs b C M := fun r h0 h1 => by
  by_cases x : r = c
  · rw [x] at h0 h1 ⊢
    rw [l, nm c h0 h1]
    exact .inr ⟨rfl, hN.2 c (by omega) h1⟩
  · rw [nc r x, nm r h0 h1]
    exact h r h0 h1
