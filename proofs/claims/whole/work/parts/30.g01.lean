/- yX3_sellFirst -/
def zl_73_1 (x0b : Int) (x2ij : Int) (x7ij : Int) (x1 : Int) (x4 : Int) (x5 : Int) (x6 : Int) (x8 : Int) : Nat → qz_Z → Int → Int → qz_Z × Int × Int
  | 0, Z, x9, x10 => (Z, x9, x10)
  | m + 1, Z, x9, x10 => (if 40 ≤ x10 then (Z, x9, x10) else (if (Z 44 x0b x7ij 4) ≤ 0 then (Z, x9, x10) else (if x10 ≤ 0 then (zlet (zf_26 Z x0b x0b x7ij) (fun v8 => (if ((((max 0 (x9 - v8)) + x8) - 1) / x8) ≤ ((x9 - x6) / x8) then (zlet (zf_34 Z x0b x0b x7ij (x9 - (x8 * (min ((x9 - x6) / x8) ((((max 0 (x9 - v8)) + x8) - 1) / x8))))) (fun v18 => (if v18 ≠ (-1) then (zlet (zu Z 11 x0b 0 6 ((Z 11 x0b 0 6) + 1)) (fun Z27 => (zlet (zu Z27 47 x0b (Z 11 x0b 0 6) 0 x4) (fun Z28 => (zlet (zu Z28 47 x0b (Z 11 x0b 0 6) 1 (Z28 46 x0b v18 0)) (fun Z31 => (zlet (zu Z31 47 x0b (Z 11 x0b 0 6) 2 v18) (fun Z32 => (zlet (zu Z32 47 x0b (Z 11 x0b 0 6) 3 (min ((w3 ((w3 ((Z 45 x0b (Z 46 x0b v18 0) 1) + (Z 45 x0b (Z 46 x0b v18 0) 3))) - (Z 45 x0b (Z 46 x0b v18 0) 4))) / (x9 - (x8 * (min ((x9 - x6) / x8) ((((max 0 (x9 - v8)) + x8) - 1) / x8))))) (min (Z 44 x0b x4 4) (Z 46 x0b v18 6)))) (fun Z37 => (zlet (zu Z37 47 x0b (Z 11 x0b 0 6) 4 (((Z37 44 x0b x4 5) * (min ((w3 ((w3 ((Z 45 x0b (Z 46 x0b v18 0) 1) + (Z 45 x0b (Z 46 x0b v18 0) 3))) - (Z 45 x0b (Z 46 x0b v18 0) 4))) / (x9 - (x8 * (min ((x9 - x6) / x8) ((((max 0 (x9 - v8)) + x8) - 1) / x8))))) (min (Z 44 x0b x4 4) (Z 46 x0b v18 6)))) / (Z37 44 x0b x4 4))) (fun Z46 => (zlet (zu Z46 47 x0b (Z 11 x0b 0 6) 5 (x9 - (x8 * (min ((x9 - x6) / x8) ((((max 0 (x9 - v8)) + x8) - 1) / x8))))) (fun Z47 => (zlet (zu Z47 47 x0b (Z 11 x0b 0 6) 6 (Z47 11 x0b 0 13)) (fun Z49 => (zlet (zu Z49 47 x0b (Z 11 x0b 0 6) 7 (Z49 44 x0b x4 9)) (fun Z51 => (zlet (zu Z51 47 x0b (Z 11 x0b 0 6) 8 (Z51 44 x0b x4 7)) (fun Z53 => (zlet (zu Z53 47 x0b (Z 11 x0b 0 6) 9 0) (fun Z54 => (zlet (zu Z54 47 x0b (Z 11 x0b 0 6) 10 (-1)) (fun Z57 => (zlet (zu Z57 47 x0b (Z 11 x0b 0 6) 14 (-1)) (fun Z61 => (zlet (zu Z61 47 x0b (Z 11 x0b 0 6) 15 (-1)) (fun Z62 => (zlet (zu Z62 47 x0b (Z 11 x0b 0 6) 16 (-1)) (fun Z63 => (zlet (zu Z63 47 x0b (Z 11 x0b 0 6) 17 (-1)) (fun Z64 => (zlet (zu Z64 47 x0b (Z 11 x0b 0 6) 18 ((min ((w3 ((w3 ((Z 45 x0b (Z 46 x0b v18 0) 1) + (Z 45 x0b (Z 46 x0b v18 0) 3))) - (Z 45 x0b (Z 46 x0b v18 0) 4))) / (x9 - (x8 * (min ((x9 - x6) / x8) ((((max 0 (x9 - v8)) + x8) - 1) / x8))))) (min (Z 44 x0b x4 4) (Z 46 x0b v18 6))) * (x9 - (x8 * (min ((x9 - x6) / x8) ((((max 0 (x9 - v8)) + x8) - 1) / x8)))))) (fun Z66 => (zlet (zu Z66 47 x0b (Z 11 x0b 0 6) 19 (Z66 47 x0b (Z 11 x0b 0 6) 18)) (fun Z69 => (zlet (zu Z69 47 x0b (Z 11 x0b 0 6) 20 (((Z69 11 x0b 0 13) / 24) + (Z69 45 x0b (Z 46 x0b v18 0) 2))) (fun Z73 => (zlet (zu Z73 44 x0b x4 4 ((Z73 44 x0b x4 4) - (min ((w3 ((w3 ((Z 45 x0b (Z 46 x0b v18 0) 1) + (Z 45 x0b (Z 46 x0b v18 0) 3))) - (Z 45 x0b (Z 46 x0b v18 0) 4))) / (x9 - (x8 * (min ((x9 - x6) / x8) ((((max 0 (x9 - v8)) + x8) - 1) / x8))))) (min (Z 44 x0b x4 4) (Z 46 x0b v18 6))))) (fun Z76 => (zlet (zu Z76 44 x0b x4 5 ((Z76 44 x0b x4 5) - (Z76 47 x0b (Z 11 x0b 0 6) 4))) (fun Z81 => (zlet (zu Z81 46 x0b v18 6 ((Z81 46 x0b v18 6) - (min ((w3 ((w3 ((Z 45 x0b (Z 46 x0b v18 0) 1) + (Z 45 x0b (Z 46 x0b v18 0) 3))) - (Z 45 x0b (Z 46 x0b v18 0) 4))) / (x9 - (x8 * (min ((x9 - x6) / x8) ((((max 0 (x9 - v8)) + x8) - 1) / x8))))) (min (Z 44 x0b x4 4) (Z 46 x0b v18 6))))) (fun Z84 => (zlet (zu Z84 46 x0b v18 8 (w3 ((Z84 46 x0b v18 8) + (min ((w3 ((w3 ((Z 45 x0b (Z 46 x0b v18 0) 1) + (Z 45 x0b (Z 46 x0b v18 0) 3))) - (Z 45 x0b (Z 46 x0b v18 0) 4))) / (x9 - (x8 * (min ((x9 - x6) / x8) ((((max 0 (x9 - v8)) + x8) - 1) / x8))))) (min (Z 44 x0b x4 4) (Z 46 x0b v18 6)))))) (fun Z87 => (zlet (zu Z87 45 x0b (Z 46 x0b v18 0) 4 (w3 ((Z87 45 x0b (Z 46 x0b v18 0) 4) + (Z87 47 x0b (Z 11 x0b 0 6) 18)))) (fun Z93 => (zlet (zu Z93 45 x0b (Z 46 x0b v18 0) 9 (w3 ((Z93 45 x0b (Z 46 x0b v18 0) 9) + (min ((w3 ((w3 ((Z 45 x0b (Z 46 x0b v18 0) 1) + (Z 45 x0b (Z 46 x0b v18 0) 3))) - (Z 45 x0b (Z 46 x0b v18 0) 4))) / (x9 - (x8 * (min ((x9 - x6) / x8) ((((max 0 (x9 - v8)) + x8) - 1) / x8))))) (min (Z 44 x0b x4 4) (Z 46 x0b v18 6)))))) (fun Z96 => (zlet (zf_6 Z96 x0b x0b (Z 11 x0b 0 6)) (fun Z97 => (zlet (zu Z97 48 x0b x2ij 9 (w3 ((Z97 48 x0b x2ij 9) + 1))) (fun Z100 => (zlet (zu Z100 48 x0b x2ij 10 (w3 ((Z100 48 x0b x2ij 10) + (Z100 47 x0b (Z 11 x0b 0 6) 3)))) (fun Z105 => (zlet (zu Z105 48 x0b x2ij 11 (w3 ((Z105 48 x0b x2ij 11) + (Z105 47 x0b (Z 11 x0b 0 6) 18)))) (fun Z110 => zl_73_1 x0b x2ij x7ij x1 x4 x5 x6 x8 m Z110 (x9 - (x8 * (min ((x9 - x6) / x8) ((((max 0 (x9 - v8)) + x8) - 1) / x8)))) (x10 + 1))))))))))))))))))))))))))))))))))))))))))))))))))))))))))) else (Z, (x9 - (x8 * (min ((x9 - x6) / x8) ((((max 0 (x9 - v8)) + x8) - 1) / x8)))), x10)))) else (Z, (x9 - (x8 * (min ((x9 - x6) / x8) ((((max 0 (x9 - v8)) + x8) - 1) / x8)))), x10)))) else (zlet (zf_26 Z x0b x0b x7ij) (fun v118 => (if ((((max 0 ((min (x9 + ((Z 48 x0b x2ij 4) * x8)) x5) - v118)) + x8) - 1) / x8) ≤ (((min (x9 + ((Z 48 x0b x2ij 4) * x8)) x5) - x6) / x8) then (zlet (zf_34 Z x0b x0b x7ij ((min (x9 + ((Z 48 x0b x2ij 4) * x8)) x5) - (x8 * (min (((min (x9 + ((Z 48 x0b x2ij 4) * x8)) x5) - x6) / x8) ((((max 0 ((min (x9 + ((Z 48 x0b x2ij 4) * x8)) x5) - v118)) + x8) - 1) / x8))))) (fun v130 => (if v130 ≠ (-1) then (zlet (zu Z 11 x0b 0 6 ((Z 11 x0b 0 6) + 1)) (fun Z139 => (zlet (zu Z139 47 x0b (Z 11 x0b 0 6) 0 x4) (fun Z140 => (zlet (zu Z140 47 x0b (Z 11 x0b 0 6) 1 (Z140 46 x0b v130 0)) (fun Z143 => (zlet (zu Z143 47 x0b (Z 11 x0b 0 6) 2 v130) (fun Z144 => (zlet (zu Z144 47 x0b (Z 11 x0b 0 6) 3 (min ((w3 ((w3 ((Z 45 x0b (Z 46 x0b v130 0) 1) + (Z 45 x0b (Z 46 x0b v130 0) 3))) - (Z 45 x0b (Z 46 x0b v130 0) 4))) / ((min (x9 + ((Z 48 x0b x2ij 4) * x8)) x5) - (x8 * (min (((min (x9 + ((Z 48 x0b x2ij 4) * x8)) x5) - x6) / x8) ((((max 0 ((min (x9 + ((Z 48 x0b x2ij 4) * x8)) x5) - v118)) + x8) - 1) / x8))))) (min (Z 44 x0b x4 4) (Z 46 x0b v130 6)))) (fun Z149 => (zlet (zu Z149 47 x0b (Z 11 x0b 0 6) 4 (((Z149 44 x0b x4 5) * (min ((w3 ((w3 ((Z 45 x0b (Z 46 x0b v130 0) 1) + (Z 45 x0b (Z 46 x0b v130 0) 3))) - (Z 45 x0b (Z 46 x0b v130 0) 4))) / ((min (x9 + ((Z 48 x0b x2ij 4) * x8)) x5) - (x8 * (min (((min (x9 + ((Z 48 x0b x2ij 4) * x8)) x5) - x6) / x8) ((((max 0 ((min (x9 + ((Z 48 x0b x2ij 4) * x8)) x5) - v118)) + x8) - 1) / x8))))) (min (Z 44 x0b x4 4) (Z 46 x0b v130 6)))) / (Z149 44 x0b x4 4))) (fun Z158 => (zlet (zu Z158 47 x0b (Z 11 x0b 0 6) 5 ((min (x9 + ((Z 48 x0b x2ij 4) * x8)) x5) - (x8 * (min (((min (x9 + ((Z 48 x0b x2ij 4) * x8)) x5) - x6) / x8) ((((max 0 ((min (x9 + ((Z 48 x0b x2ij 4) * x8)) x5) - v118)) + x8) - 1) / x8))))) (fun Z159 => (zlet (zu Z159 47 x0b (Z 11 x0b 0 6) 6 (Z159 11 x0b 0 13)) (fun Z161 => (zlet (zu Z161 47 x0b (Z 11 x0b 0 6) 7 (Z161 44 x0b x4 9)) (fun Z163 => (zlet (zu Z163 47 x0b (Z 11 x0b 0 6) 8 (Z163 44 x0b x4 7)) (fun Z165 => (zlet (zu Z165 47 x0b (Z 11 x0b 0 6) 9 0) (fun Z166 => (zlet (zu Z166 47 x0b (Z 11 x0b 0 6) 10 (-1)) (fun Z169 => (zlet (zu Z169 47 x0b (Z 11 x0b 0 6) 14 (-1)) (fun Z173 => (zlet (zu Z173 47 x0b (Z 11 x0b 0 6) 15 (-1)) (fun Z174 => (zlet (zu Z174 47 x0b (Z 11 x0b 0 6) 16 (-1)) (fun Z175 => (zlet (zu Z175 47 x0b (Z 11 x0b 0 6) 17 (-1)) (fun Z176 => (zlet (zu Z176 47 x0b (Z 11 x0b 0 6) 18 ((min ((w3 ((w3 ((Z 45 x0b (Z 46 x0b v130 0) 1) + (Z 45 x0b (Z 46 x0b v130 0) 3))) - (Z 45 x0b (Z 46 x0b v130 0) 4))) / ((min (x9 + ((Z 48 x0b x2ij 4) * x8)) x5) - (x8 * (min (((min (x9 + ((Z 48 x0b x2ij 4) * x8)) x5) - x6) / x8) ((((max 0 ((min (x9 + ((Z 48 x0b x2ij 4) * x8)) x5) - v118)) + x8) - 1) / x8))))) (min (Z 44 x0b x4 4) (Z 46 x0b v130 6))) * ((min (x9 + ((Z 48 x0b x2ij 4) * x8)) x5) - (x8 * (min (((min (x9 + ((Z 48 x0b x2ij 4) * x8)) x5) - x6) / x8) ((((max 0 ((min (x9 + ((Z 48 x0b x2ij 4) * x8)) x5) - v118)) + x8) - 1) / x8)))))) (fun Z178 => (zlet (zu Z178 47 x0b (Z 11 x0b 0 6) 19 (Z178 47 x0b (Z 11 x0b 0 6) 18)) (fun Z181 => (zlet (zu Z181 47 x0b (Z 11 x0b 0 6) 20 (((Z181 11 x0b 0 13) / 24) + (Z181 45 x0b (Z 46 x0b v130 0) 2))) (fun Z185 => (zlet (zu Z185 44 x0b x4 4 ((Z185 44 x0b x4 4) - (min ((w3 ((w3 ((Z 45 x0b (Z 46 x0b v130 0) 1) + (Z 45 x0b (Z 46 x0b v130 0) 3))) - (Z 45 x0b (Z 46 x0b v130 0) 4))) / ((min (x9 + ((Z 48 x0b x2ij 4) * x8)) x5) - (x8 * (min (((min (x9 + ((Z 48 x0b x2ij 4) * x8)) x5) - x6) / x8) ((((max 0 ((min (x9 + ((Z 48 x0b x2ij 4) * x8)) x5) - v118)) + x8) - 1) / x8))))) (min (Z 44 x0b x4 4) (Z 46 x0b v130 6))))) (fun Z188 => (zlet (zu Z188 44 x0b x4 5 ((Z188 44 x0b x4 5) - (Z188 47 x0b (Z 11 x0b 0 6) 4))) (fun Z193 => (zlet (zu Z193 46 x0b v130 6 ((Z193 46 x0b v130 6) - (min ((w3 ((w3 ((Z 45 x0b (Z 46 x0b v130 0) 1) + (Z 45 x0b (Z 46 x0b v130 0) 3))) - (Z 45 x0b (Z 46 x0b v130 0) 4))) / ((min (x9 + ((Z 48 x0b x2ij 4) * x8)) x5) - (x8 * (min (((min (x9 + ((Z 48 x0b x2ij 4) * x8)) x5) - x6) / x8) ((((max 0 ((min (x9 + ((Z 48 x0b x2ij 4) * x8)) x5) - v118)) + x8) - 1) / x8))))) (min (Z 44 x0b x4 4) (Z 46 x0b v130 6))))) (fun Z196 => (zlet (zu Z196 46 x0b v130 8 (w3 ((Z196 46 x0b v130 8) + (min ((w3 ((w3 ((Z 45 x0b (Z 46 x0b v130 0) 1) + (Z 45 x0b (Z 46 x0b v130 0) 3))) - (Z 45 x0b (Z 46 x0b v130 0) 4))) / ((min (x9 + ((Z 48 x0b x2ij 4) * x8)) x5) - (x8 * (min (((min (x9 + ((Z 48 x0b x2ij 4) * x8)) x5) - x6) / x8) ((((max 0 ((min (x9 + ((Z 48 x0b x2ij 4) * x8)) x5) - v118)) + x8) - 1) / x8))))) (min (Z 44 x0b x4 4) (Z 46 x0b v130 6)))))) (fun Z199 => (zlet (zu Z199 45 x0b (Z 46 x0b v130 0) 4 (w3 ((Z199 45 x0b (Z 46 x0b v130 0) 4) + (Z199 47 x0b (Z 11 x0b 0 6) 18)))) (fun Z205 => (zlet (zu Z205 45 x0b (Z 46 x0b v130 0) 9 (w3 ((Z205 45 x0b (Z 46 x0b v130 0) 9) + (min ((w3 ((w3 ((Z 45 x0b (Z 46 x0b v130 0) 1) + (Z 45 x0b (Z 46 x0b v130 0) 3))) - (Z 45 x0b (Z 46 x0b v130 0) 4))) / ((min (x9 + ((Z 48 x0b x2ij 4) * x8)) x5) - (x8 * (min (((min (x9 + ((Z 48 x0b x2ij 4) * x8)) x5) - x6) / x8) ((((max 0 ((min (x9 + ((Z 48 x0b x2ij 4) * x8)) x5) - v118)) + x8) - 1) / x8))))) (min (Z 44 x0b x4 4) (Z 46 x0b v130 6)))))) (fun Z208 => (zlet (zf_6 Z208 x0b x0b (Z 11 x0b 0 6)) (fun Z209 => (zlet (zu Z209 48 x0b x2ij 9 (w3 ((Z209 48 x0b x2ij 9) + 1))) (fun Z212 => (zlet (zu Z212 48 x0b x2ij 10 (w3 ((Z212 48 x0b x2ij 10) + (Z212 47 x0b (Z 11 x0b 0 6) 3)))) (fun Z217 => (zlet (zu Z217 48 x0b x2ij 11 (w3 ((Z217 48 x0b x2ij 11) + (Z217 47 x0b (Z 11 x0b 0 6) 18)))) (fun Z222 => zl_73_1 x0b x2ij x7ij x1 x4 x5 x6 x8 m Z222 ((min (x9 + ((Z 48 x0b x2ij 4) * x8)) x5) - (x8 * (min (((min (x9 + ((Z 48 x0b x2ij 4) * x8)) x5) - x6) / x8) ((((max 0 ((min (x9 + ((Z 48 x0b x2ij 4) * x8)) x5) - v118)) + x8) - 1) / x8)))) (x10 + 1))))))))))))))))))))))))))))))))))))))))))))))))))))))))))) else (Z, ((min (x9 + ((Z 48 x0b x2ij 4) * x8)) x5) - (x8 * (min (((min (x9 + ((Z 48 x0b x2ij 4) * x8)) x5) - x6) / x8) ((((max 0 ((min (x9 + ((Z 48 x0b x2ij 4) * x8)) x5) - v118)) + x8) - 1) / x8)))), x10)))) else (Z, ((min (x9 + ((Z 48 x0b x2ij 4) * x8)) x5) - (x8 * (min (((min (x9 + ((Z 48 x0b x2ij 4) * x8)) x5) - x6) / x8) ((((max 0 ((min (x9 + ((Z 48 x0b x2ij 4) * x8)) x5) - v118)) + x8) - 1) / x8)))), x10)))))))
set_option maxHeartbeats 6000000 in
theorem sl_73_1 {s : zSM} {xM9 : Nat} {Zs Z : qz_Z} {ν : qz_N} (hZ : zH (zb s xM9) Z) (hM : s.2 + 82 ≤ 1000000000) (hK : zC [14, 42, 44, 45, 46, 47, 48, 53, 1106, 1112] Zs Z) (x0b : Nat) (x2i : Nat) {x2ij : Int} (ex2i : (x2i : Int) = x2ij) (gx2ij : 0 ≤ x2ij ∧ x2ij ≤ 1) (x7i : Nat) {x7ij : Int} (ex7i : (x7i : Int) = x7ij) (gx7ij : 0 ≤ x7ij ∧ x7ij ≤ 47) {x1 : Int} (gx1 : 0 ≤ x1 ∧ x1 ≤ 1) {x4 : Int} (gx4 : 0 ≤ x4 ∧ x4 ≤ 47) {x5 : Int} (gx5 : 0 ≤ x5 ∧ x5 ≤ 9999) {x6 : Int} (gx6 : 0 ≤ x6 ∧ x6 ≤ 9999) {x8 : Int} (gx8 : 1 ≤ x8 ∧ x8 ≤ 500) {x9 : Int} (gx9 : 1 ≤ x9 ∧ x9 ≤ 9999) {x10 : Int} (gx10 : 0 ≤ x10 ∧ x10 ≤ 40) (hU : zU [x0b] Zs Z) (hLtx0b : zLt x0b Z) (hx9 : xM9 + 2 * ((40 - x10).toNat) + 2 ≤ 82) (gr0 : x6 ≤ x9) (gr1 : x9 ≤ x5) (gr2 : 1 ≤ x6) (gr3 : x7ij = x4) (gr4 : 1 ≤ Z 48 x0b x1 5) {k : wz_K} {R : wz_R} {L : qz_L} (hL : qz_fg [true, true, true, false, true, true, true, true, true, true, true, false, false, false, false, false] L = [some (.inr (.inr (some (10, x0b, 0)))), some (.inl (i3 x1)), some (.inr (.inr (some (48, x0b, x2i)))), none, some (.inl (i3 x4)), some (.inl (i3 x5)), some (.inl (i3 x6)), some (.inr (.inr (some (44, x0b, x7i)))), some (.inl (i3 x8)), some (.inl (i3 x9)), some (.inl (i3 x10)), none, none, none, none, none]) {T : qz_Z × Int × Int} (hP : zE T (zl_73_1 x0b x2ij x7ij x1 x4 x5 x6 x8 ((40 - x10).toNat + 1) Z x9 x10)) (hk : ∀ (L9 : qz_L) (Z9 : qz_Z) (yx9 yx10 : Int), qz_fg [true, true, true, false, true, false, false, true, false, true, false, false, false, false, false, false] L9 = [some (.inr (.inr (some (10, x0b, 0)))), some (.inl (i3 x1)), some (.inr (.inr (some (48, x0b, x2i)))), none, some (.inl (i3 x4)), none, none, some (.inr (.inr (some (44, x0b, x7i)))), none, some (.inl (i3 yx9)), none, none, none, none, none, none] → zH (zb s 82) Z9 → zC [14, 42, 44, 45, 46, 47, 48, 53, 1106, 1112] Zs Z9 → zU [x0b] Zs Z9 → zLt x0b Z9 → (1 ≤ yx9 ∧ yx9 ≤ 9999) → (0 ≤ yx10 ∧ yx10 ≤ 40) → (x6 ≤ yx9) → (yx9 ≤ x5) → (1 ≤ x6) → (x7ij = x4) → (1 ≤ Z9 48 x0b x1 5) → zE T ((Z9, yx9, yx10)) → k 0 (L9, [], zm Z9 ν)) : wz_loop qb_73_1 65536 k R (L, [], zm Z ν) := by
  refine wz_lp sb_73_1 (fun m x => ∃ xM9 : Nat, ∃ Z : qz_Z, ∃ x9 : Int, ∃ x10 : Int, qz_fg [true, true, true, false, true, true, true, true, true, true, true, false, false, false, false, false] x.1 = [some (.inr (.inr (some (10, x0b, 0)))), some (.inl (i3 x1)), some (.inr (.inr (some (48, x0b, x2i)))), none, some (.inl (i3 x4)), some (.inl (i3 x5)), some (.inl (i3 x6)), some (.inr (.inr (some (44, x0b, x7i)))), some (.inl (i3 x8)), some (.inl (i3 x9)), some (.inl (i3 x10)), none, none, none, none, none] ∧ x.2 = ([], zm Z ν) ∧ xM9 + 2 * m + 2 ≤ 82 ∧ zH (zb s xM9) Z ∧ zC [14, 42, 44, 45, 46, 47, 48, 53, 1106, 1112] Zs Z ∧ zU [x0b] Zs Z ∧ zLt x0b Z ∧ m = (40 - x10).toNat ∧ (1 ≤ x9 ∧ x9 ≤ 9999) ∧ (0 ≤ x10 ∧ x10 ≤ 40) ∧ (x6 ≤ x9) ∧ (x9 ≤ x5) ∧ (1 ≤ x6) ∧ (x7ij = x4) ∧ (1 ≤ Z 48 x0b x1 5) ∧ zE T (zl_73_1 x0b x2ij x7ij x1 x4 x5 x6 x8 (m + 1) Z x9 x10)) ?_ 65536 ((40 - x10).toNat) _ (by omega) ⟨xM9, Z, x9, x10, hL, rfl, hx9, hZ, hK, hU, hLtx0b, rfl, gx9, gx10, gr0, gr1, gr2, gr3, gr4, hP⟩
  clear hP gr0 gr1 gr2 gr3 gr4 gx9 gx10 hx9 hZ hK hU hLtx0b hL
  clear x9 x10
  clear Z
  clear xM9
  rintro m ⟨L, st, μ⟩ ⟨xM9, Z, x9, x10, hL, hx, hx9, hZ, hK, hU, hLtx0b, hm, gx9, gx10, gr0, gr1, gr2, gr3, gr4, hP⟩
  cases hx
  have hM9 : (zb s xM9).2 + 2 ≤ 1000000000 := by
    show s.2 + xM9 + 2 ≤ 1000000000
    omega
  refine fb_73_1 x0b (i3 x1) x2i (i3 x4) (i3 x5) (i3 x6) x7i (i3 x8) (i3 x9) (i3 x10) _ _ _ _ hL ?_
  have r1 := zH_k hZ 48 x0b x1 5 (lo := 0) (hi := 12) (by decide) rfl
  refine wz_br (i3Le (show (40 : Int32) = i3 40 from rfl) (rfl : i3 x10 = i3 x10) (by omega) (by omega) (by omega) (by omega)) (fun h2 => ?_) (fun h2 => ?_)
  · replace hP := zE_p hP h2
    exact hk _ _ _ _ (zconso rfl (zconso (zvo (rfl : i3 x1 = i3 x1)) (zconso rfl (zconso rfl (zconso (zvo (rfl : i3 x4 = i3 x4)) (zconso rfl (zconso rfl (zconso rfl (zconso rfl (zconso (zvo (rfl : i3 x9 = i3 x9)) (zconso rfl (zconso rfl (zconso rfl (zconso rfl (zconso rfl (zconso rfl rfl)))))))))))))))) (zbx0 hZ (by omega)) hK hU hLtx0b (by omega) (by omega) (by omega) (by omega) (by omega) (by omega) (by omega) hP
  · replace hP := zE_n hP h2
    have r3 := zH_k hZ 44 x0b x7ij 4 (lo := 0) (hi := 40) (by decide) rfl
    have q4 : Z 44 x0b x7ij 4 = Z 44 x0b x4 4 := by rw [show x7ij = x4 from by omega]
    have r5 := zH_k hZ 44 x0b x4 4 (lo := 0) (hi := 40) (by decide) rfl
    refine wz_br (i3Le (zm_rd (Z := Z) (ν := ν) (k := 44) (rfl : ((x0b : Nat) : Int) = x0b) ex7i (show ((4 : Nat) : Int) = 4 from rfl)) (show (0 : Int32) = i3 0 from rfl) (by omega) (by omega) (by omega) (by omega)) (fun h6 => ?_) (fun h6 => ?_)
    · replace hP := zE_p hP h6
      exact hk _ _ _ _ (zconso rfl (zconso (zvo (rfl : i3 x1 = i3 x1)) (zconso rfl (zconso rfl (zconso (zvo (rfl : i3 x4 = i3 x4)) (zconso rfl (zconso rfl (zconso rfl (zconso rfl (zconso (zvo (rfl : i3 x9 = i3 x9)) (zconso rfl (zconso rfl (zconso rfl (zconso rfl (zconso rfl (zconso rfl rfl)))))))))))))))) (zbx0 hZ (by omega)) hK hU hLtx0b (by omega) (by omega) (by omega) (by omega) (by omega) (by omega) (by omega) hP
    · replace hP := zE_n hP h6
      refine wz_br (i3Le (rfl : i3 x10 = i3 x10) (show (0 : Int32) = i3 0 from rfl) (by omega) (by omega) (by omega) (by omega)) (fun h7 => ?_) (fun h7 => ?_)
      · replace hP := zE_p hP h7
        obtain ⟨v8, hv8, c9, lv8, uv8⟩ := sp_26 (ν := ν) hZ x0b x0b _ ex7i (by omega) (zbh (c := 0) (k := 0) hM9 (Nat.le_of_ble_eq_true rfl))
        replace hP := zl_e hP hv8
        refine wz_cI_of (zas (zcons rfl (zcons rfl rfl)) c9) ?_
        clear c9
        refine wz_i0 (i3N0 (rfl : i3 x8 = i3 x8) (by omega) (by omega) (by omega)) ?_
        refine wz_i0 (i3N0 (rfl : i3 x8 = i3 x8) (by omega) (by omega) (by omega)) ?_
        have r9 := z_div (x := (((max 0 (x9 - v8)) + x8) - 1)) (y := x8) (by omega) (by omega)
        have r10 := z_div (x := (x9 - x6)) (y := x8) (by omega) (by omega)
        refine wz_br (i3Le (i3D (i3S (i3A (i3Mx (show (0 : Int32) = i3 0 from rfl) (i3S (rfl : i3 x9 = i3 x9) (rfl : i3 v8 = i3 v8)) (by omega) (by omega) (by omega) (by omega)) (rfl : i3 x8 = i3 x8)) (show (1 : Int32) = i3 1 from rfl)) (rfl : i3 x8 = i3 x8) (by omega) (by omega) (by omega) (by omega)) (i3D (i3S (rfl : i3 x9 = i3 x9) (rfl : i3 x6 = i3 x6)) (rfl : i3 x8 = i3 x8) (by omega) (by omega) (by omega) (by omega)) (by omega) (by omega) (by omega) (by omega)) (fun h11 => ?_) (fun h11 => ?_)
        · replace hP := zE_p hP h11
          have r12 := z_mulmin (x := x8) (y := ((x9 - x6) / x8)) (z := ((((max 0 (x9 - v8)) + x8) - 1) / x8)) (by omega)
          have r13 := z_mulmin (x := x8) (y := ((((max 0 (x9 - v8)) + x8) - 1) / x8)) (z := ((x9 - x6) / x8)) (by omega)
          have r14 := z_mulq (x := x8) (y := (x9 - x6)) (by omega)
          have r15 := z_mulq (x := x8) (y := (((max 0 (x9 - v8)) + x8) - 1)) (by omega)
          have r16 := z_mul (x := x8) (y := (min ((x9 - x6) / x8) ((((max 0 (x9 - v8)) + x8) - 1) / x8))) (a := 500) (b := 9999) (by omega) (by omega) (by omega) (by omega)
          have r17 : 1 ≤ (x9 - (x8 * (min ((x9 - x6) / x8) ((((max 0 (x9 - v8)) + x8) - 1) / x8)))) ∧ (x9 - (x8 * (min ((x9 - x6) / x8) ((((max 0 (x9 - v8)) + x8) - 1) / x8)))) ≤ 9999 := by omega
          obtain ⟨v18, hv18, c9, lv18, uv18, wv180, wv181⟩ := sp_34 (ν := ν) hZ x0b x0b _ ex7i (by omega) (a2 := (x9 - (x8 * (min ((x9 - x6) / x8) ((((max 0 (x9 - v8)) + x8) - 1) / x8))))) (by omega) (zbh (c := 0) (k := 0) hM9 (Nat.le_of_ble_eq_true rfl))
          replace hP := zl_e hP hv18
          refine wz_cI_of (zas (zcons rfl (zcons rfl (zcons (zvi (i3S (rfl : i3 x9 = i3 x9) (i3M (rfl : i3 x8 = i3 x8) (i3Mn (i3D (i3S (rfl : i3 x9 = i3 x9) (rfl : i3 x6 = i3 x6)) (rfl : i3 x8 = i3 x8) (by omega) (by omega) (by omega) (by omega)) (i3D (i3S (i3A (i3Mx (show (0 : Int32) = i3 0 from rfl) (i3S (rfl : i3 x9 = i3 x9) (rfl : i3 v8 = i3 v8)) (by omega) (by omega) (by omega) (by omega)) (rfl : i3 x8 = i3 x8)) (show (1 : Int32) = i3 1 from rfl)) (rfl : i3 x8 = i3 x8) (by omega) (by omega) (by omega) (by omega)) (by omega) (by omega) (by omega) (by omega))))) rfl))) c9) ?_
          clear c9
          have r19 := zH_k hZ 11 x0b 0 6 (lo := 0) (hi := 60) (by decide) rfl
          have r20 := zH_k hZ 45 x0b (Z 46 x0b v18 0) 1 (lo := 0) (hi := 9999999) (by decide) rfl
          have r21 := zH_f hZ 45 x0b (Z 46 x0b v18 0) 3
          have r22 := zH_f hZ 45 x0b (Z 46 x0b v18 0) 4
          have w23 : v18 = -1 ∨ Z 11 x0b 0 6 < 60 := wv180
          have w24 : v18 = -1 ∨ (x9 - (x8 * (min ((x9 - x6) / x8) ((((max 0 (x9 - v8)) + x8) - 1) / x8)))) ≤ w3 (w3 (Z 45 x0b (Z 46 x0b v18 0) 1 + Z 45 x0b (Z 46 x0b v18 0) 3) - Z 45 x0b (Z 46 x0b v18 0) 4) := wv181
          refine wz_br (i3NE (rfl : i3 v18 = i3 v18) (show (-1 : Int32) = i3 (-1) from rfl) (by omega) (by omega) (by omega) (by omega)) (fun h25 => ?_) (fun h25 => ?_)
          · replace hP := zE_p hP h25
            refine fw_32 _ _ _ _ _ _ ?_
            refine wz_i0 (i3O (n := 48) (rfl : i3 x4 = i3 x4) (by omega) (by omega) (by omega)) ?_
            refine wz_i0 (i3O (n := 24) (rfl : i3 v18 = i3 v18) (by omega) (by omega) (by omega)) ?_
            have r26 := zH_k hZ 46 x0b v18 0 (lo := 0) (hi := 7) (by decide) rfl
            refine wz_i0 (i3O (n := 8) (zm_rd (Z := Z) (ν := ν) (k := 46) (rfl : ((x0b : Nat) : Int) = x0b) (i3I (y := v18) (rfl : i3 v18 = i3 v18) (by omega) (by omega) (by omega)) (show ((0 : Nat) : Int) = 0 from rfl)) (by omega) (by omega) (by omega)) ?_
            refine wz_i0 (i3N0 (i3S (rfl : i3 x9 = i3 x9) (i3M (rfl : i3 x8 = i3 x8) (i3Mn (i3D (i3S (rfl : i3 x9 = i3 x9) (rfl : i3 x6 = i3 x6)) (rfl : i3 x8 = i3 x8) (by omega) (by omega) (by omega) (by omega)) (i3D (i3S (i3A (i3Mx (show (0 : Int32) = i3 0 from rfl) (i3S (rfl : i3 x9 = i3 x9) (rfl : i3 v8 = i3 v8)) (by omega) (by omega) (by omega) (by omega)) (rfl : i3 x8 = i3 x8)) (show (1 : Int32) = i3 1 from rfl)) (rfl : i3 x8 = i3 x8) (by omega) (by omega) (by omega) (by omega)) (by omega) (by omega) (by omega) (by omega)))) (by omega) (by omega) (by omega)) ?_
            refine wz_i0 (i3O (n := 60) (zm_rd (Z := Z) (ν := ν) (k := 11) (rfl : ((x0b : Nat) : Int) = x0b) (show ((0 : Nat) : Int) = 0 from rfl) (show ((6 : Nat) : Int) = 6 from rfl)) (by omega) (by omega) (by omega)) ?_
            obtain ⟨Z27, hZ27⟩ := zx (zu Z 11 x0b 0 6 ((Z 11 x0b 0 6) + 1))
            replace hP := zl_e hP hZ27
            have hZ27I := zH_u hZ hZ27 (lo := 0) (hi := 60) (by decide) rfl (by omega) ⟨by decide, by decide⟩ (Or.inl (by decide)) rfl
            have hZ27U : zU [x0b] Zs Z27 := zU_u hU hZ27 (Or.inr (List.Mem.head _))
            have hZ27K : zC [14, 42, 44, 45, 46, 47, 48, 53, 1106, 1112] Zs Z27 := zC_u hK hZ27 (by decide)
            intro μ9 e9
            replace e9 := e9.trans (zm_wI (Z := Z) (ν := ν) hZ27 (rfl : ((x0b : Nat) : Int) = x0b) (show ((0 : Nat) : Int) = 0 from rfl) (show ((6 : Nat) : Int) = 6 from rfl) (i3A (zm_rd (Z := Z) (ν := ν) (k := 11) (rfl : ((x0b : Nat) : Int) = x0b) (show ((0 : Nat) : Int) = 0 from rfl) (show ((6 : Nat) : Int) = 6 from rfl)) (show (1 : Int32) = i3 1 from rfl)))
            subst e9
            obtain ⟨Z28, hZ28⟩ := zx (zu Z27 47 x0b (Z 11 x0b 0 6) 0 x4)
            replace hP := zl_e hP hZ28
            have hZ28I := zH_u hZ27I hZ28 (lo := 0) (hi := 47) (by decide) rfl (by omega) ⟨by decide, by decide⟩ (Or.inl (by decide)) rfl
            have hZ28U : zU [x0b] Zs Z28 := zU_u hZ27U hZ28 (Or.inr (List.Mem.head _))
            have hZ28K : zC [14, 42, 44, 45, 46, 47, 48, 53, 1106, 1112] Zs Z28 := zC_u hZ27K hZ28 (by decide)
            intro μ9 e9
            replace e9 := e9.trans (zm_wI (Z := Z27) (ν := ν) hZ28 (rfl : ((x0b : Nat) : Int) = x0b) (i3I (y := (Z 11 x0b 0 6)) (zm_rd (Z := Z) (ν := ν) (k := 11) (rfl : ((x0b : Nat) : Int) = x0b) (show ((0 : Nat) : Int) = 0 from rfl) (show ((6 : Nat) : Int) = 6 from rfl)) (by omega) (by omega) (by omega)) (show ((0 : Nat) : Int) = 0 from rfl) (rfl : i3 x4 = i3 x4))
            subst e9
            have r29 := zH_k hZ28I 46 x0b v18 0 (lo := 0) (hi := 7) (by decide) rfl
            have q30 := (zu_ne (k' := 46) (b' := x0b) (i' := v18) (j' := 0) hZ28 (fun q => absurd q.1 (by decide))).trans (zu_ne (k' := 46) (b' := x0b) (i' := v18) (j' := 0) hZ27 (fun q => absurd q.1 (by decide)))
            obtain ⟨Z31, hZ31⟩ := zx (zu Z28 47 x0b (Z 11 x0b 0 6) 1 (Z28 46 x0b v18 0))
            replace hP := zl_e hP hZ31
            have hZ31I := zH_u hZ28I hZ31 (lo := 0) (hi := 7) (by decide) rfl (by omega) ⟨by decide, by decide⟩ (Or.inl (by decide)) rfl
            have hZ31U : zU [x0b] Zs Z31 := zU_u hZ28U hZ31 (Or.inr (List.Mem.head _))
            have hZ31K : zC [14, 42, 44, 45, 46, 47, 48, 53, 1106, 1112] Zs Z31 := zC_u hZ28K hZ31 (by decide)
            intro μ9 e9
            replace e9 := e9.trans (zm_wI (Z := Z28) (ν := ν) hZ31 (rfl : ((x0b : Nat) : Int) = x0b) (i3I (y := (Z 11 x0b 0 6)) (zm_rd (Z := Z) (ν := ν) (k := 11) (rfl : ((x0b : Nat) : Int) = x0b) (show ((0 : Nat) : Int) = 0 from rfl) (show ((6 : Nat) : Int) = 6 from rfl)) (by omega) (by omega) (by omega)) (show ((1 : Nat) : Int) = 1 from rfl) (zm_rd (Z := Z28) (ν := ν) (k := 46) (rfl : ((x0b : Nat) : Int) = x0b) (i3I (y := v18) (rfl : i3 v18 = i3 v18) (by omega) (by omega) (by omega)) (show ((0 : Nat) : Int) = 0 from rfl)))
            subst e9
            obtain ⟨Z32, hZ32⟩ := zx (zu Z31 47 x0b (Z 11 x0b 0 6) 2 v18)
            replace hP := zl_e hP hZ32
            have hZ32I := zH_u hZ31I hZ32 (lo := 0) (hi := 23) (by decide) rfl (by omega) ⟨by decide, by decide⟩ (Or.inl (by decide)) rfl
            have hZ32U : zU [x0b] Zs Z32 := zU_u hZ31U hZ32 (Or.inr (List.Mem.head _))
            have hZ32K : zC [14, 42, 44, 45, 46, 47, 48, 53, 1106, 1112] Zs Z32 := zC_u hZ31K hZ32 (by decide)
            intro μ9 e9
            replace e9 := e9.trans (zm_wI (Z := Z31) (ν := ν) hZ32 (rfl : ((x0b : Nat) : Int) = x0b) (i3I (y := (Z 11 x0b 0 6)) (zm_rd (Z := Z) (ν := ν) (k := 11) (rfl : ((x0b : Nat) : Int) = x0b) (show ((0 : Nat) : Int) = 0 from rfl) (show ((6 : Nat) : Int) = 6 from rfl)) (by omega) (by omega) (by omega)) (show ((2 : Nat) : Int) = 2 from rfl) (rfl : i3 v18 = i3 v18))
            subst e9
            have r33 := w3_r ((Z 45 x0b (Z 46 x0b v18 0) 1) + (Z 45 x0b (Z 46 x0b v18 0) 3))
            have r34 := w3_r ((w3 ((Z 45 x0b (Z 46 x0b v18 0) 1) + (Z 45 x0b (Z 46 x0b v18 0) 3))) - (Z 45 x0b (Z 46 x0b v18 0) 4))
            have r35 := z_div (x := (w3 ((w3 ((Z 45 x0b (Z 46 x0b v18 0) 1) + (Z 45 x0b (Z 46 x0b v18 0) 3))) - (Z 45 x0b (Z 46 x0b v18 0) 4)))) (y := (x9 - (x8 * (min ((x9 - x6) / x8) ((((max 0 (x9 - v8)) + x8) - 1) / x8))))) (by omega) (by omega)
            have r36 := zH_k hZ 46 x0b v18 6 (lo := 0) (hi := 99) (by decide) rfl
            obtain ⟨Z37, hZ37⟩ := zx (zu Z32 47 x0b (Z 11 x0b 0 6) 3 (min ((w3 ((w3 ((Z 45 x0b (Z 46 x0b v18 0) 1) + (Z 45 x0b (Z 46 x0b v18 0) 3))) - (Z 45 x0b (Z 46 x0b v18 0) 4))) / (x9 - (x8 * (min ((x9 - x6) / x8) ((((max 0 (x9 - v8)) + x8) - 1) / x8))))) (min (Z 44 x0b x4 4) (Z 46 x0b v18 6))))
            replace hP := zl_e hP hZ37
            have hZ37I := zH_u hZ32I hZ37 (lo := 0) (hi := 40) (by decide) rfl (by omega) ⟨by decide, by decide⟩ (Or.inl (by decide)) rfl
            have hZ37U : zU [x0b] Zs Z37 := zU_u hZ32U hZ37 (Or.inr (List.Mem.head _))
            have hZ37K : zC [14, 42, 44, 45, 46, 47, 48, 53, 1106, 1112] Zs Z37 := zC_u hZ32K hZ37 (by decide)
            intro μ9 e9
            replace e9 := e9.trans (zm_wI (Z := Z32) (ν := ν) hZ37 (rfl : ((x0b : Nat) : Int) = x0b) (i3I (y := (Z 11 x0b 0 6)) (zm_rd (Z := Z) (ν := ν) (k := 11) (rfl : ((x0b : Nat) : Int) = x0b) (show ((0 : Nat) : Int) = 0 from rfl) (show ((6 : Nat) : Int) = 6 from rfl)) (by omega) (by omega) (by omega)) (show ((3 : Nat) : Int) = 3 from rfl) (i3Mn (i3D (i3W (i3S (i3W (i3A (zm_rd (Z := Z) (ν := ν) (k := 45) (rfl : ((x0b : Nat) : Int) = x0b) (i3I (y := (Z 46 x0b v18 0)) (zm_rd (Z := Z) (ν := ν) (k := 46) (rfl : ((x0b : Nat) : Int) = x0b) (i3I (y := v18) (rfl : i3 v18 = i3 v18) (by omega) (by omega) (by omega)) (show ((0 : Nat) : Int) = 0 from rfl)) (by omega) (by omega) (by omega)) (show ((1 : Nat) : Int) = 1 from rfl)) (zm_rd (Z := Z) (ν := ν) (k := 45) (rfl : ((x0b : Nat) : Int) = x0b) (i3I (y := (Z 46 x0b v18 0)) (zm_rd (Z := Z) (ν := ν) (k := 46) (rfl : ((x0b : Nat) : Int) = x0b) (i3I (y := v18) (rfl : i3 v18 = i3 v18) (by omega) (by omega) (by omega)) (show ((0 : Nat) : Int) = 0 from rfl)) (by omega) (by omega) (by omega)) (show ((3 : Nat) : Int) = 3 from rfl)))) (zm_rd (Z := Z) (ν := ν) (k := 45) (rfl : ((x0b : Nat) : Int) = x0b) (i3I (y := (Z 46 x0b v18 0)) (zm_rd (Z := Z) (ν := ν) (k := 46) (rfl : ((x0b : Nat) : Int) = x0b) (i3I (y := v18) (rfl : i3 v18 = i3 v18) (by omega) (by omega) (by omega)) (show ((0 : Nat) : Int) = 0 from rfl)) (by omega) (by omega) (by omega)) (show ((4 : Nat) : Int) = 4 from rfl)))) (i3S (rfl : i3 x9 = i3 x9) (i3M (rfl : i3 x8 = i3 x8) (i3Mn (i3D (i3S (rfl : i3 x9 = i3 x9) (rfl : i3 x6 = i3 x6)) (rfl : i3 x8 = i3 x8) (by omega) (by omega) (by omega) (by omega)) (i3D (i3S (i3A (i3Mx (show (0 : Int32) = i3 0 from rfl) (i3S (rfl : i3 x9 = i3 x9) (rfl : i3 v8 = i3 v8)) (by omega) (by omega) (by omega) (by omega)) (rfl : i3 x8 = i3 x8)) (show (1 : Int32) = i3 1 from rfl)) (rfl : i3 x8 = i3 x8) (by omega) (by omega) (by omega) (by omega)) (by omega) (by omega) (by omega) (by omega)))) (by omega) (by omega) (by omega) (by omega)) (i3Mn (zm_rd (Z := Z) (ν := ν) (k := 44) (rfl : ((x0b : Nat) : Int) = x0b) (i3I (y := x4) (rfl : i3 x4 = i3 x4) (by omega) (by omega) (by omega)) (show ((4 : Nat) : Int) = 4 from rfl)) (zm_rd (Z := Z) (ν := ν) (k := 46) (rfl : ((x0b : Nat) : Int) = x0b) (i3I (y := v18) (rfl : i3 v18 = i3 v18) (by omega) (by omega) (by omega)) (show ((6 : Nat) : Int) = 6 from rfl)) (by omega) (by omega) (by omega) (by omega)) (by omega) (by omega) (by omega) (by omega)))
            subst e9
            have r38 := zH_k hZ37I 44 x0b x4 4 (lo := 0) (hi := 40) (by decide) rfl
            have q39 := (zu_ne (k' := 44) (b' := x0b) (i' := x4) (j' := 4) hZ37 (fun q => absurd q.1 (by decide))).trans ((zu_ne (k' := 44) (b' := x0b) (i' := x4) (j' := 4) hZ32 (fun q => absurd q.1 (by decide))).trans ((zu_ne (k' := 44) (b' := x0b) (i' := x4) (j' := 4) hZ31 (fun q => absurd q.1 (by decide))).trans ((zu_ne (k' := 44) (b' := x0b) (i' := x4) (j' := 4) hZ28 (fun q => absurd q.1 (by decide))).trans (zu_ne (k' := 44) (b' := x0b) (i' := x4) (j' := 4) hZ27 (fun q => absurd q.1 (by decide))))))
            refine wz_i0 (i3N0 (zm_rd (Z := Z37) (ν := ν) (k := 44) (rfl : ((x0b : Nat) : Int) = x0b) (i3I (y := x4) (rfl : i3 x4 = i3 x4) (by omega) (by omega) (by omega)) (show ((4 : Nat) : Int) = 4 from rfl)) (by omega) (by omega) (by omega)) ?_
            have r40 := zH_k hZ37I 44 x0b x4 5 (lo := 0) (hi := 40) (by decide) rfl
            have r41 := z_mulmin (x := (Z37 44 x0b x4 5)) (y := ((w3 ((w3 ((Z 45 x0b (Z 46 x0b v18 0) 1) + (Z 45 x0b (Z 46 x0b v18 0) 3))) - (Z 45 x0b (Z 46 x0b v18 0) 4))) / (x9 - (x8 * (min ((x9 - x6) / x8) ((((max 0 (x9 - v8)) + x8) - 1) / x8)))))) (z := (min (Z 44 x0b x4 4) (Z 46 x0b v18 6))) (by omega)
            have r42 := z_mulmin (x := (Z37 44 x0b x4 5)) (y := (min (Z 44 x0b x4 4) (Z 46 x0b v18 6))) (z := ((w3 ((w3 ((Z 45 x0b (Z 46 x0b v18 0) 1) + (Z 45 x0b (Z 46 x0b v18 0) 3))) - (Z 45 x0b (Z 46 x0b v18 0) 4))) / (x9 - (x8 * (min ((x9 - x6) / x8) ((((max 0 (x9 - v8)) + x8) - 1) / x8)))))) (by omega)
            have r43 := z_mul (x := (Z37 44 x0b x4 5)) (y := (min ((w3 ((w3 ((Z 45 x0b (Z 46 x0b v18 0) 1) + (Z 45 x0b (Z 46 x0b v18 0) 3))) - (Z 45 x0b (Z 46 x0b v18 0) 4))) / (x9 - (x8 * (min ((x9 - x6) / x8) ((((max 0 (x9 - v8)) + x8) - 1) / x8))))) (min (Z 44 x0b x4 4) (Z 46 x0b v18 6)))) (a := 40) (b := 40) (by omega) (by omega) (by omega) (by omega)
            have r44 := z_div (x := ((Z37 44 x0b x4 5) * (min ((w3 ((w3 ((Z 45 x0b (Z 46 x0b v18 0) 1) + (Z 45 x0b (Z 46 x0b v18 0) 3))) - (Z 45 x0b (Z 46 x0b v18 0) 4))) / (x9 - (x8 * (min ((x9 - x6) / x8) ((((max 0 (x9 - v8)) + x8) - 1) / x8))))) (min (Z 44 x0b x4 4) (Z 46 x0b v18 6))))) (y := (Z37 44 x0b x4 4)) (by omega) (by omega)
            have r45 := z_mdle (a := (Z37 44 x0b x4 5)) (c := (min ((w3 ((w3 ((Z 45 x0b (Z 46 x0b v18 0) 1) + (Z 45 x0b (Z 46 x0b v18 0) 3))) - (Z 45 x0b (Z 46 x0b v18 0) 4))) / (x9 - (x8 * (min ((x9 - x6) / x8) ((((max 0 (x9 - v8)) + x8) - 1) / x8))))) (min (Z 44 x0b x4 4) (Z 46 x0b v18 6)))) (d := (Z37 44 x0b x4 4)) (by omega) (by omega) (by omega)
            obtain ⟨Z46, hZ46⟩ := zx (zu Z37 47 x0b (Z 11 x0b 0 6) 4 (((Z37 44 x0b x4 5) * (min ((w3 ((w3 ((Z 45 x0b (Z 46 x0b v18 0) 1) + (Z 45 x0b (Z 46 x0b v18 0) 3))) - (Z 45 x0b (Z 46 x0b v18 0) 4))) / (x9 - (x8 * (min ((x9 - x6) / x8) ((((max 0 (x9 - v8)) + x8) - 1) / x8))))) (min (Z 44 x0b x4 4) (Z 46 x0b v18 6)))) / (Z37 44 x0b x4 4)))
            replace hP := zl_e hP hZ46
            have hZ46I := zH_u hZ37I hZ46 (lo := 0) (hi := 40) (by decide) rfl (by omega) ⟨by decide, by decide⟩ (Or.inl (by decide)) rfl
            have hZ46U : zU [x0b] Zs Z46 := zU_u hZ37U hZ46 (Or.inr (List.Mem.head _))
            have hZ46K : zC [14, 42, 44, 45, 46, 47, 48, 53, 1106, 1112] Zs Z46 := zC_u hZ37K hZ46 (by decide)
            intro μ9 e9
            replace e9 := e9.trans (zm_wI (Z := Z37) (ν := ν) hZ46 (rfl : ((x0b : Nat) : Int) = x0b) (i3I (y := (Z 11 x0b 0 6)) (zm_rd (Z := Z) (ν := ν) (k := 11) (rfl : ((x0b : Nat) : Int) = x0b) (show ((0 : Nat) : Int) = 0 from rfl) (show ((6 : Nat) : Int) = 6 from rfl)) (by omega) (by omega) (by omega)) (show ((4 : Nat) : Int) = 4 from rfl) (i3D (i3M (zm_rd (Z := Z37) (ν := ν) (k := 44) (rfl : ((x0b : Nat) : Int) = x0b) (i3I (y := x4) (rfl : i3 x4 = i3 x4) (by omega) (by omega) (by omega)) (show ((5 : Nat) : Int) = 5 from rfl)) (i3Mn (i3D (i3W (i3S (i3W (i3A (zm_rd (Z := Z) (ν := ν) (k := 45) (rfl : ((x0b : Nat) : Int) = x0b) (i3I (y := (Z 46 x0b v18 0)) (zm_rd (Z := Z) (ν := ν) (k := 46) (rfl : ((x0b : Nat) : Int) = x0b) (i3I (y := v18) (rfl : i3 v18 = i3 v18) (by omega) (by omega) (by omega)) (show ((0 : Nat) : Int) = 0 from rfl)) (by omega) (by omega) (by omega)) (show ((1 : Nat) : Int) = 1 from rfl)) (zm_rd (Z := Z) (ν := ν) (k := 45) (rfl : ((x0b : Nat) : Int) = x0b) (i3I (y := (Z 46 x0b v18 0)) (zm_rd (Z := Z) (ν := ν) (k := 46) (rfl : ((x0b : Nat) : Int) = x0b) (i3I (y := v18) (rfl : i3 v18 = i3 v18) (by omega) (by omega) (by omega)) (show ((0 : Nat) : Int) = 0 from rfl)) (by omega) (by omega) (by omega)) (show ((3 : Nat) : Int) = 3 from rfl)))) (zm_rd (Z := Z) (ν := ν) (k := 45) (rfl : ((x0b : Nat) : Int) = x0b) (i3I (y := (Z 46 x0b v18 0)) (zm_rd (Z := Z) (ν := ν) (k := 46) (rfl : ((x0b : Nat) : Int) = x0b) (i3I (y := v18) (rfl : i3 v18 = i3 v18) (by omega) (by omega) (by omega)) (show ((0 : Nat) : Int) = 0 from rfl)) (by omega) (by omega) (by omega)) (show ((4 : Nat) : Int) = 4 from rfl)))) (i3S (rfl : i3 x9 = i3 x9) (i3M (rfl : i3 x8 = i3 x8) (i3Mn (i3D (i3S (rfl : i3 x9 = i3 x9) (rfl : i3 x6 = i3 x6)) (rfl : i3 x8 = i3 x8) (by omega) (by omega) (by omega) (by omega)) (i3D (i3S (i3A (i3Mx (show (0 : Int32) = i3 0 from rfl) (i3S (rfl : i3 x9 = i3 x9) (rfl : i3 v8 = i3 v8)) (by omega) (by omega) (by omega) (by omega)) (rfl : i3 x8 = i3 x8)) (show (1 : Int32) = i3 1 from rfl)) (rfl : i3 x8 = i3 x8) (by omega) (by omega) (by omega) (by omega)) (by omega) (by omega) (by omega) (by omega)))) (by omega) (by omega) (by omega) (by omega)) (i3Mn (zm_rd (Z := Z) (ν := ν) (k := 44) (rfl : ((x0b : Nat) : Int) = x0b) (i3I (y := x4) (rfl : i3 x4 = i3 x4) (by omega) (by omega) (by omega)) (show ((4 : Nat) : Int) = 4 from rfl)) (zm_rd (Z := Z) (ν := ν) (k := 46) (rfl : ((x0b : Nat) : Int) = x0b) (i3I (y := v18) (rfl : i3 v18 = i3 v18) (by omega) (by omega) (by omega)) (show ((6 : Nat) : Int) = 6 from rfl)) (by omega) (by omega) (by omega) (by omega)) (by omega) (by omega) (by omega) (by omega))) (zm_rd (Z := Z37) (ν := ν) (k := 44) (rfl : ((x0b : Nat) : Int) = x0b) (i3I (y := x4) (rfl : i3 x4 = i3 x4) (by omega) (by omega) (by omega)) (show ((4 : Nat) : Int) = 4 from rfl)) (by omega) (by omega) (by omega) (by omega)))
            subst e9
            obtain ⟨Z47, hZ47⟩ := zx (zu Z46 47 x0b (Z 11 x0b 0 6) 5 (x9 - (x8 * (min ((x9 - x6) / x8) ((((max 0 (x9 - v8)) + x8) - 1) / x8)))))
            replace hP := zl_e hP hZ47
            have hZ47I := zH_u hZ46I hZ47 (lo := 0) (hi := 9999) (by decide) rfl (by omega) ⟨by decide, by decide⟩ (Or.inl (by decide)) rfl
            have hZ47U : zU [x0b] Zs Z47 := zU_u hZ46U hZ47 (Or.inr (List.Mem.head _))
            have hZ47K : zC [14, 42, 44, 45, 46, 47, 48, 53, 1106, 1112] Zs Z47 := zC_u hZ46K hZ47 (by decide)
            intro μ9 e9
            replace e9 := e9.trans (zm_wI (Z := Z46) (ν := ν) hZ47 (rfl : ((x0b : Nat) : Int) = x0b) (i3I (y := (Z 11 x0b 0 6)) (zm_rd (Z := Z) (ν := ν) (k := 11) (rfl : ((x0b : Nat) : Int) = x0b) (show ((0 : Nat) : Int) = 0 from rfl) (show ((6 : Nat) : Int) = 6 from rfl)) (by omega) (by omega) (by omega)) (show ((5 : Nat) : Int) = 5 from rfl) (i3S (rfl : i3 x9 = i3 x9) (i3M (rfl : i3 x8 = i3 x8) (i3Mn (i3D (i3S (rfl : i3 x9 = i3 x9) (rfl : i3 x6 = i3 x6)) (rfl : i3 x8 = i3 x8) (by omega) (by omega) (by omega) (by omega)) (i3D (i3S (i3A (i3Mx (show (0 : Int32) = i3 0 from rfl) (i3S (rfl : i3 x9 = i3 x9) (rfl : i3 v8 = i3 v8)) (by omega) (by omega) (by omega) (by omega)) (rfl : i3 x8 = i3 x8)) (show (1 : Int32) = i3 1 from rfl)) (rfl : i3 x8 = i3 x8) (by omega) (by omega) (by omega) (by omega)) (by omega) (by omega) (by omega) (by omega)))))
            subst e9
            have r48 := zH_k hZ47I 11 x0b 0 13 (lo := 0) (hi := 671) (by decide) rfl
            obtain ⟨Z49, hZ49⟩ := zx (zu Z47 47 x0b (Z 11 x0b 0 6) 6 (Z47 11 x0b 0 13))
            replace hP := zl_e hP hZ49
            have hZ49I := zH_u hZ47I hZ49 (lo := 0) (hi := 671) (by decide) rfl (by omega) ⟨by decide, by decide⟩ (Or.inl (by decide)) rfl
            have hZ49U : zU [x0b] Zs Z49 := zU_u hZ47U hZ49 (Or.inr (List.Mem.head _))
            have hZ49K : zC [14, 42, 44, 45, 46, 47, 48, 53, 1106, 1112] Zs Z49 := zC_u hZ47K hZ49 (by decide)
            intro μ9 e9
            replace e9 := e9.trans (zm_wI (Z := Z47) (ν := ν) hZ49 (rfl : ((x0b : Nat) : Int) = x0b) (i3I (y := (Z 11 x0b 0 6)) (zm_rd (Z := Z) (ν := ν) (k := 11) (rfl : ((x0b : Nat) : Int) = x0b) (show ((0 : Nat) : Int) = 0 from rfl) (show ((6 : Nat) : Int) = 6 from rfl)) (by omega) (by omega) (by omega)) (show ((6 : Nat) : Int) = 6 from rfl) (zm_rd (Z := Z47) (ν := ν) (k := 11) (rfl : ((x0b : Nat) : Int) = x0b) (show ((0 : Nat) : Int) = 0 from rfl) (show ((13 : Nat) : Int) = 13 from rfl)))
            subst e9
            have r50 := zH_k hZ49I 44 x0b x4 9 (lo := -1) (hi := 3) (by decide) rfl
            obtain ⟨Z51, hZ51⟩ := zx (zu Z49 47 x0b (Z 11 x0b 0 6) 7 (Z49 44 x0b x4 9))
            replace hP := zl_e hP hZ51
            have hZ51I := zH_u hZ49I hZ51 (lo := -1) (hi := 3) (by decide) rfl (by omega) ⟨by decide, by decide⟩ (Or.inl (by decide)) rfl
            have hZ51U : zU [x0b] Zs Z51 := zU_u hZ49U hZ51 (Or.inr (List.Mem.head _))
            have hZ51K : zC [14, 42, 44, 45, 46, 47, 48, 53, 1106, 1112] Zs Z51 := zC_u hZ49K hZ51 (by decide)
            intro μ9 e9
            replace e9 := e9.trans (zm_wI (Z := Z49) (ν := ν) hZ51 (rfl : ((x0b : Nat) : Int) = x0b) (i3I (y := (Z 11 x0b 0 6)) (zm_rd (Z := Z) (ν := ν) (k := 11) (rfl : ((x0b : Nat) : Int) = x0b) (show ((0 : Nat) : Int) = 0 from rfl) (show ((6 : Nat) : Int) = 6 from rfl)) (by omega) (by omega) (by omega)) (show ((7 : Nat) : Int) = 7 from rfl) (zm_rd (Z := Z49) (ν := ν) (k := 44) (rfl : ((x0b : Nat) : Int) = x0b) (i3I (y := x4) (rfl : i3 x4 = i3 x4) (by omega) (by omega) (by omega)) (show ((9 : Nat) : Int) = 9 from rfl)))
            subst e9
            have r52 := zH_k hZ51I 44 x0b x4 7 (lo := 0) (hi := 2000) (by decide) rfl
            obtain ⟨Z53, hZ53⟩ := zx (zu Z51 47 x0b (Z 11 x0b 0 6) 8 (Z51 44 x0b x4 7))
            replace hP := zl_e hP hZ53
            have hZ53I := zH_u hZ51I hZ53 (lo := 0) (hi := 2000) (by decide) rfl (by omega) ⟨by decide, by decide⟩ (Or.inl (by decide)) rfl
            have hZ53U : zU [x0b] Zs Z53 := zU_u hZ51U hZ53 (Or.inr (List.Mem.head _))
            have hZ53K : zC [14, 42, 44, 45, 46, 47, 48, 53, 1106, 1112] Zs Z53 := zC_u hZ51K hZ53 (by decide)
            intro μ9 e9
            replace e9 := e9.trans (zm_wI (Z := Z51) (ν := ν) hZ53 (rfl : ((x0b : Nat) : Int) = x0b) (i3I (y := (Z 11 x0b 0 6)) (zm_rd (Z := Z) (ν := ν) (k := 11) (rfl : ((x0b : Nat) : Int) = x0b) (show ((0 : Nat) : Int) = 0 from rfl) (show ((6 : Nat) : Int) = 6 from rfl)) (by omega) (by omega) (by omega)) (show ((8 : Nat) : Int) = 8 from rfl) (zm_rd (Z := Z51) (ν := ν) (k := 44) (rfl : ((x0b : Nat) : Int) = x0b) (i3I (y := x4) (rfl : i3 x4 = i3 x4) (by omega) (by omega) (by omega)) (show ((7 : Nat) : Int) = 7 from rfl)))
            subst e9
            obtain ⟨Z54, hZ54⟩ := zx (zu Z53 47 x0b (Z 11 x0b 0 6) 9 0)
            replace hP := zl_e hP hZ54
            have r55 := zH_k hZ53I 47 x0b (Z 11 x0b 0 6) 10 (lo := -1) (hi := 3) (by decide) rfl
            have r56 := zH_lt hZ53I x0b (Z 11 x0b 0 6)
            have hZ54I := zH_st hZ53I hZ54 (by omega) (by omega)
            have hZ54U : zU [x0b] Zs Z54 := zU_u hZ53U hZ54 (Or.inr (List.Mem.head _))
            have hZ54K : zC [14, 42, 44, 45, 46, 47, 48, 53, 1106, 1112] Zs Z54 := zC_u hZ53K hZ54 (by decide)
            intro μ9 e9
            replace e9 := e9.trans (zm_wI (Z := Z53) (ν := ν) hZ54 (rfl : ((x0b : Nat) : Int) = x0b) (i3I (y := (Z 11 x0b 0 6)) (zm_rd (Z := Z) (ν := ν) (k := 11) (rfl : ((x0b : Nat) : Int) = x0b) (show ((0 : Nat) : Int) = 0 from rfl) (show ((6 : Nat) : Int) = 6 from rfl)) (by omega) (by omega) (by omega)) (show ((9 : Nat) : Int) = 9 from rfl) (show (0 : Int32) = i3 0 from rfl))
            subst e9
            obtain ⟨Z57, hZ57⟩ := zx (zu Z54 47 x0b (Z 11 x0b 0 6) 10 (-1))
            replace hP := zl_e hP hZ57
            have r58 := zH_k hZ54I 47 x0b (Z 11 x0b 0 6) 9 (lo := 0) (hi := 3) (by decide) rfl
            have r59 := zH_lt hZ54I x0b (Z 11 x0b 0 6)
            have q60 := zu_at hZ54
            have hZ57I := zH_tr hZ54I hZ57 (by omega) (by omega)
            have hZ57U : zU [x0b] Zs Z57 := zU_u hZ54U hZ57 (Or.inr (List.Mem.head _))
            have hZ57K : zC [14, 42, 44, 45, 46, 47, 48, 53, 1106, 1112] Zs Z57 := zC_u hZ54K hZ57 (by decide)
            intro μ9 e9
            replace e9 := e9.trans (zm_wI (Z := Z54) (ν := ν) hZ57 (rfl : ((x0b : Nat) : Int) = x0b) (i3I (y := (Z 11 x0b 0 6)) (zm_rd (Z := Z) (ν := ν) (k := 11) (rfl : ((x0b : Nat) : Int) = x0b) (show ((0 : Nat) : Int) = 0 from rfl) (show ((6 : Nat) : Int) = 6 from rfl)) (by omega) (by omega) (by omega)) (show ((10 : Nat) : Int) = 10 from rfl) (show (-1 : Int32) = i3 (-1) from rfl))
            subst e9
            obtain ⟨Z61, hZ61⟩ := zx (zu Z57 47 x0b (Z 11 x0b 0 6) 14 (-1))
            replace hP := zl_e hP hZ61
            have hZ61I := zH_u hZ57I hZ61 (lo := -1) (hi := 671) (by decide) rfl (by omega) ⟨by decide, by decide⟩ (Or.inl (by decide)) rfl
            have hZ61U : zU [x0b] Zs Z61 := zU_u hZ57U hZ61 (Or.inr (List.Mem.head _))
            have hZ61K : zC [14, 42, 44, 45, 46, 47, 48, 53, 1106, 1112] Zs Z61 := zC_u hZ57K hZ61 (by decide)
            intro μ9 e9
            replace e9 := e9.trans (zm_wI (Z := Z57) (ν := ν) hZ61 (rfl : ((x0b : Nat) : Int) = x0b) (i3I (y := (Z 11 x0b 0 6)) (zm_rd (Z := Z) (ν := ν) (k := 11) (rfl : ((x0b : Nat) : Int) = x0b) (show ((0 : Nat) : Int) = 0 from rfl) (show ((6 : Nat) : Int) = 6 from rfl)) (by omega) (by omega) (by omega)) (show ((14 : Nat) : Int) = 14 from rfl) (show (-1 : Int32) = i3 (-1) from rfl))
            subst e9
            obtain ⟨Z62, hZ62⟩ := zx (zu Z61 47 x0b (Z 11 x0b 0 6) 15 (-1))
            replace hP := zl_e hP hZ62
            have hZ62I := zH_u hZ61I hZ62 (lo := -1) (hi := 2000) (by decide) rfl (by omega) ⟨by decide, by decide⟩ (Or.inl (by decide)) rfl
            have hZ62U : zU [x0b] Zs Z62 := zU_u hZ61U hZ62 (Or.inr (List.Mem.head _))
            have hZ62K : zC [14, 42, 44, 45, 46, 47, 48, 53, 1106, 1112] Zs Z62 := zC_u hZ61K hZ62 (by decide)
            intro μ9 e9
            replace e9 := e9.trans (zm_wI (Z := Z61) (ν := ν) hZ62 (rfl : ((x0b : Nat) : Int) = x0b) (i3I (y := (Z 11 x0b 0 6)) (zm_rd (Z := Z) (ν := ν) (k := 11) (rfl : ((x0b : Nat) : Int) = x0b) (show ((0 : Nat) : Int) = 0 from rfl) (show ((6 : Nat) : Int) = 6 from rfl)) (by omega) (by omega) (by omega)) (show ((15 : Nat) : Int) = 15 from rfl) (show (-1 : Int32) = i3 (-1) from rfl))
            subst e9
            obtain ⟨Z63, hZ63⟩ := zx (zu Z62 47 x0b (Z 11 x0b 0 6) 16 (-1))
            replace hP := zl_e hP hZ63
            have hZ63I := zH_u hZ62I hZ63 (lo := -1) (hi := 999) (by decide) rfl (by omega) ⟨by decide, by decide⟩ (Or.inl (by decide)) rfl
            have hZ63U : zU [x0b] Zs Z63 := zU_u hZ62U hZ63 (Or.inr (List.Mem.head _))
            have hZ63K : zC [14, 42, 44, 45, 46, 47, 48, 53, 1106, 1112] Zs Z63 := zC_u hZ62K hZ63 (by decide)
            intro μ9 e9
            replace e9 := e9.trans (zm_wI (Z := Z62) (ν := ν) hZ63 (rfl : ((x0b : Nat) : Int) = x0b) (i3I (y := (Z 11 x0b 0 6)) (zm_rd (Z := Z) (ν := ν) (k := 11) (rfl : ((x0b : Nat) : Int) = x0b) (show ((0 : Nat) : Int) = 0 from rfl) (show ((6 : Nat) : Int) = 6 from rfl)) (by omega) (by omega) (by omega)) (show ((16 : Nat) : Int) = 16 from rfl) (show (-1 : Int32) = i3 (-1) from rfl))
            subst e9
            obtain ⟨Z64, hZ64⟩ := zx (zu Z63 47 x0b (Z 11 x0b 0 6) 17 (-1))
            replace hP := zl_e hP hZ64
            have hZ64I := zH_u hZ63I hZ64 (lo := -1) (hi := 671) (by decide) rfl (by omega) ⟨by decide, by decide⟩ (Or.inl (by decide)) rfl
            have hZ64U : zU [x0b] Zs Z64 := zU_u hZ63U hZ64 (Or.inr (List.Mem.head _))
            have hZ64K : zC [14, 42, 44, 45, 46, 47, 48, 53, 1106, 1112] Zs Z64 := zC_u hZ63K hZ64 (by decide)
            intro μ9 e9
            replace e9 := e9.trans (zm_wI (Z := Z63) (ν := ν) hZ64 (rfl : ((x0b : Nat) : Int) = x0b) (i3I (y := (Z 11 x0b 0 6)) (zm_rd (Z := Z) (ν := ν) (k := 11) (rfl : ((x0b : Nat) : Int) = x0b) (show ((0 : Nat) : Int) = 0 from rfl) (show ((6 : Nat) : Int) = 6 from rfl)) (by omega) (by omega) (by omega)) (show ((17 : Nat) : Int) = 17 from rfl) (show (-1 : Int32) = i3 (-1) from rfl))
            subst e9
            have r65 := z_mul (x := (min ((w3 ((w3 ((Z 45 x0b (Z 46 x0b v18 0) 1) + (Z 45 x0b (Z 46 x0b v18 0) 3))) - (Z 45 x0b (Z 46 x0b v18 0) 4))) / (x9 - (x8 * (min ((x9 - x6) / x8) ((((max 0 (x9 - v8)) + x8) - 1) / x8))))) (min (Z 44 x0b x4 4) (Z 46 x0b v18 6)))) (y := (x9 - (x8 * (min ((x9 - x6) / x8) ((((max 0 (x9 - v8)) + x8) - 1) / x8))))) (a := 40) (b := 9999) (by omega) (by omega) (by omega) (by omega)
            obtain ⟨Z66, hZ66⟩ := zx (zu Z64 47 x0b (Z 11 x0b 0 6) 18 ((min ((w3 ((w3 ((Z 45 x0b (Z 46 x0b v18 0) 1) + (Z 45 x0b (Z 46 x0b v18 0) 3))) - (Z 45 x0b (Z 46 x0b v18 0) 4))) / (x9 - (x8 * (min ((x9 - x6) / x8) ((((max 0 (x9 - v8)) + x8) - 1) / x8))))) (min (Z 44 x0b x4 4) (Z 46 x0b v18 6))) * (x9 - (x8 * (min ((x9 - x6) / x8) ((((max 0 (x9 - v8)) + x8) - 1) / x8))))))
            replace hP := zl_e hP hZ66
            have hZ66I := zH_u hZ64I hZ66 (lo := 0) (hi := 399960) (by decide) rfl (by omega) ⟨by decide, by decide⟩ (Or.inl (by decide)) rfl
            have hZ66U : zU [x0b] Zs Z66 := zU_u hZ64U hZ66 (Or.inr (List.Mem.head _))
            have hZ66K : zC [14, 42, 44, 45, 46, 47, 48, 53, 1106, 1112] Zs Z66 := zC_u hZ64K hZ66 (by decide)
            intro μ9 e9
            replace e9 := e9.trans (zm_wI (Z := Z64) (ν := ν) hZ66 (rfl : ((x0b : Nat) : Int) = x0b) (i3I (y := (Z 11 x0b 0 6)) (zm_rd (Z := Z) (ν := ν) (k := 11) (rfl : ((x0b : Nat) : Int) = x0b) (show ((0 : Nat) : Int) = 0 from rfl) (show ((6 : Nat) : Int) = 6 from rfl)) (by omega) (by omega) (by omega)) (show ((18 : Nat) : Int) = 18 from rfl) (i3M (i3Mn (i3D (i3W (i3S (i3W (i3A (zm_rd (Z := Z) (ν := ν) (k := 45) (rfl : ((x0b : Nat) : Int) = x0b) (i3I (y := (Z 46 x0b v18 0)) (zm_rd (Z := Z) (ν := ν) (k := 46) (rfl : ((x0b : Nat) : Int) = x0b) (i3I (y := v18) (rfl : i3 v18 = i3 v18) (by omega) (by omega) (by omega)) (show ((0 : Nat) : Int) = 0 from rfl)) (by omega) (by omega) (by omega)) (show ((1 : Nat) : Int) = 1 from rfl)) (zm_rd (Z := Z) (ν := ν) (k := 45) (rfl : ((x0b : Nat) : Int) = x0b) (i3I (y := (Z 46 x0b v18 0)) (zm_rd (Z := Z) (ν := ν) (k := 46) (rfl : ((x0b : Nat) : Int) = x0b) (i3I (y := v18) (rfl : i3 v18 = i3 v18) (by omega) (by omega) (by omega)) (show ((0 : Nat) : Int) = 0 from rfl)) (by omega) (by omega) (by omega)) (show ((3 : Nat) : Int) = 3 from rfl)))) (zm_rd (Z := Z) (ν := ν) (k := 45) (rfl : ((x0b : Nat) : Int) = x0b) (i3I (y := (Z 46 x0b v18 0)) (zm_rd (Z := Z) (ν := ν) (k := 46) (rfl : ((x0b : Nat) : Int) = x0b) (i3I (y := v18) (rfl : i3 v18 = i3 v18) (by omega) (by omega) (by omega)) (show ((0 : Nat) : Int) = 0 from rfl)) (by omega) (by omega) (by omega)) (show ((4 : Nat) : Int) = 4 from rfl)))) (i3S (rfl : i3 x9 = i3 x9) (i3M (rfl : i3 x8 = i3 x8) (i3Mn (i3D (i3S (rfl : i3 x9 = i3 x9) (rfl : i3 x6 = i3 x6)) (rfl : i3 x8 = i3 x8) (by omega) (by omega) (by omega) (by omega)) (i3D (i3S (i3A (i3Mx (show (0 : Int32) = i3 0 from rfl) (i3S (rfl : i3 x9 = i3 x9) (rfl : i3 v8 = i3 v8)) (by omega) (by omega) (by omega) (by omega)) (rfl : i3 x8 = i3 x8)) (show (1 : Int32) = i3 1 from rfl)) (rfl : i3 x8 = i3 x8) (by omega) (by omega) (by omega) (by omega)) (by omega) (by omega) (by omega) (by omega)))) (by omega) (by omega) (by omega) (by omega)) (i3Mn (zm_rd (Z := Z) (ν := ν) (k := 44) (rfl : ((x0b : Nat) : Int) = x0b) (i3I (y := x4) (rfl : i3 x4 = i3 x4) (by omega) (by omega) (by omega)) (show ((4 : Nat) : Int) = 4 from rfl)) (zm_rd (Z := Z) (ν := ν) (k := 46) (rfl : ((x0b : Nat) : Int) = x0b) (i3I (y := v18) (rfl : i3 v18 = i3 v18) (by omega) (by omega) (by omega)) (show ((6 : Nat) : Int) = 6 from rfl)) (by omega) (by omega) (by omega) (by omega)) (by omega) (by omega) (by omega) (by omega)) (i3S (rfl : i3 x9 = i3 x9) (i3M (rfl : i3 x8 = i3 x8) (i3Mn (i3D (i3S (rfl : i3 x9 = i3 x9) (rfl : i3 x6 = i3 x6)) (rfl : i3 x8 = i3 x8) (by omega) (by omega) (by omega) (by omega)) (i3D (i3S (i3A (i3Mx (show (0 : Int32) = i3 0 from rfl) (i3S (rfl : i3 x9 = i3 x9) (rfl : i3 v8 = i3 v8)) (by omega) (by omega) (by omega) (by omega)) (rfl : i3 x8 = i3 x8)) (show (1 : Int32) = i3 1 from rfl)) (rfl : i3 x8 = i3 x8) (by omega) (by omega) (by omega) (by omega)) (by omega) (by omega) (by omega) (by omega))))))
            subst e9
            have r67 := zH_k hZ66I 47 x0b (Z 11 x0b 0 6) 18 (lo := 0) (hi := 399960) (by decide) rfl
            have q68 := zu_at hZ66
            obtain ⟨Z69, hZ69⟩ := zx (zu Z66 47 x0b (Z 11 x0b 0 6) 19 (Z66 47 x0b (Z 11 x0b 0 6) 18))
            replace hP := zl_e hP hZ69
            have hZ69I := zH_u hZ66I hZ69 (lo := -2147483648) (hi := 2147483647) (by decide) rfl (by omega) ⟨by decide, by decide⟩ (Or.inl (by decide)) rfl
            have hZ69U : zU [x0b] Zs Z69 := zU_u hZ66U hZ69 (Or.inr (List.Mem.head _))
            have hZ69K : zC [14, 42, 44, 45, 46, 47, 48, 53, 1106, 1112] Zs Z69 := zC_u hZ66K hZ69 (by decide)
            intro μ9 e9
            replace e9 := e9.trans (zm_wI (Z := Z66) (ν := ν) hZ69 (rfl : ((x0b : Nat) : Int) = x0b) (i3I (y := (Z 11 x0b 0 6)) (zm_rd (Z := Z) (ν := ν) (k := 11) (rfl : ((x0b : Nat) : Int) = x0b) (show ((0 : Nat) : Int) = 0 from rfl) (show ((6 : Nat) : Int) = 6 from rfl)) (by omega) (by omega) (by omega)) (show ((19 : Nat) : Int) = 19 from rfl) (zm_rd (Z := Z66) (ν := ν) (k := 47) (rfl : ((x0b : Nat) : Int) = x0b) (i3I (y := (Z 11 x0b 0 6)) (zm_rd (Z := Z) (ν := ν) (k := 11) (rfl : ((x0b : Nat) : Int) = x0b) (show ((0 : Nat) : Int) = 0 from rfl) (show ((6 : Nat) : Int) = 6 from rfl)) (by omega) (by omega) (by omega)) (show ((18 : Nat) : Int) = 18 from rfl)))
            subst e9
            have r70 := zH_k hZ69I 11 x0b 0 13 (lo := 0) (hi := 671) (by decide) rfl
            have q71 := (zu_ne (k' := 11) (b' := x0b) (i' := 0) (j' := 13) hZ69 (fun q => absurd q.1 (by decide))).trans ((zu_ne (k' := 11) (b' := x0b) (i' := 0) (j' := 13) hZ66 (fun q => absurd q.1 (by decide))).trans ((zu_ne (k' := 11) (b' := x0b) (i' := 0) (j' := 13) hZ64 (fun q => absurd q.1 (by decide))).trans ((zu_ne (k' := 11) (b' := x0b) (i' := 0) (j' := 13) hZ63 (fun q => absurd q.1 (by decide))).trans ((zu_ne (k' := 11) (b' := x0b) (i' := 0) (j' := 13) hZ62 (fun q => absurd q.1 (by decide))).trans ((zu_ne (k' := 11) (b' := x0b) (i' := 0) (j' := 13) hZ61 (fun q => absurd q.1 (by decide))).trans ((zu_ne (k' := 11) (b' := x0b) (i' := 0) (j' := 13) hZ57 (fun q => absurd q.1 (by decide))).trans ((zu_ne (k' := 11) (b' := x0b) (i' := 0) (j' := 13) hZ54 (fun q => absurd q.1 (by decide))).trans ((zu_ne (k' := 11) (b' := x0b) (i' := 0) (j' := 13) hZ53 (fun q => absurd q.1 (by decide))).trans ((zu_ne (k' := 11) (b' := x0b) (i' := 0) (j' := 13) hZ51 (fun q => absurd q.1 (by decide))).trans (zu_ne (k' := 11) (b' := x0b) (i' := 0) (j' := 13) hZ49 (fun q => absurd q.1 (by decide))))))))))))
            have r72 := zH_k hZ69I 45 x0b (Z 46 x0b v18 0) 2 (lo := 0) (hi := 14) (by decide) rfl
            obtain ⟨Z73, hZ73⟩ := zx (zu Z69 47 x0b (Z 11 x0b 0 6) 20 (((Z69 11 x0b 0 13) / 24) + (Z69 45 x0b (Z 46 x0b v18 0) 2)))
            replace hP := zl_e hP hZ73
            have hZ73I := zH_u hZ69I hZ73 (lo := 0) (hi := 41) (by decide) rfl (by omega) ⟨by decide, by decide⟩ (Or.inl (by decide)) rfl
            have hZ73U : zU [x0b] Zs Z73 := zU_u hZ69U hZ73 (Or.inr (List.Mem.head _))
            have hZ73K : zC [14, 42, 44, 45, 46, 47, 48, 53, 1106, 1112] Zs Z73 := zC_u hZ69K hZ73 (by decide)
            intro μ9 e9
            replace e9 := e9.trans (zm_wI (Z := Z69) (ν := ν) hZ73 (rfl : ((x0b : Nat) : Int) = x0b) (i3I (y := (Z 11 x0b 0 6)) (zm_rd (Z := Z) (ν := ν) (k := 11) (rfl : ((x0b : Nat) : Int) = x0b) (show ((0 : Nat) : Int) = 0 from rfl) (show ((6 : Nat) : Int) = 6 from rfl)) (by omega) (by omega) (by omega)) (show ((20 : Nat) : Int) = 20 from rfl) (i3A (i3D (zm_rd (Z := Z69) (ν := ν) (k := 11) (rfl : ((x0b : Nat) : Int) = x0b) (show ((0 : Nat) : Int) = 0 from rfl) (show ((13 : Nat) : Int) = 13 from rfl)) (show (24 : Int32) = i3 24 from rfl) (by omega) (by omega) (by omega) (by omega)) (zm_rd (Z := Z69) (ν := ν) (k := 45) (rfl : ((x0b : Nat) : Int) = x0b) (i3I (y := (Z 46 x0b v18 0)) (zm_rd (Z := Z) (ν := ν) (k := 46) (rfl : ((x0b : Nat) : Int) = x0b) (i3I (y := v18) (rfl : i3 v18 = i3 v18) (by omega) (by omega) (by omega)) (show ((0 : Nat) : Int) = 0 from rfl)) (by omega) (by omega) (by omega)) (show ((2 : Nat) : Int) = 2 from rfl))))
            subst e9
            have r74 := zH_k hZ73I 44 x0b x4 4 (lo := 0) (hi := 40) (by decide) rfl
            have q75 := (zu_ne (k' := 44) (b' := x0b) (i' := x4) (j' := 4) hZ73 (fun q => absurd q.1 (by decide))).trans ((zu_ne (k' := 44) (b' := x0b) (i' := x4) (j' := 4) hZ69 (fun q => absurd q.1 (by decide))).trans ((zu_ne (k' := 44) (b' := x0b) (i' := x4) (j' := 4) hZ66 (fun q => absurd q.1 (by decide))).trans ((zu_ne (k' := 44) (b' := x0b) (i' := x4) (j' := 4) hZ64 (fun q => absurd q.1 (by decide))).trans ((zu_ne (k' := 44) (b' := x0b) (i' := x4) (j' := 4) hZ63 (fun q => absurd q.1 (by decide))).trans ((zu_ne (k' := 44) (b' := x0b) (i' := x4) (j' := 4) hZ62 (fun q => absurd q.1 (by decide))).trans ((zu_ne (k' := 44) (b' := x0b) (i' := x4) (j' := 4) hZ61 (fun q => absurd q.1 (by decide))).trans ((zu_ne (k' := 44) (b' := x0b) (i' := x4) (j' := 4) hZ57 (fun q => absurd q.1 (by decide))).trans ((zu_ne (k' := 44) (b' := x0b) (i' := x4) (j' := 4) hZ54 (fun q => absurd q.1 (by decide))).trans ((zu_ne (k' := 44) (b' := x0b) (i' := x4) (j' := 4) hZ53 (fun q => absurd q.1 (by decide))).trans ((zu_ne (k' := 44) (b' := x0b) (i' := x4) (j' := 4) hZ51 (fun q => absurd q.1 (by decide))).trans ((zu_ne (k' := 44) (b' := x0b) (i' := x4) (j' := 4) hZ49 (fun q => absurd q.1 (by decide))).trans ((zu_ne (k' := 44) (b' := x0b) (i' := x4) (j' := 4) hZ47 (fun q => absurd q.1 (by decide))).trans (zu_ne (k' := 44) (b' := x0b) (i' := x4) (j' := 4) hZ46 (fun q => absurd q.1 (by decide)))))))))))))))
            obtain ⟨Z76, hZ76⟩ := zx (zu Z73 44 x0b x4 4 ((Z73 44 x0b x4 4) - (min ((w3 ((w3 ((Z 45 x0b (Z 46 x0b v18 0) 1) + (Z 45 x0b (Z 46 x0b v18 0) 3))) - (Z 45 x0b (Z 46 x0b v18 0) 4))) / (x9 - (x8 * (min ((x9 - x6) / x8) ((((max 0 (x9 - v8)) + x8) - 1) / x8))))) (min (Z 44 x0b x4 4) (Z 46 x0b v18 6)))))
            replace hP := zl_e hP hZ76
            have hZ76I := zH_u hZ73I hZ76 (lo := 0) (hi := 40) (by decide) rfl (by omega) ⟨by decide, by decide⟩ (Or.inl (by decide)) rfl
            have hZ76U : zU [x0b] Zs Z76 := zU_u hZ73U hZ76 (Or.inr (List.Mem.head _))
            have hZ76K : zC [14, 42, 44, 45, 46, 47, 48, 53, 1106, 1112] Zs Z76 := zC_u hZ73K hZ76 (by decide)
            intro μ9 e9
            replace e9 := e9.trans (zm_wI (Z := Z73) (ν := ν) hZ76 (rfl : ((x0b : Nat) : Int) = x0b) (i3I (y := x4) (rfl : i3 x4 = i3 x4) (by omega) (by omega) (by omega)) (show ((4 : Nat) : Int) = 4 from rfl) (i3S (zm_rd (Z := Z73) (ν := ν) (k := 44) (rfl : ((x0b : Nat) : Int) = x0b) (i3I (y := x4) (rfl : i3 x4 = i3 x4) (by omega) (by omega) (by omega)) (show ((4 : Nat) : Int) = 4 from rfl)) (i3Mn (i3D (i3W (i3S (i3W (i3A (zm_rd (Z := Z) (ν := ν) (k := 45) (rfl : ((x0b : Nat) : Int) = x0b) (i3I (y := (Z 46 x0b v18 0)) (zm_rd (Z := Z) (ν := ν) (k := 46) (rfl : ((x0b : Nat) : Int) = x0b) (i3I (y := v18) (rfl : i3 v18 = i3 v18) (by omega) (by omega) (by omega)) (show ((0 : Nat) : Int) = 0 from rfl)) (by omega) (by omega) (by omega)) (show ((1 : Nat) : Int) = 1 from rfl)) (zm_rd (Z := Z) (ν := ν) (k := 45) (rfl : ((x0b : Nat) : Int) = x0b) (i3I (y := (Z 46 x0b v18 0)) (zm_rd (Z := Z) (ν := ν) (k := 46) (rfl : ((x0b : Nat) : Int) = x0b) (i3I (y := v18) (rfl : i3 v18 = i3 v18) (by omega) (by omega) (by omega)) (show ((0 : Nat) : Int) = 0 from rfl)) (by omega) (by omega) (by omega)) (show ((3 : Nat) : Int) = 3 from rfl)))) (zm_rd (Z := Z) (ν := ν) (k := 45) (rfl : ((x0b : Nat) : Int) = x0b) (i3I (y := (Z 46 x0b v18 0)) (zm_rd (Z := Z) (ν := ν) (k := 46) (rfl : ((x0b : Nat) : Int) = x0b) (i3I (y := v18) (rfl : i3 v18 = i3 v18) (by omega) (by omega) (by omega)) (show ((0 : Nat) : Int) = 0 from rfl)) (by omega) (by omega) (by omega)) (show ((4 : Nat) : Int) = 4 from rfl)))) (i3S (rfl : i3 x9 = i3 x9) (i3M (rfl : i3 x8 = i3 x8) (i3Mn (i3D (i3S (rfl : i3 x9 = i3 x9) (rfl : i3 x6 = i3 x6)) (rfl : i3 x8 = i3 x8) (by omega) (by omega) (by omega) (by omega)) (i3D (i3S (i3A (i3Mx (show (0 : Int32) = i3 0 from rfl) (i3S (rfl : i3 x9 = i3 x9) (rfl : i3 v8 = i3 v8)) (by omega) (by omega) (by omega) (by omega)) (rfl : i3 x8 = i3 x8)) (show (1 : Int32) = i3 1 from rfl)) (rfl : i3 x8 = i3 x8) (by omega) (by omega) (by omega) (by omega)) (by omega) (by omega) (by omega) (by omega)))) (by omega) (by omega) (by omega) (by omega)) (i3Mn (zm_rd (Z := Z) (ν := ν) (k := 44) (rfl : ((x0b : Nat) : Int) = x0b) (i3I (y := x4) (rfl : i3 x4 = i3 x4) (by omega) (by omega) (by omega)) (show ((4 : Nat) : Int) = 4 from rfl)) (zm_rd (Z := Z) (ν := ν) (k := 46) (rfl : ((x0b : Nat) : Int) = x0b) (i3I (y := v18) (rfl : i3 v18 = i3 v18) (by omega) (by omega) (by omega)) (show ((6 : Nat) : Int) = 6 from rfl)) (by omega) (by omega) (by omega) (by omega)) (by omega) (by omega) (by omega) (by omega))))
            subst e9
            have r77 := zH_k hZ76I 44 x0b x4 5 (lo := 0) (hi := 40) (by decide) rfl
            have q78 := (zu_ne (k' := 44) (b' := x0b) (i' := x4) (j' := 5) hZ76 (fun q => absurd q.2.2.2 (by decide))).trans ((zu_ne (k' := 44) (b' := x0b) (i' := x4) (j' := 5) hZ73 (fun q => absurd q.1 (by decide))).trans ((zu_ne (k' := 44) (b' := x0b) (i' := x4) (j' := 5) hZ69 (fun q => absurd q.1 (by decide))).trans ((zu_ne (k' := 44) (b' := x0b) (i' := x4) (j' := 5) hZ66 (fun q => absurd q.1 (by decide))).trans ((zu_ne (k' := 44) (b' := x0b) (i' := x4) (j' := 5) hZ64 (fun q => absurd q.1 (by decide))).trans ((zu_ne (k' := 44) (b' := x0b) (i' := x4) (j' := 5) hZ63 (fun q => absurd q.1 (by decide))).trans ((zu_ne (k' := 44) (b' := x0b) (i' := x4) (j' := 5) hZ62 (fun q => absurd q.1 (by decide))).trans ((zu_ne (k' := 44) (b' := x0b) (i' := x4) (j' := 5) hZ61 (fun q => absurd q.1 (by decide))).trans ((zu_ne (k' := 44) (b' := x0b) (i' := x4) (j' := 5) hZ57 (fun q => absurd q.1 (by decide))).trans ((zu_ne (k' := 44) (b' := x0b) (i' := x4) (j' := 5) hZ54 (fun q => absurd q.1 (by decide))).trans ((zu_ne (k' := 44) (b' := x0b) (i' := x4) (j' := 5) hZ53 (fun q => absurd q.1 (by decide))).trans ((zu_ne (k' := 44) (b' := x0b) (i' := x4) (j' := 5) hZ51 (fun q => absurd q.1 (by decide))).trans ((zu_ne (k' := 44) (b' := x0b) (i' := x4) (j' := 5) hZ49 (fun q => absurd q.1 (by decide))).trans ((zu_ne (k' := 44) (b' := x0b) (i' := x4) (j' := 5) hZ47 (fun q => absurd q.1 (by decide))).trans (zu_ne (k' := 44) (b' := x0b) (i' := x4) (j' := 5) hZ46 (fun q => absurd q.1 (by decide))))))))))))))))
            have r79 := zH_k hZ76I 47 x0b (Z 11 x0b 0 6) 4 (lo := 0) (hi := 40) (by decide) rfl
            have q80 := (zu_ne (k' := 47) (b' := x0b) (i' := (Z 11 x0b 0 6)) (j' := 4) hZ76 (fun q => absurd q.1 (by decide))).trans ((zu_ne (k' := 47) (b' := x0b) (i' := (Z 11 x0b 0 6)) (j' := 4) hZ73 (fun q => absurd q.2.2.2 (by decide))).trans ((zu_ne (k' := 47) (b' := x0b) (i' := (Z 11 x0b 0 6)) (j' := 4) hZ69 (fun q => absurd q.2.2.2 (by decide))).trans ((zu_ne (k' := 47) (b' := x0b) (i' := (Z 11 x0b 0 6)) (j' := 4) hZ66 (fun q => absurd q.2.2.2 (by decide))).trans ((zu_ne (k' := 47) (b' := x0b) (i' := (Z 11 x0b 0 6)) (j' := 4) hZ64 (fun q => absurd q.2.2.2 (by decide))).trans ((zu_ne (k' := 47) (b' := x0b) (i' := (Z 11 x0b 0 6)) (j' := 4) hZ63 (fun q => absurd q.2.2.2 (by decide))).trans ((zu_ne (k' := 47) (b' := x0b) (i' := (Z 11 x0b 0 6)) (j' := 4) hZ62 (fun q => absurd q.2.2.2 (by decide))).trans ((zu_ne (k' := 47) (b' := x0b) (i' := (Z 11 x0b 0 6)) (j' := 4) hZ61 (fun q => absurd q.2.2.2 (by decide))).trans ((zu_ne (k' := 47) (b' := x0b) (i' := (Z 11 x0b 0 6)) (j' := 4) hZ57 (fun q => absurd q.2.2.2 (by decide))).trans ((zu_ne (k' := 47) (b' := x0b) (i' := (Z 11 x0b 0 6)) (j' := 4) hZ54 (fun q => absurd q.2.2.2 (by decide))).trans ((zu_ne (k' := 47) (b' := x0b) (i' := (Z 11 x0b 0 6)) (j' := 4) hZ53 (fun q => absurd q.2.2.2 (by decide))).trans ((zu_ne (k' := 47) (b' := x0b) (i' := (Z 11 x0b 0 6)) (j' := 4) hZ51 (fun q => absurd q.2.2.2 (by decide))).trans ((zu_ne (k' := 47) (b' := x0b) (i' := (Z 11 x0b 0 6)) (j' := 4) hZ49 (fun q => absurd q.2.2.2 (by decide))).trans ((zu_ne (k' := 47) (b' := x0b) (i' := (Z 11 x0b 0 6)) (j' := 4) hZ47 (fun q => absurd q.2.2.2 (by decide))).trans (zu_at hZ46))))))))))))))
            obtain ⟨Z81, hZ81⟩ := zx (zu Z76 44 x0b x4 5 ((Z76 44 x0b x4 5) - (Z76 47 x0b (Z 11 x0b 0 6) 4)))
            replace hP := zl_e hP hZ81
            have hZ81I := zH_u hZ76I hZ81 (lo := 0) (hi := 40) (by decide) rfl (by omega) ⟨by decide, by decide⟩ (Or.inl (by decide)) rfl
            have hZ81U : zU [x0b] Zs Z81 := zU_u hZ76U hZ81 (Or.inr (List.Mem.head _))
            have hZ81K : zC [14, 42, 44, 45, 46, 47, 48, 53, 1106, 1112] Zs Z81 := zC_u hZ76K hZ81 (by decide)
            intro μ9 e9
            replace e9 := e9.trans (zm_wI (Z := Z76) (ν := ν) hZ81 (rfl : ((x0b : Nat) : Int) = x0b) (i3I (y := x4) (rfl : i3 x4 = i3 x4) (by omega) (by omega) (by omega)) (show ((5 : Nat) : Int) = 5 from rfl) (i3S (zm_rd (Z := Z76) (ν := ν) (k := 44) (rfl : ((x0b : Nat) : Int) = x0b) (i3I (y := x4) (rfl : i3 x4 = i3 x4) (by omega) (by omega) (by omega)) (show ((5 : Nat) : Int) = 5 from rfl)) (zm_rd (Z := Z76) (ν := ν) (k := 47) (rfl : ((x0b : Nat) : Int) = x0b) (i3I (y := (Z 11 x0b 0 6)) (zm_rd (Z := Z) (ν := ν) (k := 11) (rfl : ((x0b : Nat) : Int) = x0b) (show ((0 : Nat) : Int) = 0 from rfl) (show ((6 : Nat) : Int) = 6 from rfl)) (by omega) (by omega) (by omega)) (show ((4 : Nat) : Int) = 4 from rfl))))
            subst e9
            have r82 := zH_k hZ81I 46 x0b v18 6 (lo := 0) (hi := 99) (by decide) rfl
            have q83 := (zu_ne (k' := 46) (b' := x0b) (i' := v18) (j' := 6) hZ81 (fun q => absurd q.1 (by decide))).trans ((zu_ne (k' := 46) (b' := x0b) (i' := v18) (j' := 6) hZ76 (fun q => absurd q.1 (by decide))).trans ((zu_ne (k' := 46) (b' := x0b) (i' := v18) (j' := 6) hZ73 (fun q => absurd q.1 (by decide))).trans ((zu_ne (k' := 46) (b' := x0b) (i' := v18) (j' := 6) hZ69 (fun q => absurd q.1 (by decide))).trans ((zu_ne (k' := 46) (b' := x0b) (i' := v18) (j' := 6) hZ66 (fun q => absurd q.1 (by decide))).trans ((zu_ne (k' := 46) (b' := x0b) (i' := v18) (j' := 6) hZ64 (fun q => absurd q.1 (by decide))).trans ((zu_ne (k' := 46) (b' := x0b) (i' := v18) (j' := 6) hZ63 (fun q => absurd q.1 (by decide))).trans ((zu_ne (k' := 46) (b' := x0b) (i' := v18) (j' := 6) hZ62 (fun q => absurd q.1 (by decide))).trans ((zu_ne (k' := 46) (b' := x0b) (i' := v18) (j' := 6) hZ61 (fun q => absurd q.1 (by decide))).trans ((zu_ne (k' := 46) (b' := x0b) (i' := v18) (j' := 6) hZ57 (fun q => absurd q.1 (by decide))).trans ((zu_ne (k' := 46) (b' := x0b) (i' := v18) (j' := 6) hZ54 (fun q => absurd q.1 (by decide))).trans ((zu_ne (k' := 46) (b' := x0b) (i' := v18) (j' := 6) hZ53 (fun q => absurd q.1 (by decide))).trans ((zu_ne (k' := 46) (b' := x0b) (i' := v18) (j' := 6) hZ51 (fun q => absurd q.1 (by decide))).trans ((zu_ne (k' := 46) (b' := x0b) (i' := v18) (j' := 6) hZ49 (fun q => absurd q.1 (by decide))).trans ((zu_ne (k' := 46) (b' := x0b) (i' := v18) (j' := 6) hZ47 (fun q => absurd q.1 (by decide))).trans ((zu_ne (k' := 46) (b' := x0b) (i' := v18) (j' := 6) hZ46 (fun q => absurd q.1 (by decide))).trans ((zu_ne (k' := 46) (b' := x0b) (i' := v18) (j' := 6) hZ37 (fun q => absurd q.1 (by decide))).trans ((zu_ne (k' := 46) (b' := x0b) (i' := v18) (j' := 6) hZ32 (fun q => absurd q.1 (by decide))).trans ((zu_ne (k' := 46) (b' := x0b) (i' := v18) (j' := 6) hZ31 (fun q => absurd q.1 (by decide))).trans ((zu_ne (k' := 46) (b' := x0b) (i' := v18) (j' := 6) hZ28 (fun q => absurd q.1 (by decide))).trans (zu_ne (k' := 46) (b' := x0b) (i' := v18) (j' := 6) hZ27 (fun q => absurd q.1 (by decide))))))))))))))))))))))
            obtain ⟨Z84, hZ84⟩ := zx (zu Z81 46 x0b v18 6 ((Z81 46 x0b v18 6) - (min ((w3 ((w3 ((Z 45 x0b (Z 46 x0b v18 0) 1) + (Z 45 x0b (Z 46 x0b v18 0) 3))) - (Z 45 x0b (Z 46 x0b v18 0) 4))) / (x9 - (x8 * (min ((x9 - x6) / x8) ((((max 0 (x9 - v8)) + x8) - 1) / x8))))) (min (Z 44 x0b x4 4) (Z 46 x0b v18 6)))))
            replace hP := zl_e hP hZ84
            have hZ84I := zH_u hZ81I hZ84 (lo := 0) (hi := 99) (by decide) rfl (by omega) ⟨by decide, by decide⟩ (Or.inl (by decide)) rfl
            have hZ84U : zU [x0b] Zs Z84 := zU_u hZ81U hZ84 (Or.inr (List.Mem.head _))
            have hZ84K : zC [14, 42, 44, 45, 46, 47, 48, 53, 1106, 1112] Zs Z84 := zC_u hZ81K hZ84 (by decide)
            intro μ9 e9
            replace e9 := e9.trans (zm_wI (Z := Z81) (ν := ν) hZ84 (rfl : ((x0b : Nat) : Int) = x0b) (i3I (y := v18) (rfl : i3 v18 = i3 v18) (by omega) (by omega) (by omega)) (show ((6 : Nat) : Int) = 6 from rfl) (i3S (zm_rd (Z := Z81) (ν := ν) (k := 46) (rfl : ((x0b : Nat) : Int) = x0b) (i3I (y := v18) (rfl : i3 v18 = i3 v18) (by omega) (by omega) (by omega)) (show ((6 : Nat) : Int) = 6 from rfl)) (i3Mn (i3D (i3W (i3S (i3W (i3A (zm_rd (Z := Z) (ν := ν) (k := 45) (rfl : ((x0b : Nat) : Int) = x0b) (i3I (y := (Z 46 x0b v18 0)) (zm_rd (Z := Z) (ν := ν) (k := 46) (rfl : ((x0b : Nat) : Int) = x0b) (i3I (y := v18) (rfl : i3 v18 = i3 v18) (by omega) (by omega) (by omega)) (show ((0 : Nat) : Int) = 0 from rfl)) (by omega) (by omega) (by omega)) (show ((1 : Nat) : Int) = 1 from rfl)) (zm_rd (Z := Z) (ν := ν) (k := 45) (rfl : ((x0b : Nat) : Int) = x0b) (i3I (y := (Z 46 x0b v18 0)) (zm_rd (Z := Z) (ν := ν) (k := 46) (rfl : ((x0b : Nat) : Int) = x0b) (i3I (y := v18) (rfl : i3 v18 = i3 v18) (by omega) (by omega) (by omega)) (show ((0 : Nat) : Int) = 0 from rfl)) (by omega) (by omega) (by omega)) (show ((3 : Nat) : Int) = 3 from rfl)))) (zm_rd (Z := Z) (ν := ν) (k := 45) (rfl : ((x0b : Nat) : Int) = x0b) (i3I (y := (Z 46 x0b v18 0)) (zm_rd (Z := Z) (ν := ν) (k := 46) (rfl : ((x0b : Nat) : Int) = x0b) (i3I (y := v18) (rfl : i3 v18 = i3 v18) (by omega) (by omega) (by omega)) (show ((0 : Nat) : Int) = 0 from rfl)) (by omega) (by omega) (by omega)) (show ((4 : Nat) : Int) = 4 from rfl)))) (i3S (rfl : i3 x9 = i3 x9) (i3M (rfl : i3 x8 = i3 x8) (i3Mn (i3D (i3S (rfl : i3 x9 = i3 x9) (rfl : i3 x6 = i3 x6)) (rfl : i3 x8 = i3 x8) (by omega) (by omega) (by omega) (by omega)) (i3D (i3S (i3A (i3Mx (show (0 : Int32) = i3 0 from rfl) (i3S (rfl : i3 x9 = i3 x9) (rfl : i3 v8 = i3 v8)) (by omega) (by omega) (by omega) (by omega)) (rfl : i3 x8 = i3 x8)) (show (1 : Int32) = i3 1 from rfl)) (rfl : i3 x8 = i3 x8) (by omega) (by omega) (by omega) (by omega)) (by omega) (by omega) (by omega) (by omega)))) (by omega) (by omega) (by omega) (by omega)) (i3Mn (zm_rd (Z := Z) (ν := ν) (k := 44) (rfl : ((x0b : Nat) : Int) = x0b) (i3I (y := x4) (rfl : i3 x4 = i3 x4) (by omega) (by omega) (by omega)) (show ((4 : Nat) : Int) = 4 from rfl)) (zm_rd (Z := Z) (ν := ν) (k := 46) (rfl : ((x0b : Nat) : Int) = x0b) (i3I (y := v18) (rfl : i3 v18 = i3 v18) (by omega) (by omega) (by omega)) (show ((6 : Nat) : Int) = 6 from rfl)) (by omega) (by omega) (by omega) (by omega)) (by omega) (by omega) (by omega) (by omega))))
            subst e9
            have r85 := zH_f hZ84I 46 x0b v18 8
            have r86 := w3_r ((Z84 46 x0b v18 8) + (min ((w3 ((w3 ((Z 45 x0b (Z 46 x0b v18 0) 1) + (Z 45 x0b (Z 46 x0b v18 0) 3))) - (Z 45 x0b (Z 46 x0b v18 0) 4))) / (x9 - (x8 * (min ((x9 - x6) / x8) ((((max 0 (x9 - v8)) + x8) - 1) / x8))))) (min (Z 44 x0b x4 4) (Z 46 x0b v18 6))))
            obtain ⟨Z87, hZ87⟩ := zx (zu Z84 46 x0b v18 8 (w3 ((Z84 46 x0b v18 8) + (min ((w3 ((w3 ((Z 45 x0b (Z 46 x0b v18 0) 1) + (Z 45 x0b (Z 46 x0b v18 0) 3))) - (Z 45 x0b (Z 46 x0b v18 0) 4))) / (x9 - (x8 * (min ((x9 - x6) / x8) ((((max 0 (x9 - v8)) + x8) - 1) / x8))))) (min (Z 44 x0b x4 4) (Z 46 x0b v18 6))))))
            replace hP := zl_e hP hZ87
            have hZ87I := zH_u hZ84I hZ87 (lo := -2147483648) (hi := 2147483647) (by decide) rfl (by omega) ⟨by decide, by decide⟩ (Or.inl (by decide)) rfl
            have hZ87U : zU [x0b] Zs Z87 := zU_u hZ84U hZ87 (Or.inr (List.Mem.head _))
            have hZ87K : zC [14, 42, 44, 45, 46, 47, 48, 53, 1106, 1112] Zs Z87 := zC_u hZ84K hZ87 (by decide)
            intro μ9 e9
            replace e9 := e9.trans (zm_wI (Z := Z84) (ν := ν) hZ87 (rfl : ((x0b : Nat) : Int) = x0b) (i3I (y := v18) (rfl : i3 v18 = i3 v18) (by omega) (by omega) (by omega)) (show ((8 : Nat) : Int) = 8 from rfl) (i3W (i3A (zm_rd (Z := Z84) (ν := ν) (k := 46) (rfl : ((x0b : Nat) : Int) = x0b) (i3I (y := v18) (rfl : i3 v18 = i3 v18) (by omega) (by omega) (by omega)) (show ((8 : Nat) : Int) = 8 from rfl)) (i3Mn (i3D (i3W (i3S (i3W (i3A (zm_rd (Z := Z) (ν := ν) (k := 45) (rfl : ((x0b : Nat) : Int) = x0b) (i3I (y := (Z 46 x0b v18 0)) (zm_rd (Z := Z) (ν := ν) (k := 46) (rfl : ((x0b : Nat) : Int) = x0b) (i3I (y := v18) (rfl : i3 v18 = i3 v18) (by omega) (by omega) (by omega)) (show ((0 : Nat) : Int) = 0 from rfl)) (by omega) (by omega) (by omega)) (show ((1 : Nat) : Int) = 1 from rfl)) (zm_rd (Z := Z) (ν := ν) (k := 45) (rfl : ((x0b : Nat) : Int) = x0b) (i3I (y := (Z 46 x0b v18 0)) (zm_rd (Z := Z) (ν := ν) (k := 46) (rfl : ((x0b : Nat) : Int) = x0b) (i3I (y := v18) (rfl : i3 v18 = i3 v18) (by omega) (by omega) (by omega)) (show ((0 : Nat) : Int) = 0 from rfl)) (by omega) (by omega) (by omega)) (show ((3 : Nat) : Int) = 3 from rfl)))) (zm_rd (Z := Z) (ν := ν) (k := 45) (rfl : ((x0b : Nat) : Int) = x0b) (i3I (y := (Z 46 x0b v18 0)) (zm_rd (Z := Z) (ν := ν) (k := 46) (rfl : ((x0b : Nat) : Int) = x0b) (i3I (y := v18) (rfl : i3 v18 = i3 v18) (by omega) (by omega) (by omega)) (show ((0 : Nat) : Int) = 0 from rfl)) (by omega) (by omega) (by omega)) (show ((4 : Nat) : Int) = 4 from rfl)))) (i3S (rfl : i3 x9 = i3 x9) (i3M (rfl : i3 x8 = i3 x8) (i3Mn (i3D (i3S (rfl : i3 x9 = i3 x9) (rfl : i3 x6 = i3 x6)) (rfl : i3 x8 = i3 x8) (by omega) (by omega) (by omega) (by omega)) (i3D (i3S (i3A (i3Mx (show (0 : Int32) = i3 0 from rfl) (i3S (rfl : i3 x9 = i3 x9) (rfl : i3 v8 = i3 v8)) (by omega) (by omega) (by omega) (by omega)) (rfl : i3 x8 = i3 x8)) (show (1 : Int32) = i3 1 from rfl)) (rfl : i3 x8 = i3 x8) (by omega) (by omega) (by omega) (by omega)) (by omega) (by omega) (by omega) (by omega)))) (by omega) (by omega) (by omega) (by omega)) (i3Mn (zm_rd (Z := Z) (ν := ν) (k := 44) (rfl : ((x0b : Nat) : Int) = x0b) (i3I (y := x4) (rfl : i3 x4 = i3 x4) (by omega) (by omega) (by omega)) (show ((4 : Nat) : Int) = 4 from rfl)) (zm_rd (Z := Z) (ν := ν) (k := 46) (rfl : ((x0b : Nat) : Int) = x0b) (i3I (y := v18) (rfl : i3 v18 = i3 v18) (by omega) (by omega) (by omega)) (show ((6 : Nat) : Int) = 6 from rfl)) (by omega) (by omega) (by omega) (by omega)) (by omega) (by omega) (by omega) (by omega)))))
            subst e9
            have r88 := zH_f hZ87I 45 x0b (Z 46 x0b v18 0) 4
            have q89 := (zu_ne (k' := 45) (b' := x0b) (i' := (Z 46 x0b v18 0)) (j' := 4) hZ87 (fun q => absurd q.1 (by decide))).trans ((zu_ne (k' := 45) (b' := x0b) (i' := (Z 46 x0b v18 0)) (j' := 4) hZ84 (fun q => absurd q.1 (by decide))).trans ((zu_ne (k' := 45) (b' := x0b) (i' := (Z 46 x0b v18 0)) (j' := 4) hZ81 (fun q => absurd q.1 (by decide))).trans ((zu_ne (k' := 45) (b' := x0b) (i' := (Z 46 x0b v18 0)) (j' := 4) hZ76 (fun q => absurd q.1 (by decide))).trans ((zu_ne (k' := 45) (b' := x0b) (i' := (Z 46 x0b v18 0)) (j' := 4) hZ73 (fun q => absurd q.1 (by decide))).trans ((zu_ne (k' := 45) (b' := x0b) (i' := (Z 46 x0b v18 0)) (j' := 4) hZ69 (fun q => absurd q.1 (by decide))).trans ((zu_ne (k' := 45) (b' := x0b) (i' := (Z 46 x0b v18 0)) (j' := 4) hZ66 (fun q => absurd q.1 (by decide))).trans ((zu_ne (k' := 45) (b' := x0b) (i' := (Z 46 x0b v18 0)) (j' := 4) hZ64 (fun q => absurd q.1 (by decide))).trans ((zu_ne (k' := 45) (b' := x0b) (i' := (Z 46 x0b v18 0)) (j' := 4) hZ63 (fun q => absurd q.1 (by decide))).trans ((zu_ne (k' := 45) (b' := x0b) (i' := (Z 46 x0b v18 0)) (j' := 4) hZ62 (fun q => absurd q.1 (by decide))).trans ((zu_ne (k' := 45) (b' := x0b) (i' := (Z 46 x0b v18 0)) (j' := 4) hZ61 (fun q => absurd q.1 (by decide))).trans ((zu_ne (k' := 45) (b' := x0b) (i' := (Z 46 x0b v18 0)) (j' := 4) hZ57 (fun q => absurd q.1 (by decide))).trans ((zu_ne (k' := 45) (b' := x0b) (i' := (Z 46 x0b v18 0)) (j' := 4) hZ54 (fun q => absurd q.1 (by decide))).trans ((zu_ne (k' := 45) (b' := x0b) (i' := (Z 46 x0b v18 0)) (j' := 4) hZ53 (fun q => absurd q.1 (by decide))).trans ((zu_ne (k' := 45) (b' := x0b) (i' := (Z 46 x0b v18 0)) (j' := 4) hZ51 (fun q => absurd q.1 (by decide))).trans ((zu_ne (k' := 45) (b' := x0b) (i' := (Z 46 x0b v18 0)) (j' := 4) hZ49 (fun q => absurd q.1 (by decide))).trans ((zu_ne (k' := 45) (b' := x0b) (i' := (Z 46 x0b v18 0)) (j' := 4) hZ47 (fun q => absurd q.1 (by decide))).trans ((zu_ne (k' := 45) (b' := x0b) (i' := (Z 46 x0b v18 0)) (j' := 4) hZ46 (fun q => absurd q.1 (by decide))).trans ((zu_ne (k' := 45) (b' := x0b) (i' := (Z 46 x0b v18 0)) (j' := 4) hZ37 (fun q => absurd q.1 (by decide))).trans ((zu_ne (k' := 45) (b' := x0b) (i' := (Z 46 x0b v18 0)) (j' := 4) hZ32 (fun q => absurd q.1 (by decide))).trans ((zu_ne (k' := 45) (b' := x0b) (i' := (Z 46 x0b v18 0)) (j' := 4) hZ31 (fun q => absurd q.1 (by decide))).trans ((zu_ne (k' := 45) (b' := x0b) (i' := (Z 46 x0b v18 0)) (j' := 4) hZ28 (fun q => absurd q.1 (by decide))).trans (zu_ne (k' := 45) (b' := x0b) (i' := (Z 46 x0b v18 0)) (j' := 4) hZ27 (fun q => absurd q.1 (by decide))))))))))))))))))))))))
            have r90 := zH_k hZ87I 47 x0b (Z 11 x0b 0 6) 18 (lo := 0) (hi := 399960) (by decide) rfl
            have q91 := (zu_ne (k' := 47) (b' := x0b) (i' := (Z 11 x0b 0 6)) (j' := 18) hZ87 (fun q => absurd q.1 (by decide))).trans ((zu_ne (k' := 47) (b' := x0b) (i' := (Z 11 x0b 0 6)) (j' := 18) hZ84 (fun q => absurd q.1 (by decide))).trans ((zu_ne (k' := 47) (b' := x0b) (i' := (Z 11 x0b 0 6)) (j' := 18) hZ81 (fun q => absurd q.1 (by decide))).trans ((zu_ne (k' := 47) (b' := x0b) (i' := (Z 11 x0b 0 6)) (j' := 18) hZ76 (fun q => absurd q.1 (by decide))).trans ((zu_ne (k' := 47) (b' := x0b) (i' := (Z 11 x0b 0 6)) (j' := 18) hZ73 (fun q => absurd q.2.2.2 (by decide))).trans (zu_ne (k' := 47) (b' := x0b) (i' := (Z 11 x0b 0 6)) (j' := 18) hZ69 (fun q => absurd q.2.2.2 (by decide)))))))
            have r92 := w3_r ((Z87 45 x0b (Z 46 x0b v18 0) 4) + (Z87 47 x0b (Z 11 x0b 0 6) 18))
            obtain ⟨Z93, hZ93⟩ := zx (zu Z87 45 x0b (Z 46 x0b v18 0) 4 (w3 ((Z87 45 x0b (Z 46 x0b v18 0) 4) + (Z87 47 x0b (Z 11 x0b 0 6) 18))))
            replace hP := zl_e hP hZ93
            have hZ93I := zH_u hZ87I hZ93 (lo := -2147483648) (hi := 2147483647) (by decide) rfl (by omega) ⟨by decide, by decide⟩ (Or.inl (by decide)) rfl
            have hZ93U : zU [x0b] Zs Z93 := zU_u hZ87U hZ93 (Or.inr (List.Mem.head _))
            have hZ93K : zC [14, 42, 44, 45, 46, 47, 48, 53, 1106, 1112] Zs Z93 := zC_u hZ87K hZ93 (by decide)
            intro μ9 e9
            replace e9 := e9.trans (zm_wI (Z := Z87) (ν := ν) hZ93 (rfl : ((x0b : Nat) : Int) = x0b) (i3I (y := (Z 46 x0b v18 0)) (zm_rd (Z := Z) (ν := ν) (k := 46) (rfl : ((x0b : Nat) : Int) = x0b) (i3I (y := v18) (rfl : i3 v18 = i3 v18) (by omega) (by omega) (by omega)) (show ((0 : Nat) : Int) = 0 from rfl)) (by omega) (by omega) (by omega)) (show ((4 : Nat) : Int) = 4 from rfl) (i3W (i3A (zm_rd (Z := Z87) (ν := ν) (k := 45) (rfl : ((x0b : Nat) : Int) = x0b) (i3I (y := (Z 46 x0b v18 0)) (zm_rd (Z := Z) (ν := ν) (k := 46) (rfl : ((x0b : Nat) : Int) = x0b) (i3I (y := v18) (rfl : i3 v18 = i3 v18) (by omega) (by omega) (by omega)) (show ((0 : Nat) : Int) = 0 from rfl)) (by omega) (by omega) (by omega)) (show ((4 : Nat) : Int) = 4 from rfl)) (zm_rd (Z := Z87) (ν := ν) (k := 47) (rfl : ((x0b : Nat) : Int) = x0b) (i3I (y := (Z 11 x0b 0 6)) (zm_rd (Z := Z) (ν := ν) (k := 11) (rfl : ((x0b : Nat) : Int) = x0b) (show ((0 : Nat) : Int) = 0 from rfl) (show ((6 : Nat) : Int) = 6 from rfl)) (by omega) (by omega) (by omega)) (show ((18 : Nat) : Int) = 18 from rfl)))))
            subst e9
            have r94 := zH_f hZ93I 45 x0b (Z 46 x0b v18 0) 9
            have r95 := w3_r ((Z93 45 x0b (Z 46 x0b v18 0) 9) + (min ((w3 ((w3 ((Z 45 x0b (Z 46 x0b v18 0) 1) + (Z 45 x0b (Z 46 x0b v18 0) 3))) - (Z 45 x0b (Z 46 x0b v18 0) 4))) / (x9 - (x8 * (min ((x9 - x6) / x8) ((((max 0 (x9 - v8)) + x8) - 1) / x8))))) (min (Z 44 x0b x4 4) (Z 46 x0b v18 6))))
            obtain ⟨Z96, hZ96⟩ := zx (zu Z93 45 x0b (Z 46 x0b v18 0) 9 (w3 ((Z93 45 x0b (Z 46 x0b v18 0) 9) + (min ((w3 ((w3 ((Z 45 x0b (Z 46 x0b v18 0) 1) + (Z 45 x0b (Z 46 x0b v18 0) 3))) - (Z 45 x0b (Z 46 x0b v18 0) 4))) / (x9 - (x8 * (min ((x9 - x6) / x8) ((((max 0 (x9 - v8)) + x8) - 1) / x8))))) (min (Z 44 x0b x4 4) (Z 46 x0b v18 6))))))
            replace hP := zl_e hP hZ96
            have hZ96I := zH_u hZ93I hZ96 (lo := -2147483648) (hi := 2147483647) (by decide) rfl (by omega) ⟨by decide, by decide⟩ (Or.inl (by decide)) rfl
            have hZ96U : zU [x0b] Zs Z96 := zU_u hZ93U hZ96 (Or.inr (List.Mem.head _))
            have hZ96K : zC [14, 42, 44, 45, 46, 47, 48, 53, 1106, 1112] Zs Z96 := zC_u hZ93K hZ96 (by decide)
            intro μ9 e9
            replace e9 := e9.trans (zm_wI (Z := Z93) (ν := ν) hZ96 (rfl : ((x0b : Nat) : Int) = x0b) (i3I (y := (Z 46 x0b v18 0)) (zm_rd (Z := Z) (ν := ν) (k := 46) (rfl : ((x0b : Nat) : Int) = x0b) (i3I (y := v18) (rfl : i3 v18 = i3 v18) (by omega) (by omega) (by omega)) (show ((0 : Nat) : Int) = 0 from rfl)) (by omega) (by omega) (by omega)) (show ((9 : Nat) : Int) = 9 from rfl) (i3W (i3A (zm_rd (Z := Z93) (ν := ν) (k := 45) (rfl : ((x0b : Nat) : Int) = x0b) (i3I (y := (Z 46 x0b v18 0)) (zm_rd (Z := Z) (ν := ν) (k := 46) (rfl : ((x0b : Nat) : Int) = x0b) (i3I (y := v18) (rfl : i3 v18 = i3 v18) (by omega) (by omega) (by omega)) (show ((0 : Nat) : Int) = 0 from rfl)) (by omega) (by omega) (by omega)) (show ((9 : Nat) : Int) = 9 from rfl)) (i3Mn (i3D (i3W (i3S (i3W (i3A (zm_rd (Z := Z) (ν := ν) (k := 45) (rfl : ((x0b : Nat) : Int) = x0b) (i3I (y := (Z 46 x0b v18 0)) (zm_rd (Z := Z) (ν := ν) (k := 46) (rfl : ((x0b : Nat) : Int) = x0b) (i3I (y := v18) (rfl : i3 v18 = i3 v18) (by omega) (by omega) (by omega)) (show ((0 : Nat) : Int) = 0 from rfl)) (by omega) (by omega) (by omega)) (show ((1 : Nat) : Int) = 1 from rfl)) (zm_rd (Z := Z) (ν := ν) (k := 45) (rfl : ((x0b : Nat) : Int) = x0b) (i3I (y := (Z 46 x0b v18 0)) (zm_rd (Z := Z) (ν := ν) (k := 46) (rfl : ((x0b : Nat) : Int) = x0b) (i3I (y := v18) (rfl : i3 v18 = i3 v18) (by omega) (by omega) (by omega)) (show ((0 : Nat) : Int) = 0 from rfl)) (by omega) (by omega) (by omega)) (show ((3 : Nat) : Int) = 3 from rfl)))) (zm_rd (Z := Z) (ν := ν) (k := 45) (rfl : ((x0b : Nat) : Int) = x0b) (i3I (y := (Z 46 x0b v18 0)) (zm_rd (Z := Z) (ν := ν) (k := 46) (rfl : ((x0b : Nat) : Int) = x0b) (i3I (y := v18) (rfl : i3 v18 = i3 v18) (by omega) (by omega) (by omega)) (show ((0 : Nat) : Int) = 0 from rfl)) (by omega) (by omega) (by omega)) (show ((4 : Nat) : Int) = 4 from rfl)))) (i3S (rfl : i3 x9 = i3 x9) (i3M (rfl : i3 x8 = i3 x8) (i3Mn (i3D (i3S (rfl : i3 x9 = i3 x9) (rfl : i3 x6 = i3 x6)) (rfl : i3 x8 = i3 x8) (by omega) (by omega) (by omega) (by omega)) (i3D (i3S (i3A (i3Mx (show (0 : Int32) = i3 0 from rfl) (i3S (rfl : i3 x9 = i3 x9) (rfl : i3 v8 = i3 v8)) (by omega) (by omega) (by omega) (by omega)) (rfl : i3 x8 = i3 x8)) (show (1 : Int32) = i3 1 from rfl)) (rfl : i3 x8 = i3 x8) (by omega) (by omega) (by omega) (by omega)) (by omega) (by omega) (by omega) (by omega)))) (by omega) (by omega) (by omega) (by omega)) (i3Mn (zm_rd (Z := Z) (ν := ν) (k := 44) (rfl : ((x0b : Nat) : Int) = x0b) (i3I (y := x4) (rfl : i3 x4 = i3 x4) (by omega) (by omega) (by omega)) (show ((4 : Nat) : Int) = 4 from rfl)) (zm_rd (Z := Z) (ν := ν) (k := 46) (rfl : ((x0b : Nat) : Int) = x0b) (i3I (y := v18) (rfl : i3 v18 = i3 v18) (by omega) (by omega) (by omega)) (show ((6 : Nat) : Int) = 6 from rfl)) (by omega) (by omega) (by omega) (by omega)) (by omega) (by omega) (by omega) (by omega)))))
            subst e9
            obtain ⟨Z97, hZ97, c9, hZ97I, kZ97, jZ97⟩ := sp_6 (ν := ν) hZ96I x0b x0b _ (i3I (y := (Z 11 x0b 0 6)) (zm_rd (Z := Z) (ν := ν) (k := 11) (rfl : ((x0b : Nat) : Int) = x0b) (show ((0 : Nat) : Int) = 0 from rfl) (show ((6 : Nat) : Int) = 6 from rfl)) (by omega) (by omega) (by omega)) (by omega) (zbh (c := 0) (k := 2) hM9 (Nat.le_of_ble_eq_true rfl))
            have hZ97U : zU [x0b] Zs Z97 := zU_t hZ96U jZ97 (zU_b1 (List.Mem.head _) zU_b0)
            have hZ97K : zC [14, 42, 44, 45, 46, 47, 48, 53, 1106, 1112] Zs Z97 := zC_t hZ96K kZ97 (by decide)
            replace hP := zl_e hP hZ97
            refine wz_cV_of (zas (zcons rfl (zcons rfl rfl)) c9) ?_
            clear c9
            have r98 := zH_f hZ97I 48 x0b x2ij 9
            have r99 := w3_r ((Z97 48 x0b x2ij 9) + 1)
            obtain ⟨Z100, hZ100⟩ := zx (zu Z97 48 x0b x2ij 9 (w3 ((Z97 48 x0b x2ij 9) + 1)))
            replace hP := zl_e hP hZ100
            have hZ100I := zH_u hZ97I hZ100 (lo := -2147483648) (hi := 2147483647) (by decide) rfl (by omega) ⟨by decide, by decide⟩ (Or.inl (by decide)) rfl
            have hZ100U : zU [x0b] Zs Z100 := zU_u hZ97U hZ100 (Or.inr (List.Mem.head _))
            have hZ100K : zC [14, 42, 44, 45, 46, 47, 48, 53, 1106, 1112] Zs Z100 := zC_u hZ97K hZ100 (by decide)
            intro μ9 e9
            replace e9 := e9.trans (zm_wI (Z := Z97) (ν := ν) hZ100 (rfl : ((x0b : Nat) : Int) = x0b) ex2i (show ((9 : Nat) : Int) = 9 from rfl) (i3W (i3A (zm_rd (Z := Z97) (ν := ν) (k := 48) (rfl : ((x0b : Nat) : Int) = x0b) ex2i (show ((9 : Nat) : Int) = 9 from rfl)) (show (1 : Int32) = i3 1 from rfl))))
            subst e9
            refine wz_i1 rfl ?_
            refine wz_i0 (i3O (n := 21) (show (3 : Int32) = i3 3 from rfl) (by omega) (by omega) (by omega)) ?_
            have r101 := zH_f hZ100I 48 x0b x2ij 10
            have r102 := zH_k hZ100I 47 x0b (Z 11 x0b 0 6) 3 (lo := 0) (hi := 40) (by decide) rfl
            have q103 := (zu_ne (k' := 47) (b' := x0b) (i' := (Z 11 x0b 0 6)) (j' := 3) hZ100 (fun q => absurd q.1 (by decide))).trans ((kZ97 47 x0b (Z 11 x0b 0 6) 3 (by decide)).trans ((zu_ne (k' := 47) (b' := x0b) (i' := (Z 11 x0b 0 6)) (j' := 3) hZ96 (fun q => absurd q.1 (by decide))).trans ((zu_ne (k' := 47) (b' := x0b) (i' := (Z 11 x0b 0 6)) (j' := 3) hZ93 (fun q => absurd q.1 (by decide))).trans ((zu_ne (k' := 47) (b' := x0b) (i' := (Z 11 x0b 0 6)) (j' := 3) hZ87 (fun q => absurd q.1 (by decide))).trans ((zu_ne (k' := 47) (b' := x0b) (i' := (Z 11 x0b 0 6)) (j' := 3) hZ84 (fun q => absurd q.1 (by decide))).trans ((zu_ne (k' := 47) (b' := x0b) (i' := (Z 11 x0b 0 6)) (j' := 3) hZ81 (fun q => absurd q.1 (by decide))).trans ((zu_ne (k' := 47) (b' := x0b) (i' := (Z 11 x0b 0 6)) (j' := 3) hZ76 (fun q => absurd q.1 (by decide))).trans ((zu_ne (k' := 47) (b' := x0b) (i' := (Z 11 x0b 0 6)) (j' := 3) hZ73 (fun q => absurd q.2.2.2 (by decide))).trans ((zu_ne (k' := 47) (b' := x0b) (i' := (Z 11 x0b 0 6)) (j' := 3) hZ69 (fun q => absurd q.2.2.2 (by decide))).trans ((zu_ne (k' := 47) (b' := x0b) (i' := (Z 11 x0b 0 6)) (j' := 3) hZ66 (fun q => absurd q.2.2.2 (by decide))).trans ((zu_ne (k' := 47) (b' := x0b) (i' := (Z 11 x0b 0 6)) (j' := 3) hZ64 (fun q => absurd q.2.2.2 (by decide))).trans ((zu_ne (k' := 47) (b' := x0b) (i' := (Z 11 x0b 0 6)) (j' := 3) hZ63 (fun q => absurd q.2.2.2 (by decide))).trans ((zu_ne (k' := 47) (b' := x0b) (i' := (Z 11 x0b 0 6)) (j' := 3) hZ62 (fun q => absurd q.2.2.2 (by decide))).trans ((zu_ne (k' := 47) (b' := x0b) (i' := (Z 11 x0b 0 6)) (j' := 3) hZ61 (fun q => absurd q.2.2.2 (by decide))).trans ((zu_ne (k' := 47) (b' := x0b) (i' := (Z 11 x0b 0 6)) (j' := 3) hZ57 (fun q => absurd q.2.2.2 (by decide))).trans ((zu_ne (k' := 47) (b' := x0b) (i' := (Z 11 x0b 0 6)) (j' := 3) hZ54 (fun q => absurd q.2.2.2 (by decide))).trans ((zu_ne (k' := 47) (b' := x0b) (i' := (Z 11 x0b 0 6)) (j' := 3) hZ53 (fun q => absurd q.2.2.2 (by decide))).trans ((zu_ne (k' := 47) (b' := x0b) (i' := (Z 11 x0b 0 6)) (j' := 3) hZ51 (fun q => absurd q.2.2.2 (by decide))).trans ((zu_ne (k' := 47) (b' := x0b) (i' := (Z 11 x0b 0 6)) (j' := 3) hZ49 (fun q => absurd q.2.2.2 (by decide))).trans ((zu_ne (k' := 47) (b' := x0b) (i' := (Z 11 x0b 0 6)) (j' := 3) hZ47 (fun q => absurd q.2.2.2 (by decide))).trans ((zu_ne (k' := 47) (b' := x0b) (i' := (Z 11 x0b 0 6)) (j' := 3) hZ46 (fun q => absurd q.2.2.2 (by decide))).trans (zu_at hZ37))))))))))))))))))))))
            have r104 := w3_r ((Z100 48 x0b x2ij 10) + (Z100 47 x0b (Z 11 x0b 0 6) 3))
            obtain ⟨Z105, hZ105⟩ := zx (zu Z100 48 x0b x2ij 10 (w3 ((Z100 48 x0b x2ij 10) + (Z100 47 x0b (Z 11 x0b 0 6) 3))))
            replace hP := zl_e hP hZ105
            have hZ105I := zH_u hZ100I hZ105 (lo := -2147483648) (hi := 2147483647) (by decide) rfl (by omega) ⟨by decide, by decide⟩ (Or.inl (by decide)) rfl
            have hZ105U : zU [x0b] Zs Z105 := zU_u hZ100U hZ105 (Or.inr (List.Mem.head _))
            have hZ105K : zC [14, 42, 44, 45, 46, 47, 48, 53, 1106, 1112] Zs Z105 := zC_u hZ100K hZ105 (by decide)
            intro μ9 e9
            replace e9 := e9.trans (zm_wI (Z := Z100) (ν := ν) hZ105 (rfl : ((x0b : Nat) : Int) = x0b) ex2i (show ((10 : Nat) : Int) = 10 from rfl) (i3W (i3A (zm_rd (Z := Z100) (ν := ν) (k := 48) (rfl : ((x0b : Nat) : Int) = x0b) ex2i (show ((10 : Nat) : Int) = 10 from rfl)) (zm_rd (Z := Z100) (ν := ν) (k := 47) (rfl : ((x0b : Nat) : Int) = x0b) (i3I (y := (Z 11 x0b 0 6)) (zm_rd (Z := Z) (ν := ν) (k := 11) (rfl : ((x0b : Nat) : Int) = x0b) (show ((0 : Nat) : Int) = 0 from rfl) (show ((6 : Nat) : Int) = 6 from rfl)) (by omega) (by omega) (by omega)) (show ((3 : Nat) : Int) = 3 from rfl)))))
            subst e9
            refine wz_i1 rfl ?_
            refine wz_i0 (i3O (n := 21) (show (18 : Int32) = i3 18 from rfl) (by omega) (by omega) (by omega)) ?_
            have r106 := zH_f hZ105I 48 x0b x2ij 11
            have r107 := zH_k hZ105I 47 x0b (Z 11 x0b 0 6) 18 (lo := 0) (hi := 399960) (by decide) rfl
            have q108 := (zu_ne (k' := 47) (b' := x0b) (i' := (Z 11 x0b 0 6)) (j' := 18) hZ105 (fun q => absurd q.1 (by decide))).trans ((zu_ne (k' := 47) (b' := x0b) (i' := (Z 11 x0b 0 6)) (j' := 18) hZ100 (fun q => absurd q.1 (by decide))).trans ((kZ97 47 x0b (Z 11 x0b 0 6) 18 (by decide)).trans ((zu_ne (k' := 47) (b' := x0b) (i' := (Z 11 x0b 0 6)) (j' := 18) hZ96 (fun q => absurd q.1 (by decide))).trans (zu_ne (k' := 47) (b' := x0b) (i' := (Z 11 x0b 0 6)) (j' := 18) hZ93 (fun q => absurd q.1 (by decide))))))
            have r109 := w3_r ((Z105 48 x0b x2ij 11) + (Z105 47 x0b (Z 11 x0b 0 6) 18))
            obtain ⟨Z110, hZ110⟩ := zx (zu Z105 48 x0b x2ij 11 (w3 ((Z105 48 x0b x2ij 11) + (Z105 47 x0b (Z 11 x0b 0 6) 18))))
            replace hP := zl_e hP hZ110
            have hZ110I := zH_u hZ105I hZ110 (lo := -2147483648) (hi := 2147483647) (by decide) rfl (by omega) ⟨by decide, by decide⟩ (Or.inl (by decide)) rfl
            have hZ110U : zU [x0b] Zs Z110 := zU_u hZ105U hZ110 (Or.inr (List.Mem.head _))
            have hZ110K : zC [14, 42, 44, 45, 46, 47, 48, 53, 1106, 1112] Zs Z110 := zC_u hZ105K hZ110 (by decide)
            intro μ9 e9
            replace e9 := e9.trans (zm_wI (Z := Z105) (ν := ν) hZ110 (rfl : ((x0b : Nat) : Int) = x0b) ex2i (show ((11 : Nat) : Int) = 11 from rfl) (i3W (i3A (zm_rd (Z := Z105) (ν := ν) (k := 48) (rfl : ((x0b : Nat) : Int) = x0b) ex2i (show ((11 : Nat) : Int) = 11 from rfl)) (zm_rd (Z := Z105) (ν := ν) (k := 47) (rfl : ((x0b : Nat) : Int) = x0b) (i3I (y := (Z 11 x0b 0 6)) (zm_rd (Z := Z) (ν := ν) (k := 11) (rfl : ((x0b : Nat) : Int) = x0b) (show ((0 : Nat) : Int) = 0 from rfl) (show ((6 : Nat) : Int) = 6 from rfl)) (by omega) (by omega) (by omega)) (show ((18 : Nat) : Int) = 18 from rfl)))))
            subst e9
            have r111 := zH_k hZ110I 48 x0b x1 5 (lo := 0) (hi := 12) (by decide) rfl
            have q112 := (zu_ne (k' := 48) (b' := x0b) (i' := x1) (j' := 5) hZ110 (fun q => absurd q.2.2.2 (by decide))).trans ((zu_ne (k' := 48) (b' := x0b) (i' := x1) (j' := 5) hZ105 (fun q => absurd q.2.2.2 (by decide))).trans ((zu_ne (k' := 48) (b' := x0b) (i' := x1) (j' := 5) hZ100 (fun q => absurd q.2.2.2 (by decide))).trans ((kZ97 48 x0b x1 5 (by decide)).trans ((zu_ne (k' := 48) (b' := x0b) (i' := x1) (j' := 5) hZ96 (fun q => absurd q.1 (by decide))).trans ((zu_ne (k' := 48) (b' := x0b) (i' := x1) (j' := 5) hZ93 (fun q => absurd q.1 (by decide))).trans ((zu_ne (k' := 48) (b' := x0b) (i' := x1) (j' := 5) hZ87 (fun q => absurd q.1 (by decide))).trans ((zu_ne (k' := 48) (b' := x0b) (i' := x1) (j' := 5) hZ84 (fun q => absurd q.1 (by decide))).trans ((zu_ne (k' := 48) (b' := x0b) (i' := x1) (j' := 5) hZ81 (fun q => absurd q.1 (by decide))).trans ((zu_ne (k' := 48) (b' := x0b) (i' := x1) (j' := 5) hZ76 (fun q => absurd q.1 (by decide))).trans ((zu_ne (k' := 48) (b' := x0b) (i' := x1) (j' := 5) hZ73 (fun q => absurd q.1 (by decide))).trans ((zu_ne (k' := 48) (b' := x0b) (i' := x1) (j' := 5) hZ69 (fun q => absurd q.1 (by decide))).trans ((zu_ne (k' := 48) (b' := x0b) (i' := x1) (j' := 5) hZ66 (fun q => absurd q.1 (by decide))).trans ((zu_ne (k' := 48) (b' := x0b) (i' := x1) (j' := 5) hZ64 (fun q => absurd q.1 (by decide))).trans ((zu_ne (k' := 48) (b' := x0b) (i' := x1) (j' := 5) hZ63 (fun q => absurd q.1 (by decide))).trans ((zu_ne (k' := 48) (b' := x0b) (i' := x1) (j' := 5) hZ62 (fun q => absurd q.1 (by decide))).trans ((zu_ne (k' := 48) (b' := x0b) (i' := x1) (j' := 5) hZ61 (fun q => absurd q.1 (by decide))).trans ((zu_ne (k' := 48) (b' := x0b) (i' := x1) (j' := 5) hZ57 (fun q => absurd q.1 (by decide))).trans ((zu_ne (k' := 48) (b' := x0b) (i' := x1) (j' := 5) hZ54 (fun q => absurd q.1 (by decide))).trans ((zu_ne (k' := 48) (b' := x0b) (i' := x1) (j' := 5) hZ53 (fun q => absurd q.1 (by decide))).trans ((zu_ne (k' := 48) (b' := x0b) (i' := x1) (j' := 5) hZ51 (fun q => absurd q.1 (by decide))).trans ((zu_ne (k' := 48) (b' := x0b) (i' := x1) (j' := 5) hZ49 (fun q => absurd q.1 (by decide))).trans ((zu_ne (k' := 48) (b' := x0b) (i' := x1) (j' := 5) hZ47 (fun q => absurd q.1 (by decide))).trans ((zu_ne (k' := 48) (b' := x0b) (i' := x1) (j' := 5) hZ46 (fun q => absurd q.1 (by decide))).trans ((zu_ne (k' := 48) (b' := x0b) (i' := x1) (j' := 5) hZ37 (fun q => absurd q.1 (by decide))).trans ((zu_ne (k' := 48) (b' := x0b) (i' := x1) (j' := 5) hZ32 (fun q => absurd q.1 (by decide))).trans ((zu_ne (k' := 48) (b' := x0b) (i' := x1) (j' := 5) hZ31 (fun q => absurd q.1 (by decide))).trans ((zu_ne (k' := 48) (b' := x0b) (i' := x1) (j' := 5) hZ28 (fun q => absurd q.1 (by decide))).trans (zu_ne (k' := 48) (b' := x0b) (i' := x1) (j' := 5) hZ27 (fun q => absurd q.1 (by decide))))))))))))))))))))))))))))))
            obtain ⟨m2, rfl⟩ : ∃ m2, m = m2 + 1 := ⟨m - 1, by omega⟩
            exact wz_k1 ⟨m2, by omega, xM9 + 2, Z110, (x9 - (x8 * (min ((x9 - x6) / x8) ((((max 0 (x9 - v8)) + x8) - 1) / x8)))), (x10 + 1), (zconso rfl (zconso (zvo (rfl : i3 x1 = i3 x1)) (zconso rfl (zconso rfl (zconso (zvo (rfl : i3 x4 = i3 x4)) (zconso (zvo (rfl : i3 x5 = i3 x5)) (zconso (zvo (rfl : i3 x6 = i3 x6)) (zconso rfl (zconso (zvo (rfl : i3 x8 = i3 x8)) (zconso (zvo (i3S (rfl : i3 x9 = i3 x9) (i3M (rfl : i3 x8 = i3 x8) (i3Mn (i3D (i3S (rfl : i3 x9 = i3 x9) (rfl : i3 x6 = i3 x6)) (rfl : i3 x8 = i3 x8) (by omega) (by omega) (by omega) (by omega)) (i3D (i3S (i3A (i3Mx (show (0 : Int32) = i3 0 from rfl) (i3S (rfl : i3 x9 = i3 x9) (rfl : i3 v8 = i3 v8)) (by omega) (by omega) (by omega) (by omega)) (rfl : i3 x8 = i3 x8)) (show (1 : Int32) = i3 1 from rfl)) (rfl : i3 x8 = i3 x8) (by omega) (by omega) (by omega) (by omega)) (by omega) (by omega) (by omega) (by omega))))) (zconso (zvo (i3A (rfl : i3 x10 = i3 x10) (show (1 : Int32) = i3 1 from rfl))) (zconso rfl (zconso rfl (zconso rfl (zconso rfl (zconso rfl rfl)))))))))))))))), rfl, by omega, (zbt hZ110I rfl), hZ110K, hZ110U, (zLt_o (zLt_o (zLt_o (zLt_c (zLt_o (zLt_o (zLt_o (zLt_o (zLt_o (zLt_o (zLt_o (zLt_o (zLt_o (zLt_o (zLt_o (zLt_o (zLt_o (zLt_o (zLt_o (zLt_o (zLt_o (zLt_o (zLt_o (zLt_o (zLt_o (zLt_o (zLt_o (zLt_o (zLt_o hLtx0b hZ27 ⟨by decide, .inl (by decide)⟩) hZ28 ⟨by decide, .inl (by decide)⟩) hZ31 ⟨by decide, .inl (by decide)⟩) hZ32 ⟨by decide, .inl (by decide)⟩) hZ37 ⟨by decide, .inl (by decide)⟩) hZ46 ⟨by decide, .inl (by decide)⟩) hZ47 ⟨by decide, .inl (by decide)⟩) hZ49 ⟨by decide, .inl (by decide)⟩) hZ51 ⟨by decide, .inl (by decide)⟩) hZ53 ⟨by decide, .inl (by decide)⟩) hZ54 ⟨by decide, .inl (by decide)⟩) hZ57 ⟨by decide, .inl (by decide)⟩) hZ61 ⟨by decide, .inl (by decide)⟩) hZ62 ⟨by decide, .inl (by decide)⟩) hZ63 ⟨by decide, .inl (by decide)⟩) hZ64 ⟨by decide, .inl (by decide)⟩) hZ66 ⟨by decide, .inl (by decide)⟩) hZ69 ⟨by decide, .inl (by decide)⟩) hZ73 ⟨by decide, .inl (by decide)⟩) hZ76 ⟨by decide, .inl (by decide)⟩) hZ81 ⟨by decide, .inl (by decide)⟩) hZ84 ⟨by decide, .inl (by decide)⟩) hZ87 ⟨by decide, .inl (by decide)⟩) hZ93 ⟨by decide, .inl (by decide)⟩) hZ96 ⟨by decide, .inl (by decide)⟩) kZ97 rfl) hZ100 ⟨by decide, .inr (by decide)⟩) hZ105 ⟨by decide, .inr (by decide)⟩) hZ110 ⟨by decide, .inr (by decide)⟩), by omega, by omega, by omega, by omega, by omega, by omega, by omega, by omega,  hP⟩
          · replace hP := zE_n hP h25
            exact hk _ _ _ _ (zconso rfl (zconso (zvo (rfl : i3 x1 = i3 x1)) (zconso rfl (zconso rfl (zconso (zvo (rfl : i3 x4 = i3 x4)) (zconso rfl (zconso rfl (zconso rfl (zconso rfl (zconso (zvo (i3S (rfl : i3 x9 = i3 x9) (i3M (rfl : i3 x8 = i3 x8) (i3Mn (i3D (i3S (rfl : i3 x9 = i3 x9) (rfl : i3 x6 = i3 x6)) (rfl : i3 x8 = i3 x8) (by omega) (by omega) (by omega) (by omega)) (i3D (i3S (i3A (i3Mx (show (0 : Int32) = i3 0 from rfl) (i3S (rfl : i3 x9 = i3 x9) (rfl : i3 v8 = i3 v8)) (by omega) (by omega) (by omega) (by omega)) (rfl : i3 x8 = i3 x8)) (show (1 : Int32) = i3 1 from rfl)) (rfl : i3 x8 = i3 x8) (by omega) (by omega) (by omega) (by omega)) (by omega) (by omega) (by omega) (by omega))))) (zconso rfl (zconso rfl (zconso rfl (zconso rfl (zconso rfl (zconso rfl rfl)))))))))))))))) (zbx0 hZ (by omega)) hK hU hLtx0b (by omega) (by omega) (by omega) (by omega) (by omega) (by omega) (by omega) hP
        · replace hP := zE_n hP h11
          have r113 := z_mulmin (x := x8) (y := ((x9 - x6) / x8)) (z := ((((max 0 (x9 - v8)) + x8) - 1) / x8)) (by omega)
          have r114 := z_mulmin (x := x8) (y := ((((max 0 (x9 - v8)) + x8) - 1) / x8)) (z := ((x9 - x6) / x8)) (by omega)
          have r115 := z_mulq (x := x8) (y := (x9 - x6)) (by omega)
          have r116 := z_mulq (x := x8) (y := (((max 0 (x9 - v8)) + x8) - 1)) (by omega)
          have r117 := z_mul (x := x8) (y := (min ((x9 - x6) / x8) ((((max 0 (x9 - v8)) + x8) - 1) / x8))) (a := 500) (b := 9999) (by omega) (by omega) (by omega) (by omega)
          exact hk _ _ _ _ (zconso rfl (zconso (zvo (rfl : i3 x1 = i3 x1)) (zconso rfl (zconso rfl (zconso (zvo (rfl : i3 x4 = i3 x4)) (zconso rfl (zconso rfl (zconso rfl (zconso rfl (zconso (zvo (i3S (rfl : i3 x9 = i3 x9) (i3M (rfl : i3 x8 = i3 x8) (i3Mn (i3D (i3S (rfl : i3 x9 = i3 x9) (rfl : i3 x6 = i3 x6)) (rfl : i3 x8 = i3 x8) (by omega) (by omega) (by omega) (by omega)) (i3D (i3S (i3A (i3Mx (show (0 : Int32) = i3 0 from rfl) (i3S (rfl : i3 x9 = i3 x9) (rfl : i3 v8 = i3 v8)) (by omega) (by omega) (by omega) (by omega)) (rfl : i3 x8 = i3 x8)) (show (1 : Int32) = i3 1 from rfl)) (rfl : i3 x8 = i3 x8) (by omega) (by omega) (by omega) (by omega)) (by omega) (by omega) (by omega) (by omega))))) (zconso rfl (zconso rfl (zconso rfl (zconso rfl (zconso rfl (zconso rfl rfl)))))))))))))))) (zbx0 hZ (by omega)) hK hU hLtx0b (by omega) (by omega) (by omega) (by omega) (by omega) (by omega) (by omega) hP
      · replace hP := zE_n hP h7
        obtain ⟨v118, hv118, c9, lv118, uv118⟩ := sp_26 (ν := ν) hZ x0b x0b _ ex7i (by omega) (zbh (c := 0) (k := 0) hM9 (Nat.le_of_ble_eq_true rfl))
        replace hP := zl_e hP hv118
        refine wz_cI_of (zas (zcons rfl (zcons rfl rfl)) c9) ?_
        clear c9
        refine wz_i0 (i3N0 (rfl : i3 x8 = i3 x8) (by omega) (by omega) (by omega)) ?_
        refine wz_i0 (i3N0 (rfl : i3 x8 = i3 x8) (by omega) (by omega) (by omega)) ?_
        have r119 := zH_k hZ 48 x0b x2ij 4 (lo := 0) (hi := 9) (by decide) rfl
        have r120 := z_mul (x := (Z 48 x0b x2ij 4)) (y := x8) (a := 9) (b := 500) (by omega) (by omega) (by omega) (by omega)
        have r121 := z_div (x := (((max 0 ((min (x9 + ((Z 48 x0b x2ij 4) * x8)) x5) - v118)) + x8) - 1)) (y := x8) (by omega) (by omega)
        have r122 := z_div (x := ((min (x9 + ((Z 48 x0b x2ij 4) * x8)) x5) - x6)) (y := x8) (by omega) (by omega)
        refine wz_br (i3Le (i3D (i3S (i3A (i3Mx (show (0 : Int32) = i3 0 from rfl) (i3S (i3Mn (i3A (rfl : i3 x9 = i3 x9) (i3M (zm_rd (Z := Z) (ν := ν) (k := 48) (rfl : ((x0b : Nat) : Int) = x0b) ex2i (show ((4 : Nat) : Int) = 4 from rfl)) (rfl : i3 x8 = i3 x8))) (rfl : i3 x5 = i3 x5) (by omega) (by omega) (by omega) (by omega)) (rfl : i3 v118 = i3 v118)) (by omega) (by omega) (by omega) (by omega)) (rfl : i3 x8 = i3 x8)) (show (1 : Int32) = i3 1 from rfl)) (rfl : i3 x8 = i3 x8) (by omega) (by omega) (by omega) (by omega)) (i3D (i3S (i3Mn (i3A (rfl : i3 x9 = i3 x9) (i3M (zm_rd (Z := Z) (ν := ν) (k := 48) (rfl : ((x0b : Nat) : Int) = x0b) ex2i (show ((4 : Nat) : Int) = 4 from rfl)) (rfl : i3 x8 = i3 x8))) (rfl : i3 x5 = i3 x5) (by omega) (by omega) (by omega) (by omega)) (rfl : i3 x6 = i3 x6)) (rfl : i3 x8 = i3 x8) (by omega) (by omega) (by omega) (by omega)) (by omega) (by omega) (by omega) (by omega)) (fun h123 => ?_) (fun h123 => ?_)
        · replace hP := zE_p hP h123
          have r124 := z_mulmin (x := x8) (y := (((min (x9 + ((Z 48 x0b x2ij 4) * x8)) x5) - x6) / x8)) (z := ((((max 0 ((min (x9 + ((Z 48 x0b x2ij 4) * x8)) x5) - v118)) + x8) - 1) / x8)) (by omega)
          have r125 := z_mulmin (x := x8) (y := ((((max 0 ((min (x9 + ((Z 48 x0b x2ij 4) * x8)) x5) - v118)) + x8) - 1) / x8)) (z := (((min (x9 + ((Z 48 x0b x2ij 4) * x8)) x5) - x6) / x8)) (by omega)
          have r126 := z_mulq (x := x8) (y := ((min (x9 + ((Z 48 x0b x2ij 4) * x8)) x5) - x6)) (by omega)
          have r127 := z_mulq (x := x8) (y := (((max 0 ((min (x9 + ((Z 48 x0b x2ij 4) * x8)) x5) - v118)) + x8) - 1)) (by omega)
          have r128 := z_mul (x := x8) (y := (min (((min (x9 + ((Z 48 x0b x2ij 4) * x8)) x5) - x6) / x8) ((((max 0 ((min (x9 + ((Z 48 x0b x2ij 4) * x8)) x5) - v118)) + x8) - 1) / x8))) (a := 500) (b := 9999) (by omega) (by omega) (by omega) (by omega)
          have r129 : 1 ≤ ((min (x9 + ((Z 48 x0b x2ij 4) * x8)) x5) - (x8 * (min (((min (x9 + ((Z 48 x0b x2ij 4) * x8)) x5) - x6) / x8) ((((max 0 ((min (x9 + ((Z 48 x0b x2ij 4) * x8)) x5) - v118)) + x8) - 1) / x8)))) ∧ ((min (x9 + ((Z 48 x0b x2ij 4) * x8)) x5) - (x8 * (min (((min (x9 + ((Z 48 x0b x2ij 4) * x8)) x5) - x6) / x8) ((((max 0 ((min (x9 + ((Z 48 x0b x2ij 4) * x8)) x5) - v118)) + x8) - 1) / x8)))) ≤ 9999 := by omega
          obtain ⟨v130, hv130, c9, lv130, uv130, wv1300, wv1301⟩ := sp_34 (ν := ν) hZ x0b x0b _ ex7i (by omega) (a2 := ((min (x9 + ((Z 48 x0b x2ij 4) * x8)) x5) - (x8 * (min (((min (x9 + ((Z 48 x0b x2ij 4) * x8)) x5) - x6) / x8) ((((max 0 ((min (x9 + ((Z 48 x0b x2ij 4) * x8)) x5) - v118)) + x8) - 1) / x8))))) (by omega) (zbh (c := 0) (k := 0) hM9 (Nat.le_of_ble_eq_true rfl))
          replace hP := zl_e hP hv130
          refine wz_cI_of (zas (zcons rfl (zcons rfl (zcons (zvi (i3S (i3Mn (i3A (rfl : i3 x9 = i3 x9) (i3M (zm_rd (Z := Z) (ν := ν) (k := 48) (rfl : ((x0b : Nat) : Int) = x0b) ex2i (show ((4 : Nat) : Int) = 4 from rfl)) (rfl : i3 x8 = i3 x8))) (rfl : i3 x5 = i3 x5) (by omega) (by omega) (by omega) (by omega)) (i3M (rfl : i3 x8 = i3 x8) (i3Mn (i3D (i3S (i3Mn (i3A (rfl : i3 x9 = i3 x9) (i3M (zm_rd (Z := Z) (ν := ν) (k := 48) (rfl : ((x0b : Nat) : Int) = x0b) ex2i (show ((4 : Nat) : Int) = 4 from rfl)) (rfl : i3 x8 = i3 x8))) (rfl : i3 x5 = i3 x5) (by omega) (by omega) (by omega) (by omega)) (rfl : i3 x6 = i3 x6)) (rfl : i3 x8 = i3 x8) (by omega) (by omega) (by omega) (by omega)) (i3D (i3S (i3A (i3Mx (show (0 : Int32) = i3 0 from rfl) (i3S (i3Mn (i3A (rfl : i3 x9 = i3 x9) (i3M (zm_rd (Z := Z) (ν := ν) (k := 48) (rfl : ((x0b : Nat) : Int) = x0b) ex2i (show ((4 : Nat) : Int) = 4 from rfl)) (rfl : i3 x8 = i3 x8))) (rfl : i3 x5 = i3 x5) (by omega) (by omega) (by omega) (by omega)) (rfl : i3 v118 = i3 v118)) (by omega) (by omega) (by omega) (by omega)) (rfl : i3 x8 = i3 x8)) (show (1 : Int32) = i3 1 from rfl)) (rfl : i3 x8 = i3 x8) (by omega) (by omega) (by omega) (by omega)) (by omega) (by omega) (by omega) (by omega))))) rfl))) c9) ?_
          clear c9
          have r131 := zH_k hZ 11 x0b 0 6 (lo := 0) (hi := 60) (by decide) rfl
          have r132 := zH_k hZ 45 x0b (Z 46 x0b v130 0) 1 (lo := 0) (hi := 9999999) (by decide) rfl
          have r133 := zH_f hZ 45 x0b (Z 46 x0b v130 0) 3
          have r134 := zH_f hZ 45 x0b (Z 46 x0b v130 0) 4
          have w135 : v130 = -1 ∨ Z 11 x0b 0 6 < 60 := wv1300
          have w136 : v130 = -1 ∨ ((min (x9 + ((Z 48 x0b x2ij 4) * x8)) x5) - (x8 * (min (((min (x9 + ((Z 48 x0b x2ij 4) * x8)) x5) - x6) / x8) ((((max 0 ((min (x9 + ((Z 48 x0b x2ij 4) * x8)) x5) - v118)) + x8) - 1) / x8)))) ≤ w3 (w3 (Z 45 x0b (Z 46 x0b v130 0) 1 + Z 45 x0b (Z 46 x0b v130 0) 3) - Z 45 x0b (Z 46 x0b v130 0) 4) := wv1301
          refine wz_br (i3NE (rfl : i3 v130 = i3 v130) (show (-1 : Int32) = i3 (-1) from rfl) (by omega) (by omega) (by omega) (by omega)) (fun h137 => ?_) (fun h137 => ?_)
          · replace hP := zE_p hP h137
            refine fw_32 _ _ _ _ _ _ ?_
            refine wz_i0 (i3O (n := 48) (rfl : i3 x4 = i3 x4) (by omega) (by omega) (by omega)) ?_
            refine wz_i0 (i3O (n := 24) (rfl : i3 v130 = i3 v130) (by omega) (by omega) (by omega)) ?_
            have r138 := zH_k hZ 46 x0b v130 0 (lo := 0) (hi := 7) (by decide) rfl
            refine wz_i0 (i3O (n := 8) (zm_rd (Z := Z) (ν := ν) (k := 46) (rfl : ((x0b : Nat) : Int) = x0b) (i3I (y := v130) (rfl : i3 v130 = i3 v130) (by omega) (by omega) (by omega)) (show ((0 : Nat) : Int) = 0 from rfl)) (by omega) (by omega) (by omega)) ?_
            refine wz_i0 (i3N0 (i3S (i3Mn (i3A (rfl : i3 x9 = i3 x9) (i3M (zm_rd (Z := Z) (ν := ν) (k := 48) (rfl : ((x0b : Nat) : Int) = x0b) ex2i (show ((4 : Nat) : Int) = 4 from rfl)) (rfl : i3 x8 = i3 x8))) (rfl : i3 x5 = i3 x5) (by omega) (by omega) (by omega) (by omega)) (i3M (rfl : i3 x8 = i3 x8) (i3Mn (i3D (i3S (i3Mn (i3A (rfl : i3 x9 = i3 x9) (i3M (zm_rd (Z := Z) (ν := ν) (k := 48) (rfl : ((x0b : Nat) : Int) = x0b) ex2i (show ((4 : Nat) : Int) = 4 from rfl)) (rfl : i3 x8 = i3 x8))) (rfl : i3 x5 = i3 x5) (by omega) (by omega) (by omega) (by omega)) (rfl : i3 x6 = i3 x6)) (rfl : i3 x8 = i3 x8) (by omega) (by omega) (by omega) (by omega)) (i3D (i3S (i3A (i3Mx (show (0 : Int32) = i3 0 from rfl) (i3S (i3Mn (i3A (rfl : i3 x9 = i3 x9) (i3M (zm_rd (Z := Z) (ν := ν) (k := 48) (rfl : ((x0b : Nat) : Int) = x0b) ex2i (show ((4 : Nat) : Int) = 4 from rfl)) (rfl : i3 x8 = i3 x8))) (rfl : i3 x5 = i3 x5) (by omega) (by omega) (by omega) (by omega)) (rfl : i3 v118 = i3 v118)) (by omega) (by omega) (by omega) (by omega)) (rfl : i3 x8 = i3 x8)) (show (1 : Int32) = i3 1 from rfl)) (rfl : i3 x8 = i3 x8) (by omega) (by omega) (by omega) (by omega)) (by omega) (by omega) (by omega) (by omega)))) (by omega) (by omega) (by omega)) ?_
            refine wz_i0 (i3O (n := 60) (zm_rd (Z := Z) (ν := ν) (k := 11) (rfl : ((x0b : Nat) : Int) = x0b) (show ((0 : Nat) : Int) = 0 from rfl) (show ((6 : Nat) : Int) = 6 from rfl)) (by omega) (by omega) (by omega)) ?_
            obtain ⟨Z139, hZ139⟩ := zx (zu Z 11 x0b 0 6 ((Z 11 x0b 0 6) + 1))
            replace hP := zl_e hP hZ139
            have hZ139I := zH_u hZ hZ139 (lo := 0) (hi := 60) (by decide) rfl (by omega) ⟨by decide, by decide⟩ (Or.inl (by decide)) rfl
            have hZ139U : zU [x0b] Zs Z139 := zU_u hU hZ139 (Or.inr (List.Mem.head _))
            have hZ139K : zC [14, 42, 44, 45, 46, 47, 48, 53, 1106, 1112] Zs Z139 := zC_u hK hZ139 (by decide)
            intro μ9 e9
            replace e9 := e9.trans (zm_wI (Z := Z) (ν := ν) hZ139 (rfl : ((x0b : Nat) : Int) = x0b) (show ((0 : Nat) : Int) = 0 from rfl) (show ((6 : Nat) : Int) = 6 from rfl) (i3A (zm_rd (Z := Z) (ν := ν) (k := 11) (rfl : ((x0b : Nat) : Int) = x0b) (show ((0 : Nat) : Int) = 0 from rfl) (show ((6 : Nat) : Int) = 6 from rfl)) (show (1 : Int32) = i3 1 from rfl)))
            subst e9
            obtain ⟨Z140, hZ140⟩ := zx (zu Z139 47 x0b (Z 11 x0b 0 6) 0 x4)
            replace hP := zl_e hP hZ140
            have hZ140I := zH_u hZ139I hZ140 (lo := 0) (hi := 47) (by decide) rfl (by omega) ⟨by decide, by decide⟩ (Or.inl (by decide)) rfl
            have hZ140U : zU [x0b] Zs Z140 := zU_u hZ139U hZ140 (Or.inr (List.Mem.head _))
            have hZ140K : zC [14, 42, 44, 45, 46, 47, 48, 53, 1106, 1112] Zs Z140 := zC_u hZ139K hZ140 (by decide)
            intro μ9 e9
            replace e9 := e9.trans (zm_wI (Z := Z139) (ν := ν) hZ140 (rfl : ((x0b : Nat) : Int) = x0b) (i3I (y := (Z 11 x0b 0 6)) (zm_rd (Z := Z) (ν := ν) (k := 11) (rfl : ((x0b : Nat) : Int) = x0b) (show ((0 : Nat) : Int) = 0 from rfl) (show ((6 : Nat) : Int) = 6 from rfl)) (by omega) (by omega) (by omega)) (show ((0 : Nat) : Int) = 0 from rfl) (rfl : i3 x4 = i3 x4))
            subst e9
            have r141 := zH_k hZ140I 46 x0b v130 0 (lo := 0) (hi := 7) (by decide) rfl
            have q142 := (zu_ne (k' := 46) (b' := x0b) (i' := v130) (j' := 0) hZ140 (fun q => absurd q.1 (by decide))).trans (zu_ne (k' := 46) (b' := x0b) (i' := v130) (j' := 0) hZ139 (fun q => absurd q.1 (by decide)))
            obtain ⟨Z143, hZ143⟩ := zx (zu Z140 47 x0b (Z 11 x0b 0 6) 1 (Z140 46 x0b v130 0))
            replace hP := zl_e hP hZ143
            have hZ143I := zH_u hZ140I hZ143 (lo := 0) (hi := 7) (by decide) rfl (by omega) ⟨by decide, by decide⟩ (Or.inl (by decide)) rfl
            have hZ143U : zU [x0b] Zs Z143 := zU_u hZ140U hZ143 (Or.inr (List.Mem.head _))
            have hZ143K : zC [14, 42, 44, 45, 46, 47, 48, 53, 1106, 1112] Zs Z143 := zC_u hZ140K hZ143 (by decide)
            intro μ9 e9
            replace e9 := e9.trans (zm_wI (Z := Z140) (ν := ν) hZ143 (rfl : ((x0b : Nat) : Int) = x0b) (i3I (y := (Z 11 x0b 0 6)) (zm_rd (Z := Z) (ν := ν) (k := 11) (rfl : ((x0b : Nat) : Int) = x0b) (show ((0 : Nat) : Int) = 0 from rfl) (show ((6 : Nat) : Int) = 6 from rfl)) (by omega) (by omega) (by omega)) (show ((1 : Nat) : Int) = 1 from rfl) (zm_rd (Z := Z140) (ν := ν) (k := 46) (rfl : ((x0b : Nat) : Int) = x0b) (i3I (y := v130) (rfl : i3 v130 = i3 v130) (by omega) (by omega) (by omega)) (show ((0 : Nat) : Int) = 0 from rfl)))
            subst e9
            obtain ⟨Z144, hZ144⟩ := zx (zu Z143 47 x0b (Z 11 x0b 0 6) 2 v130)
            replace hP := zl_e hP hZ144
            have hZ144I := zH_u hZ143I hZ144 (lo := 0) (hi := 23) (by decide) rfl (by omega) ⟨by decide, by decide⟩ (Or.inl (by decide)) rfl
            have hZ144U : zU [x0b] Zs Z144 := zU_u hZ143U hZ144 (Or.inr (List.Mem.head _))
            have hZ144K : zC [14, 42, 44, 45, 46, 47, 48, 53, 1106, 1112] Zs Z144 := zC_u hZ143K hZ144 (by decide)
            intro μ9 e9
            replace e9 := e9.trans (zm_wI (Z := Z143) (ν := ν) hZ144 (rfl : ((x0b : Nat) : Int) = x0b) (i3I (y := (Z 11 x0b 0 6)) (zm_rd (Z := Z) (ν := ν) (k := 11) (rfl : ((x0b : Nat) : Int) = x0b) (show ((0 : Nat) : Int) = 0 from rfl) (show ((6 : Nat) : Int) = 6 from rfl)) (by omega) (by omega) (by omega)) (show ((2 : Nat) : Int) = 2 from rfl) (rfl : i3 v130 = i3 v130))
            subst e9
            have r145 := w3_r ((Z 45 x0b (Z 46 x0b v130 0) 1) + (Z 45 x0b (Z 46 x0b v130 0) 3))
            have r146 := w3_r ((w3 ((Z 45 x0b (Z 46 x0b v130 0) 1) + (Z 45 x0b (Z 46 x0b v130 0) 3))) - (Z 45 x0b (Z 46 x0b v130 0) 4))
            have r147 := z_div (x := (w3 ((w3 ((Z 45 x0b (Z 46 x0b v130 0) 1) + (Z 45 x0b (Z 46 x0b v130 0) 3))) - (Z 45 x0b (Z 46 x0b v130 0) 4)))) (y := ((min (x9 + ((Z 48 x0b x2ij 4) * x8)) x5) - (x8 * (min (((min (x9 + ((Z 48 x0b x2ij 4) * x8)) x5) - x6) / x8) ((((max 0 ((min (x9 + ((Z 48 x0b x2ij 4) * x8)) x5) - v118)) + x8) - 1) / x8))))) (by omega) (by omega)
            have r148 := zH_k hZ 46 x0b v130 6 (lo := 0) (hi := 99) (by decide) rfl
            obtain ⟨Z149, hZ149⟩ := zx (zu Z144 47 x0b (Z 11 x0b 0 6) 3 (min ((w3 ((w3 ((Z 45 x0b (Z 46 x0b v130 0) 1) + (Z 45 x0b (Z 46 x0b v130 0) 3))) - (Z 45 x0b (Z 46 x0b v130 0) 4))) / ((min (x9 + ((Z 48 x0b x2ij 4) * x8)) x5) - (x8 * (min (((min (x9 + ((Z 48 x0b x2ij 4) * x8)) x5) - x6) / x8) ((((max 0 ((min (x9 + ((Z 48 x0b x2ij 4) * x8)) x5) - v118)) + x8) - 1) / x8))))) (min (Z 44 x0b x4 4) (Z 46 x0b v130 6))))
            replace hP := zl_e hP hZ149
            have hZ149I := zH_u hZ144I hZ149 (lo := 0) (hi := 40) (by decide) rfl (by omega) ⟨by decide, by decide⟩ (Or.inl (by decide)) rfl
            have hZ149U : zU [x0b] Zs Z149 := zU_u hZ144U hZ149 (Or.inr (List.Mem.head _))
            have hZ149K : zC [14, 42, 44, 45, 46, 47, 48, 53, 1106, 1112] Zs Z149 := zC_u hZ144K hZ149 (by decide)
            intro μ9 e9
            replace e9 := e9.trans (zm_wI (Z := Z144) (ν := ν) hZ149 (rfl : ((x0b : Nat) : Int) = x0b) (i3I (y := (Z 11 x0b 0 6)) (zm_rd (Z := Z) (ν := ν) (k := 11) (rfl : ((x0b : Nat) : Int) = x0b) (show ((0 : Nat) : Int) = 0 from rfl) (show ((6 : Nat) : Int) = 6 from rfl)) (by omega) (by omega) (by omega)) (show ((3 : Nat) : Int) = 3 from rfl) (i3Mn (i3D (i3W (i3S (i3W (i3A (zm_rd (Z := Z) (ν := ν) (k := 45) (rfl : ((x0b : Nat) : Int) = x0b) (i3I (y := (Z 46 x0b v130 0)) (zm_rd (Z := Z) (ν := ν) (k := 46) (rfl : ((x0b : Nat) : Int) = x0b) (i3I (y := v130) (rfl : i3 v130 = i3 v130) (by omega) (by omega) (by omega)) (show ((0 : Nat) : Int) = 0 from rfl)) (by omega) (by omega) (by omega)) (show ((1 : Nat) : Int) = 1 from rfl)) (zm_rd (Z := Z) (ν := ν) (k := 45) (rfl : ((x0b : Nat) : Int) = x0b) (i3I (y := (Z 46 x0b v130 0)) (zm_rd (Z := Z) (ν := ν) (k := 46) (rfl : ((x0b : Nat) : Int) = x0b) (i3I (y := v130) (rfl : i3 v130 = i3 v130) (by omega) (by omega) (by omega)) (show ((0 : Nat) : Int) = 0 from rfl)) (by omega) (by omega) (by omega)) (show ((3 : Nat) : Int) = 3 from rfl)))) (zm_rd (Z := Z) (ν := ν) (k := 45) (rfl : ((x0b : Nat) : Int) = x0b) (i3I (y := (Z 46 x0b v130 0)) (zm_rd (Z := Z) (ν := ν) (k := 46) (rfl : ((x0b : Nat) : Int) = x0b) (i3I (y := v130) (rfl : i3 v130 = i3 v130) (by omega) (by omega) (by omega)) (show ((0 : Nat) : Int) = 0 from rfl)) (by omega) (by omega) (by omega)) (show ((4 : Nat) : Int) = 4 from rfl)))) (i3S (i3Mn (i3A (rfl : i3 x9 = i3 x9) (i3M (zm_rd (Z := Z) (ν := ν) (k := 48) (rfl : ((x0b : Nat) : Int) = x0b) ex2i (show ((4 : Nat) : Int) = 4 from rfl)) (rfl : i3 x8 = i3 x8))) (rfl : i3 x5 = i3 x5) (by omega) (by omega) (by omega) (by omega)) (i3M (rfl : i3 x8 = i3 x8) (i3Mn (i3D (i3S (i3Mn (i3A (rfl : i3 x9 = i3 x9) (i3M (zm_rd (Z := Z) (ν := ν) (k := 48) (rfl : ((x0b : Nat) : Int) = x0b) ex2i (show ((4 : Nat) : Int) = 4 from rfl)) (rfl : i3 x8 = i3 x8))) (rfl : i3 x5 = i3 x5) (by omega) (by omega) (by omega) (by omega)) (rfl : i3 x6 = i3 x6)) (rfl : i3 x8 = i3 x8) (by omega) (by omega) (by omega) (by omega)) (i3D (i3S (i3A (i3Mx (show (0 : Int32) = i3 0 from rfl) (i3S (i3Mn (i3A (rfl : i3 x9 = i3 x9) (i3M (zm_rd (Z := Z) (ν := ν) (k := 48) (rfl : ((x0b : Nat) : Int) = x0b) ex2i (show ((4 : Nat) : Int) = 4 from rfl)) (rfl : i3 x8 = i3 x8))) (rfl : i3 x5 = i3 x5) (by omega) (by omega) (by omega) (by omega)) (rfl : i3 v118 = i3 v118)) (by omega) (by omega) (by omega) (by omega)) (rfl : i3 x8 = i3 x8)) (show (1 : Int32) = i3 1 from rfl)) (rfl : i3 x8 = i3 x8) (by omega) (by omega) (by omega) (by omega)) (by omega) (by omega) (by omega) (by omega)))) (by omega) (by omega) (by omega) (by omega)) (i3Mn (zm_rd (Z := Z) (ν := ν) (k := 44) (rfl : ((x0b : Nat) : Int) = x0b) (i3I (y := x4) (rfl : i3 x4 = i3 x4) (by omega) (by omega) (by omega)) (show ((4 : Nat) : Int) = 4 from rfl)) (zm_rd (Z := Z) (ν := ν) (k := 46) (rfl : ((x0b : Nat) : Int) = x0b) (i3I (y := v130) (rfl : i3 v130 = i3 v130) (by omega) (by omega) (by omega)) (show ((6 : Nat) : Int) = 6 from rfl)) (by omega) (by omega) (by omega) (by omega)) (by omega) (by omega) (by omega) (by omega)))
            subst e9
            have r150 := zH_k hZ149I 44 x0b x4 4 (lo := 0) (hi := 40) (by decide) rfl
            have q151 := (zu_ne (k' := 44) (b' := x0b) (i' := x4) (j' := 4) hZ149 (fun q => absurd q.1 (by decide))).trans ((zu_ne (k' := 44) (b' := x0b) (i' := x4) (j' := 4) hZ144 (fun q => absurd q.1 (by decide))).trans ((zu_ne (k' := 44) (b' := x0b) (i' := x4) (j' := 4) hZ143 (fun q => absurd q.1 (by decide))).trans ((zu_ne (k' := 44) (b' := x0b) (i' := x4) (j' := 4) hZ140 (fun q => absurd q.1 (by decide))).trans (zu_ne (k' := 44) (b' := x0b) (i' := x4) (j' := 4) hZ139 (fun q => absurd q.1 (by decide))))))
            refine wz_i0 (i3N0 (zm_rd (Z := Z149) (ν := ν) (k := 44) (rfl : ((x0b : Nat) : Int) = x0b) (i3I (y := x4) (rfl : i3 x4 = i3 x4) (by omega) (by omega) (by omega)) (show ((4 : Nat) : Int) = 4 from rfl)) (by omega) (by omega) (by omega)) ?_
            have r152 := zH_k hZ149I 44 x0b x4 5 (lo := 0) (hi := 40) (by decide) rfl
            have r153 := z_mulmin (x := (Z149 44 x0b x4 5)) (y := ((w3 ((w3 ((Z 45 x0b (Z 46 x0b v130 0) 1) + (Z 45 x0b (Z 46 x0b v130 0) 3))) - (Z 45 x0b (Z 46 x0b v130 0) 4))) / ((min (x9 + ((Z 48 x0b x2ij 4) * x8)) x5) - (x8 * (min (((min (x9 + ((Z 48 x0b x2ij 4) * x8)) x5) - x6) / x8) ((((max 0 ((min (x9 + ((Z 48 x0b x2ij 4) * x8)) x5) - v118)) + x8) - 1) / x8)))))) (z := (min (Z 44 x0b x4 4) (Z 46 x0b v130 6))) (by omega)
            have r154 := z_mulmin (x := (Z149 44 x0b x4 5)) (y := (min (Z 44 x0b x4 4) (Z 46 x0b v130 6))) (z := ((w3 ((w3 ((Z 45 x0b (Z 46 x0b v130 0) 1) + (Z 45 x0b (Z 46 x0b v130 0) 3))) - (Z 45 x0b (Z 46 x0b v130 0) 4))) / ((min (x9 + ((Z 48 x0b x2ij 4) * x8)) x5) - (x8 * (min (((min (x9 + ((Z 48 x0b x2ij 4) * x8)) x5) - x6) / x8) ((((max 0 ((min (x9 + ((Z 48 x0b x2ij 4) * x8)) x5) - v118)) + x8) - 1) / x8)))))) (by omega)
            have r155 := z_mul (x := (Z149 44 x0b x4 5)) (y := (min ((w3 ((w3 ((Z 45 x0b (Z 46 x0b v130 0) 1) + (Z 45 x0b (Z 46 x0b v130 0) 3))) - (Z 45 x0b (Z 46 x0b v130 0) 4))) / ((min (x9 + ((Z 48 x0b x2ij 4) * x8)) x5) - (x8 * (min (((min (x9 + ((Z 48 x0b x2ij 4) * x8)) x5) - x6) / x8) ((((max 0 ((min (x9 + ((Z 48 x0b x2ij 4) * x8)) x5) - v118)) + x8) - 1) / x8))))) (min (Z 44 x0b x4 4) (Z 46 x0b v130 6)))) (a := 40) (b := 40) (by omega) (by omega) (by omega) (by omega)
            have r156 := z_div (x := ((Z149 44 x0b x4 5) * (min ((w3 ((w3 ((Z 45 x0b (Z 46 x0b v130 0) 1) + (Z 45 x0b (Z 46 x0b v130 0) 3))) - (Z 45 x0b (Z 46 x0b v130 0) 4))) / ((min (x9 + ((Z 48 x0b x2ij 4) * x8)) x5) - (x8 * (min (((min (x9 + ((Z 48 x0b x2ij 4) * x8)) x5) - x6) / x8) ((((max 0 ((min (x9 + ((Z 48 x0b x2ij 4) * x8)) x5) - v118)) + x8) - 1) / x8))))) (min (Z 44 x0b x4 4) (Z 46 x0b v130 6))))) (y := (Z149 44 x0b x4 4)) (by omega) (by omega)
            have r157 := z_mdle (a := (Z149 44 x0b x4 5)) (c := (min ((w3 ((w3 ((Z 45 x0b (Z 46 x0b v130 0) 1) + (Z 45 x0b (Z 46 x0b v130 0) 3))) - (Z 45 x0b (Z 46 x0b v130 0) 4))) / ((min (x9 + ((Z 48 x0b x2ij 4) * x8)) x5) - (x8 * (min (((min (x9 + ((Z 48 x0b x2ij 4) * x8)) x5) - x6) / x8) ((((max 0 ((min (x9 + ((Z 48 x0b x2ij 4) * x8)) x5) - v118)) + x8) - 1) / x8))))) (min (Z 44 x0b x4 4) (Z 46 x0b v130 6)))) (d := (Z149 44 x0b x4 4)) (by omega) (by omega) (by omega)
            obtain ⟨Z158, hZ158⟩ := zx (zu Z149 47 x0b (Z 11 x0b 0 6) 4 (((Z149 44 x0b x4 5) * (min ((w3 ((w3 ((Z 45 x0b (Z 46 x0b v130 0) 1) + (Z 45 x0b (Z 46 x0b v130 0) 3))) - (Z 45 x0b (Z 46 x0b v130 0) 4))) / ((min (x9 + ((Z 48 x0b x2ij 4) * x8)) x5) - (x8 * (min (((min (x9 + ((Z 48 x0b x2ij 4) * x8)) x5) - x6) / x8) ((((max 0 ((min (x9 + ((Z 48 x0b x2ij 4) * x8)) x5) - v118)) + x8) - 1) / x8))))) (min (Z 44 x0b x4 4) (Z 46 x0b v130 6)))) / (Z149 44 x0b x4 4)))
            replace hP := zl_e hP hZ158
            have hZ158I := zH_u hZ149I hZ158 (lo := 0) (hi := 40) (by decide) rfl (by omega) ⟨by decide, by decide⟩ (Or.inl (by decide)) rfl
            have hZ158U : zU [x0b] Zs Z158 := zU_u hZ149U hZ158 (Or.inr (List.Mem.head _))
            have hZ158K : zC [14, 42, 44, 45, 46, 47, 48, 53, 1106, 1112] Zs Z158 := zC_u hZ149K hZ158 (by decide)
            intro μ9 e9
            replace e9 := e9.trans (zm_wI (Z := Z149) (ν := ν) hZ158 (rfl : ((x0b : Nat) : Int) = x0b) (i3I (y := (Z 11 x0b 0 6)) (zm_rd (Z := Z) (ν := ν) (k := 11) (rfl : ((x0b : Nat) : Int) = x0b) (show ((0 : Nat) : Int) = 0 from rfl) (show ((6 : Nat) : Int) = 6 from rfl)) (by omega) (by omega) (by omega)) (show ((4 : Nat) : Int) = 4 from rfl) (i3D (i3M (zm_rd (Z := Z149) (ν := ν) (k := 44) (rfl : ((x0b : Nat) : Int) = x0b) (i3I (y := x4) (rfl : i3 x4 = i3 x4) (by omega) (by omega) (by omega)) (show ((5 : Nat) : Int) = 5 from rfl)) (i3Mn (i3D (i3W (i3S (i3W (i3A (zm_rd (Z := Z) (ν := ν) (k := 45) (rfl : ((x0b : Nat) : Int) = x0b) (i3I (y := (Z 46 x0b v130 0)) (zm_rd (Z := Z) (ν := ν) (k := 46) (rfl : ((x0b : Nat) : Int) = x0b) (i3I (y := v130) (rfl : i3 v130 = i3 v130) (by omega) (by omega) (by omega)) (show ((0 : Nat) : Int) = 0 from rfl)) (by omega) (by omega) (by omega)) (show ((1 : Nat) : Int) = 1 from rfl)) (zm_rd (Z := Z) (ν := ν) (k := 45) (rfl : ((x0b : Nat) : Int) = x0b) (i3I (y := (Z 46 x0b v130 0)) (zm_rd (Z := Z) (ν := ν) (k := 46) (rfl : ((x0b : Nat) : Int) = x0b) (i3I (y := v130) (rfl : i3 v130 = i3 v130) (by omega) (by omega) (by omega)) (show ((0 : Nat) : Int) = 0 from rfl)) (by omega) (by omega) (by omega)) (show ((3 : Nat) : Int) = 3 from rfl)))) (zm_rd (Z := Z) (ν := ν) (k := 45) (rfl : ((x0b : Nat) : Int) = x0b) (i3I (y := (Z 46 x0b v130 0)) (zm_rd (Z := Z) (ν := ν) (k := 46) (rfl : ((x0b : Nat) : Int) = x0b) (i3I (y := v130) (rfl : i3 v130 = i3 v130) (by omega) (by omega) (by omega)) (show ((0 : Nat) : Int) = 0 from rfl)) (by omega) (by omega) (by omega)) (show ((4 : Nat) : Int) = 4 from rfl)))) (i3S (i3Mn (i3A (rfl : i3 x9 = i3 x9) (i3M (zm_rd (Z := Z) (ν := ν) (k := 48) (rfl : ((x0b : Nat) : Int) = x0b) ex2i (show ((4 : Nat) : Int) = 4 from rfl)) (rfl : i3 x8 = i3 x8))) (rfl : i3 x5 = i3 x5) (by omega) (by omega) (by omega) (by omega)) (i3M (rfl : i3 x8 = i3 x8) (i3Mn (i3D (i3S (i3Mn (i3A (rfl : i3 x9 = i3 x9) (i3M (zm_rd (Z := Z) (ν := ν) (k := 48) (rfl : ((x0b : Nat) : Int) = x0b) ex2i (show ((4 : Nat) : Int) = 4 from rfl)) (rfl : i3 x8 = i3 x8))) (rfl : i3 x5 = i3 x5) (by omega) (by omega) (by omega) (by omega)) (rfl : i3 x6 = i3 x6)) (rfl : i3 x8 = i3 x8) (by omega) (by omega) (by omega) (by omega)) (i3D (i3S (i3A (i3Mx (show (0 : Int32) = i3 0 from rfl) (i3S (i3Mn (i3A (rfl : i3 x9 = i3 x9) (i3M (zm_rd (Z := Z) (ν := ν) (k := 48) (rfl : ((x0b : Nat) : Int) = x0b) ex2i (show ((4 : Nat) : Int) = 4 from rfl)) (rfl : i3 x8 = i3 x8))) (rfl : i3 x5 = i3 x5) (by omega) (by omega) (by omega) (by omega)) (rfl : i3 v118 = i3 v118)) (by omega) (by omega) (by omega) (by omega)) (rfl : i3 x8 = i3 x8)) (show (1 : Int32) = i3 1 from rfl)) (rfl : i3 x8 = i3 x8) (by omega) (by omega) (by omega) (by omega)) (by omega) (by omega) (by omega) (by omega)))) (by omega) (by omega) (by omega) (by omega)) (i3Mn (zm_rd (Z := Z) (ν := ν) (k := 44) (rfl : ((x0b : Nat) : Int) = x0b) (i3I (y := x4) (rfl : i3 x4 = i3 x4) (by omega) (by omega) (by omega)) (show ((4 : Nat) : Int) = 4 from rfl)) (zm_rd (Z := Z) (ν := ν) (k := 46) (rfl : ((x0b : Nat) : Int) = x0b) (i3I (y := v130) (rfl : i3 v130 = i3 v130) (by omega) (by omega) (by omega)) (show ((6 : Nat) : Int) = 6 from rfl)) (by omega) (by omega) (by omega) (by omega)) (by omega) (by omega) (by omega) (by omega))) (zm_rd (Z := Z149) (ν := ν) (k := 44) (rfl : ((x0b : Nat) : Int) = x0b) (i3I (y := x4) (rfl : i3 x4 = i3 x4) (by omega) (by omega) (by omega)) (show ((4 : Nat) : Int) = 4 from rfl)) (by omega) (by omega) (by omega) (by omega)))
            subst e9
            obtain ⟨Z159, hZ159⟩ := zx (zu Z158 47 x0b (Z 11 x0b 0 6) 5 ((min (x9 + ((Z 48 x0b x2ij 4) * x8)) x5) - (x8 * (min (((min (x9 + ((Z 48 x0b x2ij 4) * x8)) x5) - x6) / x8) ((((max 0 ((min (x9 + ((Z 48 x0b x2ij 4) * x8)) x5) - v118)) + x8) - 1) / x8)))))
            replace hP := zl_e hP hZ159
            have hZ159I := zH_u hZ158I hZ159 (lo := 0) (hi := 9999) (by decide) rfl (by omega) ⟨by decide, by decide⟩ (Or.inl (by decide)) rfl
            have hZ159U : zU [x0b] Zs Z159 := zU_u hZ158U hZ159 (Or.inr (List.Mem.head _))
            have hZ159K : zC [14, 42, 44, 45, 46, 47, 48, 53, 1106, 1112] Zs Z159 := zC_u hZ158K hZ159 (by decide)
            intro μ9 e9
            replace e9 := e9.trans (zm_wI (Z := Z158) (ν := ν) hZ159 (rfl : ((x0b : Nat) : Int) = x0b) (i3I (y := (Z 11 x0b 0 6)) (zm_rd (Z := Z) (ν := ν) (k := 11) (rfl : ((x0b : Nat) : Int) = x0b) (show ((0 : Nat) : Int) = 0 from rfl) (show ((6 : Nat) : Int) = 6 from rfl)) (by omega) (by omega) (by omega)) (show ((5 : Nat) : Int) = 5 from rfl) (i3S (i3Mn (i3A (rfl : i3 x9 = i3 x9) (i3M (zm_rd (Z := Z) (ν := ν) (k := 48) (rfl : ((x0b : Nat) : Int) = x0b) ex2i (show ((4 : Nat) : Int) = 4 from rfl)) (rfl : i3 x8 = i3 x8))) (rfl : i3 x5 = i3 x5) (by omega) (by omega) (by omega) (by omega)) (i3M (rfl : i3 x8 = i3 x8) (i3Mn (i3D (i3S (i3Mn (i3A (rfl : i3 x9 = i3 x9) (i3M (zm_rd (Z := Z) (ν := ν) (k := 48) (rfl : ((x0b : Nat) : Int) = x0b) ex2i (show ((4 : Nat) : Int) = 4 from rfl)) (rfl : i3 x8 = i3 x8))) (rfl : i3 x5 = i3 x5) (by omega) (by omega) (by omega) (by omega)) (rfl : i3 x6 = i3 x6)) (rfl : i3 x8 = i3 x8) (by omega) (by omega) (by omega) (by omega)) (i3D (i3S (i3A (i3Mx (show (0 : Int32) = i3 0 from rfl) (i3S (i3Mn (i3A (rfl : i3 x9 = i3 x9) (i3M (zm_rd (Z := Z) (ν := ν) (k := 48) (rfl : ((x0b : Nat) : Int) = x0b) ex2i (show ((4 : Nat) : Int) = 4 from rfl)) (rfl : i3 x8 = i3 x8))) (rfl : i3 x5 = i3 x5) (by omega) (by omega) (by omega) (by omega)) (rfl : i3 v118 = i3 v118)) (by omega) (by omega) (by omega) (by omega)) (rfl : i3 x8 = i3 x8)) (show (1 : Int32) = i3 1 from rfl)) (rfl : i3 x8 = i3 x8) (by omega) (by omega) (by omega) (by omega)) (by omega) (by omega) (by omega) (by omega)))))
            subst e9
            have r160 := zH_k hZ159I 11 x0b 0 13 (lo := 0) (hi := 671) (by decide) rfl
            obtain ⟨Z161, hZ161⟩ := zx (zu Z159 47 x0b (Z 11 x0b 0 6) 6 (Z159 11 x0b 0 13))
            replace hP := zl_e hP hZ161
            have hZ161I := zH_u hZ159I hZ161 (lo := 0) (hi := 671) (by decide) rfl (by omega) ⟨by decide, by decide⟩ (Or.inl (by decide)) rfl
            have hZ161U : zU [x0b] Zs Z161 := zU_u hZ159U hZ161 (Or.inr (List.Mem.head _))
            have hZ161K : zC [14, 42, 44, 45, 46, 47, 48, 53, 1106, 1112] Zs Z161 := zC_u hZ159K hZ161 (by decide)
            intro μ9 e9
            replace e9 := e9.trans (zm_wI (Z := Z159) (ν := ν) hZ161 (rfl : ((x0b : Nat) : Int) = x0b) (i3I (y := (Z 11 x0b 0 6)) (zm_rd (Z := Z) (ν := ν) (k := 11) (rfl : ((x0b : Nat) : Int) = x0b) (show ((0 : Nat) : Int) = 0 from rfl) (show ((6 : Nat) : Int) = 6 from rfl)) (by omega) (by omega) (by omega)) (show ((6 : Nat) : Int) = 6 from rfl) (zm_rd (Z := Z159) (ν := ν) (k := 11) (rfl : ((x0b : Nat) : Int) = x0b) (show ((0 : Nat) : Int) = 0 from rfl) (show ((13 : Nat) : Int) = 13 from rfl)))
            subst e9
            have r162 := zH_k hZ161I 44 x0b x4 9 (lo := -1) (hi := 3) (by decide) rfl
            obtain ⟨Z163, hZ163⟩ := zx (zu Z161 47 x0b (Z 11 x0b 0 6) 7 (Z161 44 x0b x4 9))
            replace hP := zl_e hP hZ163
            have hZ163I := zH_u hZ161I hZ163 (lo := -1) (hi := 3) (by decide) rfl (by omega) ⟨by decide, by decide⟩ (Or.inl (by decide)) rfl
            have hZ163U : zU [x0b] Zs Z163 := zU_u hZ161U hZ163 (Or.inr (List.Mem.head _))
            have hZ163K : zC [14, 42, 44, 45, 46, 47, 48, 53, 1106, 1112] Zs Z163 := zC_u hZ161K hZ163 (by decide)
            intro μ9 e9
            replace e9 := e9.trans (zm_wI (Z := Z161) (ν := ν) hZ163 (rfl : ((x0b : Nat) : Int) = x0b) (i3I (y := (Z 11 x0b 0 6)) (zm_rd (Z := Z) (ν := ν) (k := 11) (rfl : ((x0b : Nat) : Int) = x0b) (show ((0 : Nat) : Int) = 0 from rfl) (show ((6 : Nat) : Int) = 6 from rfl)) (by omega) (by omega) (by omega)) (show ((7 : Nat) : Int) = 7 from rfl) (zm_rd (Z := Z161) (ν := ν) (k := 44) (rfl : ((x0b : Nat) : Int) = x0b) (i3I (y := x4) (rfl : i3 x4 = i3 x4) (by omega) (by omega) (by omega)) (show ((9 : Nat) : Int) = 9 from rfl)))
            subst e9
            have r164 := zH_k hZ163I 44 x0b x4 7 (lo := 0) (hi := 2000) (by decide) rfl
            obtain ⟨Z165, hZ165⟩ := zx (zu Z163 47 x0b (Z 11 x0b 0 6) 8 (Z163 44 x0b x4 7))
            replace hP := zl_e hP hZ165
            have hZ165I := zH_u hZ163I hZ165 (lo := 0) (hi := 2000) (by decide) rfl (by omega) ⟨by decide, by decide⟩ (Or.inl (by decide)) rfl
            have hZ165U : zU [x0b] Zs Z165 := zU_u hZ163U hZ165 (Or.inr (List.Mem.head _))
            have hZ165K : zC [14, 42, 44, 45, 46, 47, 48, 53, 1106, 1112] Zs Z165 := zC_u hZ163K hZ165 (by decide)
            intro μ9 e9
            replace e9 := e9.trans (zm_wI (Z := Z163) (ν := ν) hZ165 (rfl : ((x0b : Nat) : Int) = x0b) (i3I (y := (Z 11 x0b 0 6)) (zm_rd (Z := Z) (ν := ν) (k := 11) (rfl : ((x0b : Nat) : Int) = x0b) (show ((0 : Nat) : Int) = 0 from rfl) (show ((6 : Nat) : Int) = 6 from rfl)) (by omega) (by omega) (by omega)) (show ((8 : Nat) : Int) = 8 from rfl) (zm_rd (Z := Z163) (ν := ν) (k := 44) (rfl : ((x0b : Nat) : Int) = x0b) (i3I (y := x4) (rfl : i3 x4 = i3 x4) (by omega) (by omega) (by omega)) (show ((7 : Nat) : Int) = 7 from rfl)))
            subst e9
            obtain ⟨Z166, hZ166⟩ := zx (zu Z165 47 x0b (Z 11 x0b 0 6) 9 0)
            replace hP := zl_e hP hZ166
            have r167 := zH_k hZ165I 47 x0b (Z 11 x0b 0 6) 10 (lo := -1) (hi := 3) (by decide) rfl
            have r168 := zH_lt hZ165I x0b (Z 11 x0b 0 6)
            have hZ166I := zH_st hZ165I hZ166 (by omega) (by omega)
            have hZ166U : zU [x0b] Zs Z166 := zU_u hZ165U hZ166 (Or.inr (List.Mem.head _))
            have hZ166K : zC [14, 42, 44, 45, 46, 47, 48, 53, 1106, 1112] Zs Z166 := zC_u hZ165K hZ166 (by decide)
            intro μ9 e9
            replace e9 := e9.trans (zm_wI (Z := Z165) (ν := ν) hZ166 (rfl : ((x0b : Nat) : Int) = x0b) (i3I (y := (Z 11 x0b 0 6)) (zm_rd (Z := Z) (ν := ν) (k := 11) (rfl : ((x0b : Nat) : Int) = x0b) (show ((0 : Nat) : Int) = 0 from rfl) (show ((6 : Nat) : Int) = 6 from rfl)) (by omega) (by omega) (by omega)) (show ((9 : Nat) : Int) = 9 from rfl) (show (0 : Int32) = i3 0 from rfl))
            subst e9
            obtain ⟨Z169, hZ169⟩ := zx (zu Z166 47 x0b (Z 11 x0b 0 6) 10 (-1))
            replace hP := zl_e hP hZ169
            have r170 := zH_k hZ166I 47 x0b (Z 11 x0b 0 6) 9 (lo := 0) (hi := 3) (by decide) rfl
            have r171 := zH_lt hZ166I x0b (Z 11 x0b 0 6)
            have q172 := zu_at hZ166
            have hZ169I := zH_tr hZ166I hZ169 (by omega) (by omega)
            have hZ169U : zU [x0b] Zs Z169 := zU_u hZ166U hZ169 (Or.inr (List.Mem.head _))
            have hZ169K : zC [14, 42, 44, 45, 46, 47, 48, 53, 1106, 1112] Zs Z169 := zC_u hZ166K hZ169 (by decide)
            intro μ9 e9
            replace e9 := e9.trans (zm_wI (Z := Z166) (ν := ν) hZ169 (rfl : ((x0b : Nat) : Int) = x0b) (i3I (y := (Z 11 x0b 0 6)) (zm_rd (Z := Z) (ν := ν) (k := 11) (rfl : ((x0b : Nat) : Int) = x0b) (show ((0 : Nat) : Int) = 0 from rfl) (show ((6 : Nat) : Int) = 6 from rfl)) (by omega) (by omega) (by omega)) (show ((10 : Nat) : Int) = 10 from rfl) (show (-1 : Int32) = i3 (-1) from rfl))
            subst e9
            obtain ⟨Z173, hZ173⟩ := zx (zu Z169 47 x0b (Z 11 x0b 0 6) 14 (-1))
            replace hP := zl_e hP hZ173
            have hZ173I := zH_u hZ169I hZ173 (lo := -1) (hi := 671) (by decide) rfl (by omega) ⟨by decide, by decide⟩ (Or.inl (by decide)) rfl
            have hZ173U : zU [x0b] Zs Z173 := zU_u hZ169U hZ173 (Or.inr (List.Mem.head _))
            have hZ173K : zC [14, 42, 44, 45, 46, 47, 48, 53, 1106, 1112] Zs Z173 := zC_u hZ169K hZ173 (by decide)
            intro μ9 e9
            replace e9 := e9.trans (zm_wI (Z := Z169) (ν := ν) hZ173 (rfl : ((x0b : Nat) : Int) = x0b) (i3I (y := (Z 11 x0b 0 6)) (zm_rd (Z := Z) (ν := ν) (k := 11) (rfl : ((x0b : Nat) : Int) = x0b) (show ((0 : Nat) : Int) = 0 from rfl) (show ((6 : Nat) : Int) = 6 from rfl)) (by omega) (by omega) (by omega)) (show ((14 : Nat) : Int) = 14 from rfl) (show (-1 : Int32) = i3 (-1) from rfl))
            subst e9
            obtain ⟨Z174, hZ174⟩ := zx (zu Z173 47 x0b (Z 11 x0b 0 6) 15 (-1))
            replace hP := zl_e hP hZ174
            have hZ174I := zH_u hZ173I hZ174 (lo := -1) (hi := 2000) (by decide) rfl (by omega) ⟨by decide, by decide⟩ (Or.inl (by decide)) rfl
            have hZ174U : zU [x0b] Zs Z174 := zU_u hZ173U hZ174 (Or.inr (List.Mem.head _))
            have hZ174K : zC [14, 42, 44, 45, 46, 47, 48, 53, 1106, 1112] Zs Z174 := zC_u hZ173K hZ174 (by decide)
            intro μ9 e9
            replace e9 := e9.trans (zm_wI (Z := Z173) (ν := ν) hZ174 (rfl : ((x0b : Nat) : Int) = x0b) (i3I (y := (Z 11 x0b 0 6)) (zm_rd (Z := Z) (ν := ν) (k := 11) (rfl : ((x0b : Nat) : Int) = x0b) (show ((0 : Nat) : Int) = 0 from rfl) (show ((6 : Nat) : Int) = 6 from rfl)) (by omega) (by omega) (by omega)) (show ((15 : Nat) : Int) = 15 from rfl) (show (-1 : Int32) = i3 (-1) from rfl))
            subst e9
            obtain ⟨Z175, hZ175⟩ := zx (zu Z174 47 x0b (Z 11 x0b 0 6) 16 (-1))
            replace hP := zl_e hP hZ175
            have hZ175I := zH_u hZ174I hZ175 (lo := -1) (hi := 999) (by decide) rfl (by omega) ⟨by decide, by decide⟩ (Or.inl (by decide)) rfl
            have hZ175U : zU [x0b] Zs Z175 := zU_u hZ174U hZ175 (Or.inr (List.Mem.head _))
            have hZ175K : zC [14, 42, 44, 45, 46, 47, 48, 53, 1106, 1112] Zs Z175 := zC_u hZ174K hZ175 (by decide)
            intro μ9 e9
            replace e9 := e9.trans (zm_wI (Z := Z174) (ν := ν) hZ175 (rfl : ((x0b : Nat) : Int) = x0b) (i3I (y := (Z 11 x0b 0 6)) (zm_rd (Z := Z) (ν := ν) (k := 11) (rfl : ((x0b : Nat) : Int) = x0b) (show ((0 : Nat) : Int) = 0 from rfl) (show ((6 : Nat) : Int) = 6 from rfl)) (by omega) (by omega) (by omega)) (show ((16 : Nat) : Int) = 16 from rfl) (show (-1 : Int32) = i3 (-1) from rfl))
            subst e9
            obtain ⟨Z176, hZ176⟩ := zx (zu Z175 47 x0b (Z 11 x0b 0 6) 17 (-1))
            replace hP := zl_e hP hZ176
            have hZ176I := zH_u hZ175I hZ176 (lo := -1) (hi := 671) (by decide) rfl (by omega) ⟨by decide, by decide⟩ (Or.inl (by decide)) rfl
            have hZ176U : zU [x0b] Zs Z176 := zU_u hZ175U hZ176 (Or.inr (List.Mem.head _))
            have hZ176K : zC [14, 42, 44, 45, 46, 47, 48, 53, 1106, 1112] Zs Z176 := zC_u hZ175K hZ176 (by decide)
            intro μ9 e9
            replace e9 := e9.trans (zm_wI (Z := Z175) (ν := ν) hZ176 (rfl : ((x0b : Nat) : Int) = x0b) (i3I (y := (Z 11 x0b 0 6)) (zm_rd (Z := Z) (ν := ν) (k := 11) (rfl : ((x0b : Nat) : Int) = x0b) (show ((0 : Nat) : Int) = 0 from rfl) (show ((6 : Nat) : Int) = 6 from rfl)) (by omega) (by omega) (by omega)) (show ((17 : Nat) : Int) = 17 from rfl) (show (-1 : Int32) = i3 (-1) from rfl))
            subst e9
            have r177 := z_mul (x := (min ((w3 ((w3 ((Z 45 x0b (Z 46 x0b v130 0) 1) + (Z 45 x0b (Z 46 x0b v130 0) 3))) - (Z 45 x0b (Z 46 x0b v130 0) 4))) / ((min (x9 + ((Z 48 x0b x2ij 4) * x8)) x5) - (x8 * (min (((min (x9 + ((Z 48 x0b x2ij 4) * x8)) x5) - x6) / x8) ((((max 0 ((min (x9 + ((Z 48 x0b x2ij 4) * x8)) x5) - v118)) + x8) - 1) / x8))))) (min (Z 44 x0b x4 4) (Z 46 x0b v130 6)))) (y := ((min (x9 + ((Z 48 x0b x2ij 4) * x8)) x5) - (x8 * (min (((min (x9 + ((Z 48 x0b x2ij 4) * x8)) x5) - x6) / x8) ((((max 0 ((min (x9 + ((Z 48 x0b x2ij 4) * x8)) x5) - v118)) + x8) - 1) / x8))))) (a := 40) (b := 9999) (by omega) (by omega) (by omega) (by omega)
            obtain ⟨Z178, hZ178⟩ := zx (zu Z176 47 x0b (Z 11 x0b 0 6) 18 ((min ((w3 ((w3 ((Z 45 x0b (Z 46 x0b v130 0) 1) + (Z 45 x0b (Z 46 x0b v130 0) 3))) - (Z 45 x0b (Z 46 x0b v130 0) 4))) / ((min (x9 + ((Z 48 x0b x2ij 4) * x8)) x5) - (x8 * (min (((min (x9 + ((Z 48 x0b x2ij 4) * x8)) x5) - x6) / x8) ((((max 0 ((min (x9 + ((Z 48 x0b x2ij 4) * x8)) x5) - v118)) + x8) - 1) / x8))))) (min (Z 44 x0b x4 4) (Z 46 x0b v130 6))) * ((min (x9 + ((Z 48 x0b x2ij 4) * x8)) x5) - (x8 * (min (((min (x9 + ((Z 48 x0b x2ij 4) * x8)) x5) - x6) / x8) ((((max 0 ((min (x9 + ((Z 48 x0b x2ij 4) * x8)) x5) - v118)) + x8) - 1) / x8))))))
            replace hP := zl_e hP hZ178
            have hZ178I := zH_u hZ176I hZ178 (lo := 0) (hi := 399960) (by decide) rfl (by omega) ⟨by decide, by decide⟩ (Or.inl (by decide)) rfl
            have hZ178U : zU [x0b] Zs Z178 := zU_u hZ176U hZ178 (Or.inr (List.Mem.head _))
            have hZ178K : zC [14, 42, 44, 45, 46, 47, 48, 53, 1106, 1112] Zs Z178 := zC_u hZ176K hZ178 (by decide)
            intro μ9 e9
            replace e9 := e9.trans (zm_wI (Z := Z176) (ν := ν) hZ178 (rfl : ((x0b : Nat) : Int) = x0b) (i3I (y := (Z 11 x0b 0 6)) (zm_rd (Z := Z) (ν := ν) (k := 11) (rfl : ((x0b : Nat) : Int) = x0b) (show ((0 : Nat) : Int) = 0 from rfl) (show ((6 : Nat) : Int) = 6 from rfl)) (by omega) (by omega) (by omega)) (show ((18 : Nat) : Int) = 18 from rfl) (i3M (i3Mn (i3D (i3W (i3S (i3W (i3A (zm_rd (Z := Z) (ν := ν) (k := 45) (rfl : ((x0b : Nat) : Int) = x0b) (i3I (y := (Z 46 x0b v130 0)) (zm_rd (Z := Z) (ν := ν) (k := 46) (rfl : ((x0b : Nat) : Int) = x0b) (i3I (y := v130) (rfl : i3 v130 = i3 v130) (by omega) (by omega) (by omega)) (show ((0 : Nat) : Int) = 0 from rfl)) (by omega) (by omega) (by omega)) (show ((1 : Nat) : Int) = 1 from rfl)) (zm_rd (Z := Z) (ν := ν) (k := 45) (rfl : ((x0b : Nat) : Int) = x0b) (i3I (y := (Z 46 x0b v130 0)) (zm_rd (Z := Z) (ν := ν) (k := 46) (rfl : ((x0b : Nat) : Int) = x0b) (i3I (y := v130) (rfl : i3 v130 = i3 v130) (by omega) (by omega) (by omega)) (show ((0 : Nat) : Int) = 0 from rfl)) (by omega) (by omega) (by omega)) (show ((3 : Nat) : Int) = 3 from rfl)))) (zm_rd (Z := Z) (ν := ν) (k := 45) (rfl : ((x0b : Nat) : Int) = x0b) (i3I (y := (Z 46 x0b v130 0)) (zm_rd (Z := Z) (ν := ν) (k := 46) (rfl : ((x0b : Nat) : Int) = x0b) (i3I (y := v130) (rfl : i3 v130 = i3 v130) (by omega) (by omega) (by omega)) (show ((0 : Nat) : Int) = 0 from rfl)) (by omega) (by omega) (by omega)) (show ((4 : Nat) : Int) = 4 from rfl)))) (i3S (i3Mn (i3A (rfl : i3 x9 = i3 x9) (i3M (zm_rd (Z := Z) (ν := ν) (k := 48) (rfl : ((x0b : Nat) : Int) = x0b) ex2i (show ((4 : Nat) : Int) = 4 from rfl)) (rfl : i3 x8 = i3 x8))) (rfl : i3 x5 = i3 x5) (by omega) (by omega) (by omega) (by omega)) (i3M (rfl : i3 x8 = i3 x8) (i3Mn (i3D (i3S (i3Mn (i3A (rfl : i3 x9 = i3 x9) (i3M (zm_rd (Z := Z) (ν := ν) (k := 48) (rfl : ((x0b : Nat) : Int) = x0b) ex2i (show ((4 : Nat) : Int) = 4 from rfl)) (rfl : i3 x8 = i3 x8))) (rfl : i3 x5 = i3 x5) (by omega) (by omega) (by omega) (by omega)) (rfl : i3 x6 = i3 x6)) (rfl : i3 x8 = i3 x8) (by omega) (by omega) (by omega) (by omega)) (i3D (i3S (i3A (i3Mx (show (0 : Int32) = i3 0 from rfl) (i3S (i3Mn (i3A (rfl : i3 x9 = i3 x9) (i3M (zm_rd (Z := Z) (ν := ν) (k := 48) (rfl : ((x0b : Nat) : Int) = x0b) ex2i (show ((4 : Nat) : Int) = 4 from rfl)) (rfl : i3 x8 = i3 x8))) (rfl : i3 x5 = i3 x5) (by omega) (by omega) (by omega) (by omega)) (rfl : i3 v118 = i3 v118)) (by omega) (by omega) (by omega) (by omega)) (rfl : i3 x8 = i3 x8)) (show (1 : Int32) = i3 1 from rfl)) (rfl : i3 x8 = i3 x8) (by omega) (by omega) (by omega) (by omega)) (by omega) (by omega) (by omega) (by omega)))) (by omega) (by omega) (by omega) (by omega)) (i3Mn (zm_rd (Z := Z) (ν := ν) (k := 44) (rfl : ((x0b : Nat) : Int) = x0b) (i3I (y := x4) (rfl : i3 x4 = i3 x4) (by omega) (by omega) (by omega)) (show ((4 : Nat) : Int) = 4 from rfl)) (zm_rd (Z := Z) (ν := ν) (k := 46) (rfl : ((x0b : Nat) : Int) = x0b) (i3I (y := v130) (rfl : i3 v130 = i3 v130) (by omega) (by omega) (by omega)) (show ((6 : Nat) : Int) = 6 from rfl)) (by omega) (by omega) (by omega) (by omega)) (by omega) (by omega) (by omega) (by omega)) (i3S (i3Mn (i3A (rfl : i3 x9 = i3 x9) (i3M (zm_rd (Z := Z) (ν := ν) (k := 48) (rfl : ((x0b : Nat) : Int) = x0b) ex2i (show ((4 : Nat) : Int) = 4 from rfl)) (rfl : i3 x8 = i3 x8))) (rfl : i3 x5 = i3 x5) (by omega) (by omega) (by omega) (by omega)) (i3M (rfl : i3 x8 = i3 x8) (i3Mn (i3D (i3S (i3Mn (i3A (rfl : i3 x9 = i3 x9) (i3M (zm_rd (Z := Z) (ν := ν) (k := 48) (rfl : ((x0b : Nat) : Int) = x0b) ex2i (show ((4 : Nat) : Int) = 4 from rfl)) (rfl : i3 x8 = i3 x8))) (rfl : i3 x5 = i3 x5) (by omega) (by omega) (by omega) (by omega)) (rfl : i3 x6 = i3 x6)) (rfl : i3 x8 = i3 x8) (by omega) (by omega) (by omega) (by omega)) (i3D (i3S (i3A (i3Mx (show (0 : Int32) = i3 0 from rfl) (i3S (i3Mn (i3A (rfl : i3 x9 = i3 x9) (i3M (zm_rd (Z := Z) (ν := ν) (k := 48) (rfl : ((x0b : Nat) : Int) = x0b) ex2i (show ((4 : Nat) : Int) = 4 from rfl)) (rfl : i3 x8 = i3 x8))) (rfl : i3 x5 = i3 x5) (by omega) (by omega) (by omega) (by omega)) (rfl : i3 v118 = i3 v118)) (by omega) (by omega) (by omega) (by omega)) (rfl : i3 x8 = i3 x8)) (show (1 : Int32) = i3 1 from rfl)) (rfl : i3 x8 = i3 x8) (by omega) (by omega) (by omega) (by omega)) (by omega) (by omega) (by omega) (by omega))))))
            subst e9
            have r179 := zH_k hZ178I 47 x0b (Z 11 x0b 0 6) 18 (lo := 0) (hi := 399960) (by decide) rfl
            have q180 := zu_at hZ178
            obtain ⟨Z181, hZ181⟩ := zx (zu Z178 47 x0b (Z 11 x0b 0 6) 19 (Z178 47 x0b (Z 11 x0b 0 6) 18))
            replace hP := zl_e hP hZ181
            have hZ181I := zH_u hZ178I hZ181 (lo := -2147483648) (hi := 2147483647) (by decide) rfl (by omega) ⟨by decide, by decide⟩ (Or.inl (by decide)) rfl
            have hZ181U : zU [x0b] Zs Z181 := zU_u hZ178U hZ181 (Or.inr (List.Mem.head _))
            have hZ181K : zC [14, 42, 44, 45, 46, 47, 48, 53, 1106, 1112] Zs Z181 := zC_u hZ178K hZ181 (by decide)
            intro μ9 e9
            replace e9 := e9.trans (zm_wI (Z := Z178) (ν := ν) hZ181 (rfl : ((x0b : Nat) : Int) = x0b) (i3I (y := (Z 11 x0b 0 6)) (zm_rd (Z := Z) (ν := ν) (k := 11) (rfl : ((x0b : Nat) : Int) = x0b) (show ((0 : Nat) : Int) = 0 from rfl) (show ((6 : Nat) : Int) = 6 from rfl)) (by omega) (by omega) (by omega)) (show ((19 : Nat) : Int) = 19 from rfl) (zm_rd (Z := Z178) (ν := ν) (k := 47) (rfl : ((x0b : Nat) : Int) = x0b) (i3I (y := (Z 11 x0b 0 6)) (zm_rd (Z := Z) (ν := ν) (k := 11) (rfl : ((x0b : Nat) : Int) = x0b) (show ((0 : Nat) : Int) = 0 from rfl) (show ((6 : Nat) : Int) = 6 from rfl)) (by omega) (by omega) (by omega)) (show ((18 : Nat) : Int) = 18 from rfl)))
            subst e9
            have r182 := zH_k hZ181I 11 x0b 0 13 (lo := 0) (hi := 671) (by decide) rfl
            have q183 := (zu_ne (k' := 11) (b' := x0b) (i' := 0) (j' := 13) hZ181 (fun q => absurd q.1 (by decide))).trans ((zu_ne (k' := 11) (b' := x0b) (i' := 0) (j' := 13) hZ178 (fun q => absurd q.1 (by decide))).trans ((zu_ne (k' := 11) (b' := x0b) (i' := 0) (j' := 13) hZ176 (fun q => absurd q.1 (by decide))).trans ((zu_ne (k' := 11) (b' := x0b) (i' := 0) (j' := 13) hZ175 (fun q => absurd q.1 (by decide))).trans ((zu_ne (k' := 11) (b' := x0b) (i' := 0) (j' := 13) hZ174 (fun q => absurd q.1 (by decide))).trans ((zu_ne (k' := 11) (b' := x0b) (i' := 0) (j' := 13) hZ173 (fun q => absurd q.1 (by decide))).trans ((zu_ne (k' := 11) (b' := x0b) (i' := 0) (j' := 13) hZ169 (fun q => absurd q.1 (by decide))).trans ((zu_ne (k' := 11) (b' := x0b) (i' := 0) (j' := 13) hZ166 (fun q => absurd q.1 (by decide))).trans ((zu_ne (k' := 11) (b' := x0b) (i' := 0) (j' := 13) hZ165 (fun q => absurd q.1 (by decide))).trans ((zu_ne (k' := 11) (b' := x0b) (i' := 0) (j' := 13) hZ163 (fun q => absurd q.1 (by decide))).trans (zu_ne (k' := 11) (b' := x0b) (i' := 0) (j' := 13) hZ161 (fun q => absurd q.1 (by decide))))))))))))
            have r184 := zH_k hZ181I 45 x0b (Z 46 x0b v130 0) 2 (lo := 0) (hi := 14) (by decide) rfl
            obtain ⟨Z185, hZ185⟩ := zx (zu Z181 47 x0b (Z 11 x0b 0 6) 20 (((Z181 11 x0b 0 13) / 24) + (Z181 45 x0b (Z 46 x0b v130 0) 2)))
            replace hP := zl_e hP hZ185
            have hZ185I := zH_u hZ181I hZ185 (lo := 0) (hi := 41) (by decide) rfl (by omega) ⟨by decide, by decide⟩ (Or.inl (by decide)) rfl
            have hZ185U : zU [x0b] Zs Z185 := zU_u hZ181U hZ185 (Or.inr (List.Mem.head _))
            have hZ185K : zC [14, 42, 44, 45, 46, 47, 48, 53, 1106, 1112] Zs Z185 := zC_u hZ181K hZ185 (by decide)
            intro μ9 e9
            replace e9 := e9.trans (zm_wI (Z := Z181) (ν := ν) hZ185 (rfl : ((x0b : Nat) : Int) = x0b) (i3I (y := (Z 11 x0b 0 6)) (zm_rd (Z := Z) (ν := ν) (k := 11) (rfl : ((x0b : Nat) : Int) = x0b) (show ((0 : Nat) : Int) = 0 from rfl) (show ((6 : Nat) : Int) = 6 from rfl)) (by omega) (by omega) (by omega)) (show ((20 : Nat) : Int) = 20 from rfl) (i3A (i3D (zm_rd (Z := Z181) (ν := ν) (k := 11) (rfl : ((x0b : Nat) : Int) = x0b) (show ((0 : Nat) : Int) = 0 from rfl) (show ((13 : Nat) : Int) = 13 from rfl)) (show (24 : Int32) = i3 24 from rfl) (by omega) (by omega) (by omega) (by omega)) (zm_rd (Z := Z181) (ν := ν) (k := 45) (rfl : ((x0b : Nat) : Int) = x0b) (i3I (y := (Z 46 x0b v130 0)) (zm_rd (Z := Z) (ν := ν) (k := 46) (rfl : ((x0b : Nat) : Int) = x0b) (i3I (y := v130) (rfl : i3 v130 = i3 v130) (by omega) (by omega) (by omega)) (show ((0 : Nat) : Int) = 0 from rfl)) (by omega) (by omega) (by omega)) (show ((2 : Nat) : Int) = 2 from rfl))))
            subst e9
            have r186 := zH_k hZ185I 44 x0b x4 4 (lo := 0) (hi := 40) (by decide) rfl
            have q187 := (zu_ne (k' := 44) (b' := x0b) (i' := x4) (j' := 4) hZ185 (fun q => absurd q.1 (by decide))).trans ((zu_ne (k' := 44) (b' := x0b) (i' := x4) (j' := 4) hZ181 (fun q => absurd q.1 (by decide))).trans ((zu_ne (k' := 44) (b' := x0b) (i' := x4) (j' := 4) hZ178 (fun q => absurd q.1 (by decide))).trans ((zu_ne (k' := 44) (b' := x0b) (i' := x4) (j' := 4) hZ176 (fun q => absurd q.1 (by decide))).trans ((zu_ne (k' := 44) (b' := x0b) (i' := x4) (j' := 4) hZ175 (fun q => absurd q.1 (by decide))).trans ((zu_ne (k' := 44) (b' := x0b) (i' := x4) (j' := 4) hZ174 (fun q => absurd q.1 (by decide))).trans ((zu_ne (k' := 44) (b' := x0b) (i' := x4) (j' := 4) hZ173 (fun q => absurd q.1 (by decide))).trans ((zu_ne (k' := 44) (b' := x0b) (i' := x4) (j' := 4) hZ169 (fun q => absurd q.1 (by decide))).trans ((zu_ne (k' := 44) (b' := x0b) (i' := x4) (j' := 4) hZ166 (fun q => absurd q.1 (by decide))).trans ((zu_ne (k' := 44) (b' := x0b) (i' := x4) (j' := 4) hZ165 (fun q => absurd q.1 (by decide))).trans ((zu_ne (k' := 44) (b' := x0b) (i' := x4) (j' := 4) hZ163 (fun q => absurd q.1 (by decide))).trans ((zu_ne (k' := 44) (b' := x0b) (i' := x4) (j' := 4) hZ161 (fun q => absurd q.1 (by decide))).trans ((zu_ne (k' := 44) (b' := x0b) (i' := x4) (j' := 4) hZ159 (fun q => absurd q.1 (by decide))).trans (zu_ne (k' := 44) (b' := x0b) (i' := x4) (j' := 4) hZ158 (fun q => absurd q.1 (by decide)))))))))))))))
            obtain ⟨Z188, hZ188⟩ := zx (zu Z185 44 x0b x4 4 ((Z185 44 x0b x4 4) - (min ((w3 ((w3 ((Z 45 x0b (Z 46 x0b v130 0) 1) + (Z 45 x0b (Z 46 x0b v130 0) 3))) - (Z 45 x0b (Z 46 x0b v130 0) 4))) / ((min (x9 + ((Z 48 x0b x2ij 4) * x8)) x5) - (x8 * (min (((min (x9 + ((Z 48 x0b x2ij 4) * x8)) x5) - x6) / x8) ((((max 0 ((min (x9 + ((Z 48 x0b x2ij 4) * x8)) x5) - v118)) + x8) - 1) / x8))))) (min (Z 44 x0b x4 4) (Z 46 x0b v130 6)))))
            replace hP := zl_e hP hZ188
            have hZ188I := zH_u hZ185I hZ188 (lo := 0) (hi := 40) (by decide) rfl (by omega) ⟨by decide, by decide⟩ (Or.inl (by decide)) rfl
            have hZ188U : zU [x0b] Zs Z188 := zU_u hZ185U hZ188 (Or.inr (List.Mem.head _))
            have hZ188K : zC [14, 42, 44, 45, 46, 47, 48, 53, 1106, 1112] Zs Z188 := zC_u hZ185K hZ188 (by decide)
            intro μ9 e9
            replace e9 := e9.trans (zm_wI (Z := Z185) (ν := ν) hZ188 (rfl : ((x0b : Nat) : Int) = x0b) (i3I (y := x4) (rfl : i3 x4 = i3 x4) (by omega) (by omega) (by omega)) (show ((4 : Nat) : Int) = 4 from rfl) (i3S (zm_rd (Z := Z185) (ν := ν) (k := 44) (rfl : ((x0b : Nat) : Int) = x0b) (i3I (y := x4) (rfl : i3 x4 = i3 x4) (by omega) (by omega) (by omega)) (show ((4 : Nat) : Int) = 4 from rfl)) (i3Mn (i3D (i3W (i3S (i3W (i3A (zm_rd (Z := Z) (ν := ν) (k := 45) (rfl : ((x0b : Nat) : Int) = x0b) (i3I (y := (Z 46 x0b v130 0)) (zm_rd (Z := Z) (ν := ν) (k := 46) (rfl : ((x0b : Nat) : Int) = x0b) (i3I (y := v130) (rfl : i3 v130 = i3 v130) (by omega) (by omega) (by omega)) (show ((0 : Nat) : Int) = 0 from rfl)) (by omega) (by omega) (by omega)) (show ((1 : Nat) : Int) = 1 from rfl)) (zm_rd (Z := Z) (ν := ν) (k := 45) (rfl : ((x0b : Nat) : Int) = x0b) (i3I (y := (Z 46 x0b v130 0)) (zm_rd (Z := Z) (ν := ν) (k := 46) (rfl : ((x0b : Nat) : Int) = x0b) (i3I (y := v130) (rfl : i3 v130 = i3 v130) (by omega) (by omega) (by omega)) (show ((0 : Nat) : Int) = 0 from rfl)) (by omega) (by omega) (by omega)) (show ((3 : Nat) : Int) = 3 from rfl)))) (zm_rd (Z := Z) (ν := ν) (k := 45) (rfl : ((x0b : Nat) : Int) = x0b) (i3I (y := (Z 46 x0b v130 0)) (zm_rd (Z := Z) (ν := ν) (k := 46) (rfl : ((x0b : Nat) : Int) = x0b) (i3I (y := v130) (rfl : i3 v130 = i3 v130) (by omega) (by omega) (by omega)) (show ((0 : Nat) : Int) = 0 from rfl)) (by omega) (by omega) (by omega)) (show ((4 : Nat) : Int) = 4 from rfl)))) (i3S (i3Mn (i3A (rfl : i3 x9 = i3 x9) (i3M (zm_rd (Z := Z) (ν := ν) (k := 48) (rfl : ((x0b : Nat) : Int) = x0b) ex2i (show ((4 : Nat) : Int) = 4 from rfl)) (rfl : i3 x8 = i3 x8))) (rfl : i3 x5 = i3 x5) (by omega) (by omega) (by omega) (by omega)) (i3M (rfl : i3 x8 = i3 x8) (i3Mn (i3D (i3S (i3Mn (i3A (rfl : i3 x9 = i3 x9) (i3M (zm_rd (Z := Z) (ν := ν) (k := 48) (rfl : ((x0b : Nat) : Int) = x0b) ex2i (show ((4 : Nat) : Int) = 4 from rfl)) (rfl : i3 x8 = i3 x8))) (rfl : i3 x5 = i3 x5) (by omega) (by omega) (by omega) (by omega)) (rfl : i3 x6 = i3 x6)) (rfl : i3 x8 = i3 x8) (by omega) (by omega) (by omega) (by omega)) (i3D (i3S (i3A (i3Mx (show (0 : Int32) = i3 0 from rfl) (i3S (i3Mn (i3A (rfl : i3 x9 = i3 x9) (i3M (zm_rd (Z := Z) (ν := ν) (k := 48) (rfl : ((x0b : Nat) : Int) = x0b) ex2i (show ((4 : Nat) : Int) = 4 from rfl)) (rfl : i3 x8 = i3 x8))) (rfl : i3 x5 = i3 x5) (by omega) (by omega) (by omega) (by omega)) (rfl : i3 v118 = i3 v118)) (by omega) (by omega) (by omega) (by omega)) (rfl : i3 x8 = i3 x8)) (show (1 : Int32) = i3 1 from rfl)) (rfl : i3 x8 = i3 x8) (by omega) (by omega) (by omega) (by omega)) (by omega) (by omega) (by omega) (by omega)))) (by omega) (by omega) (by omega) (by omega)) (i3Mn (zm_rd (Z := Z) (ν := ν) (k := 44) (rfl : ((x0b : Nat) : Int) = x0b) (i3I (y := x4) (rfl : i3 x4 = i3 x4) (by omega) (by omega) (by omega)) (show ((4 : Nat) : Int) = 4 from rfl)) (zm_rd (Z := Z) (ν := ν) (k := 46) (rfl : ((x0b : Nat) : Int) = x0b) (i3I (y := v130) (rfl : i3 v130 = i3 v130) (by omega) (by omega) (by omega)) (show ((6 : Nat) : Int) = 6 from rfl)) (by omega) (by omega) (by omega) (by omega)) (by omega) (by omega) (by omega) (by omega))))
            subst e9
            have r189 := zH_k hZ188I 44 x0b x4 5 (lo := 0) (hi := 40) (by decide) rfl
            have q190 := (zu_ne (k' := 44) (b' := x0b) (i' := x4) (j' := 5) hZ188 (fun q => absurd q.2.2.2 (by decide))).trans ((zu_ne (k' := 44) (b' := x0b) (i' := x4) (j' := 5) hZ185 (fun q => absurd q.1 (by decide))).trans ((zu_ne (k' := 44) (b' := x0b) (i' := x4) (j' := 5) hZ181 (fun q => absurd q.1 (by decide))).trans ((zu_ne (k' := 44) (b' := x0b) (i' := x4) (j' := 5) hZ178 (fun q => absurd q.1 (by decide))).trans ((zu_ne (k' := 44) (b' := x0b) (i' := x4) (j' := 5) hZ176 (fun q => absurd q.1 (by decide))).trans ((zu_ne (k' := 44) (b' := x0b) (i' := x4) (j' := 5) hZ175 (fun q => absurd q.1 (by decide))).trans ((zu_ne (k' := 44) (b' := x0b) (i' := x4) (j' := 5) hZ174 (fun q => absurd q.1 (by decide))).trans ((zu_ne (k' := 44) (b' := x0b) (i' := x4) (j' := 5) hZ173 (fun q => absurd q.1 (by decide))).trans ((zu_ne (k' := 44) (b' := x0b) (i' := x4) (j' := 5) hZ169 (fun q => absurd q.1 (by decide))).trans ((zu_ne (k' := 44) (b' := x0b) (i' := x4) (j' := 5) hZ166 (fun q => absurd q.1 (by decide))).trans ((zu_ne (k' := 44) (b' := x0b) (i' := x4) (j' := 5) hZ165 (fun q => absurd q.1 (by decide))).trans ((zu_ne (k' := 44) (b' := x0b) (i' := x4) (j' := 5) hZ163 (fun q => absurd q.1 (by decide))).trans ((zu_ne (k' := 44) (b' := x0b) (i' := x4) (j' := 5) hZ161 (fun q => absurd q.1 (by decide))).trans ((zu_ne (k' := 44) (b' := x0b) (i' := x4) (j' := 5) hZ159 (fun q => absurd q.1 (by decide))).trans (zu_ne (k' := 44) (b' := x0b) (i' := x4) (j' := 5) hZ158 (fun q => absurd q.1 (by decide))))))))))))))))
            have r191 := zH_k hZ188I 47 x0b (Z 11 x0b 0 6) 4 (lo := 0) (hi := 40) (by decide) rfl
            have q192 := (zu_ne (k' := 47) (b' := x0b) (i' := (Z 11 x0b 0 6)) (j' := 4) hZ188 (fun q => absurd q.1 (by decide))).trans ((zu_ne (k' := 47) (b' := x0b) (i' := (Z 11 x0b 0 6)) (j' := 4) hZ185 (fun q => absurd q.2.2.2 (by decide))).trans ((zu_ne (k' := 47) (b' := x0b) (i' := (Z 11 x0b 0 6)) (j' := 4) hZ181 (fun q => absurd q.2.2.2 (by decide))).trans ((zu_ne (k' := 47) (b' := x0b) (i' := (Z 11 x0b 0 6)) (j' := 4) hZ178 (fun q => absurd q.2.2.2 (by decide))).trans ((zu_ne (k' := 47) (b' := x0b) (i' := (Z 11 x0b 0 6)) (j' := 4) hZ176 (fun q => absurd q.2.2.2 (by decide))).trans ((zu_ne (k' := 47) (b' := x0b) (i' := (Z 11 x0b 0 6)) (j' := 4) hZ175 (fun q => absurd q.2.2.2 (by decide))).trans ((zu_ne (k' := 47) (b' := x0b) (i' := (Z 11 x0b 0 6)) (j' := 4) hZ174 (fun q => absurd q.2.2.2 (by decide))).trans ((zu_ne (k' := 47) (b' := x0b) (i' := (Z 11 x0b 0 6)) (j' := 4) hZ173 (fun q => absurd q.2.2.2 (by decide))).trans ((zu_ne (k' := 47) (b' := x0b) (i' := (Z 11 x0b 0 6)) (j' := 4) hZ169 (fun q => absurd q.2.2.2 (by decide))).trans ((zu_ne (k' := 47) (b' := x0b) (i' := (Z 11 x0b 0 6)) (j' := 4) hZ166 (fun q => absurd q.2.2.2 (by decide))).trans ((zu_ne (k' := 47) (b' := x0b) (i' := (Z 11 x0b 0 6)) (j' := 4) hZ165 (fun q => absurd q.2.2.2 (by decide))).trans ((zu_ne (k' := 47) (b' := x0b) (i' := (Z 11 x0b 0 6)) (j' := 4) hZ163 (fun q => absurd q.2.2.2 (by decide))).trans ((zu_ne (k' := 47) (b' := x0b) (i' := (Z 11 x0b 0 6)) (j' := 4) hZ161 (fun q => absurd q.2.2.2 (by decide))).trans ((zu_ne (k' := 47) (b' := x0b) (i' := (Z 11 x0b 0 6)) (j' := 4) hZ159 (fun q => absurd q.2.2.2 (by decide))).trans (zu_at hZ158))))))))))))))
            obtain ⟨Z193, hZ193⟩ := zx (zu Z188 44 x0b x4 5 ((Z188 44 x0b x4 5) - (Z188 47 x0b (Z 11 x0b 0 6) 4)))
            replace hP := zl_e hP hZ193
            have hZ193I := zH_u hZ188I hZ193 (lo := 0) (hi := 40) (by decide) rfl (by omega) ⟨by decide, by decide⟩ (Or.inl (by decide)) rfl
            have hZ193U : zU [x0b] Zs Z193 := zU_u hZ188U hZ193 (Or.inr (List.Mem.head _))
            have hZ193K : zC [14, 42, 44, 45, 46, 47, 48, 53, 1106, 1112] Zs Z193 := zC_u hZ188K hZ193 (by decide)
            intro μ9 e9
            replace e9 := e9.trans (zm_wI (Z := Z188) (ν := ν) hZ193 (rfl : ((x0b : Nat) : Int) = x0b) (i3I (y := x4) (rfl : i3 x4 = i3 x4) (by omega) (by omega) (by omega)) (show ((5 : Nat) : Int) = 5 from rfl) (i3S (zm_rd (Z := Z188) (ν := ν) (k := 44) (rfl : ((x0b : Nat) : Int) = x0b) (i3I (y := x4) (rfl : i3 x4 = i3 x4) (by omega) (by omega) (by omega)) (show ((5 : Nat) : Int) = 5 from rfl)) (zm_rd (Z := Z188) (ν := ν) (k := 47) (rfl : ((x0b : Nat) : Int) = x0b) (i3I (y := (Z 11 x0b 0 6)) (zm_rd (Z := Z) (ν := ν) (k := 11) (rfl : ((x0b : Nat) : Int) = x0b) (show ((0 : Nat) : Int) = 0 from rfl) (show ((6 : Nat) : Int) = 6 from rfl)) (by omega) (by omega) (by omega)) (show ((4 : Nat) : Int) = 4 from rfl))))
            subst e9
            have r194 := zH_k hZ193I 46 x0b v130 6 (lo := 0) (hi := 99) (by decide) rfl
            have q195 := (zu_ne (k' := 46) (b' := x0b) (i' := v130) (j' := 6) hZ193 (fun q => absurd q.1 (by decide))).trans ((zu_ne (k' := 46) (b' := x0b) (i' := v130) (j' := 6) hZ188 (fun q => absurd q.1 (by decide))).trans ((zu_ne (k' := 46) (b' := x0b) (i' := v130) (j' := 6) hZ185 (fun q => absurd q.1 (by decide))).trans ((zu_ne (k' := 46) (b' := x0b) (i' := v130) (j' := 6) hZ181 (fun q => absurd q.1 (by decide))).trans ((zu_ne (k' := 46) (b' := x0b) (i' := v130) (j' := 6) hZ178 (fun q => absurd q.1 (by decide))).trans ((zu_ne (k' := 46) (b' := x0b) (i' := v130) (j' := 6) hZ176 (fun q => absurd q.1 (by decide))).trans ((zu_ne (k' := 46) (b' := x0b) (i' := v130) (j' := 6) hZ175 (fun q => absurd q.1 (by decide))).trans ((zu_ne (k' := 46) (b' := x0b) (i' := v130) (j' := 6) hZ174 (fun q => absurd q.1 (by decide))).trans ((zu_ne (k' := 46) (b' := x0b) (i' := v130) (j' := 6) hZ173 (fun q => absurd q.1 (by decide))).trans ((zu_ne (k' := 46) (b' := x0b) (i' := v130) (j' := 6) hZ169 (fun q => absurd q.1 (by decide))).trans ((zu_ne (k' := 46) (b' := x0b) (i' := v130) (j' := 6) hZ166 (fun q => absurd q.1 (by decide))).trans ((zu_ne (k' := 46) (b' := x0b) (i' := v130) (j' := 6) hZ165 (fun q => absurd q.1 (by decide))).trans ((zu_ne (k' := 46) (b' := x0b) (i' := v130) (j' := 6) hZ163 (fun q => absurd q.1 (by decide))).trans ((zu_ne (k' := 46) (b' := x0b) (i' := v130) (j' := 6) hZ161 (fun q => absurd q.1 (by decide))).trans ((zu_ne (k' := 46) (b' := x0b) (i' := v130) (j' := 6) hZ159 (fun q => absurd q.1 (by decide))).trans ((zu_ne (k' := 46) (b' := x0b) (i' := v130) (j' := 6) hZ158 (fun q => absurd q.1 (by decide))).trans ((zu_ne (k' := 46) (b' := x0b) (i' := v130) (j' := 6) hZ149 (fun q => absurd q.1 (by decide))).trans ((zu_ne (k' := 46) (b' := x0b) (i' := v130) (j' := 6) hZ144 (fun q => absurd q.1 (by decide))).trans ((zu_ne (k' := 46) (b' := x0b) (i' := v130) (j' := 6) hZ143 (fun q => absurd q.1 (by decide))).trans ((zu_ne (k' := 46) (b' := x0b) (i' := v130) (j' := 6) hZ140 (fun q => absurd q.1 (by decide))).trans (zu_ne (k' := 46) (b' := x0b) (i' := v130) (j' := 6) hZ139 (fun q => absurd q.1 (by decide))))))))))))))))))))))
            obtain ⟨Z196, hZ196⟩ := zx (zu Z193 46 x0b v130 6 ((Z193 46 x0b v130 6) - (min ((w3 ((w3 ((Z 45 x0b (Z 46 x0b v130 0) 1) + (Z 45 x0b (Z 46 x0b v130 0) 3))) - (Z 45 x0b (Z 46 x0b v130 0) 4))) / ((min (x9 + ((Z 48 x0b x2ij 4) * x8)) x5) - (x8 * (min (((min (x9 + ((Z 48 x0b x2ij 4) * x8)) x5) - x6) / x8) ((((max 0 ((min (x9 + ((Z 48 x0b x2ij 4) * x8)) x5) - v118)) + x8) - 1) / x8))))) (min (Z 44 x0b x4 4) (Z 46 x0b v130 6)))))
            replace hP := zl_e hP hZ196
            have hZ196I := zH_u hZ193I hZ196 (lo := 0) (hi := 99) (by decide) rfl (by omega) ⟨by decide, by decide⟩ (Or.inl (by decide)) rfl
            have hZ196U : zU [x0b] Zs Z196 := zU_u hZ193U hZ196 (Or.inr (List.Mem.head _))
            have hZ196K : zC [14, 42, 44, 45, 46, 47, 48, 53, 1106, 1112] Zs Z196 := zC_u hZ193K hZ196 (by decide)
            intro μ9 e9
            replace e9 := e9.trans (zm_wI (Z := Z193) (ν := ν) hZ196 (rfl : ((x0b : Nat) : Int) = x0b) (i3I (y := v130) (rfl : i3 v130 = i3 v130) (by omega) (by omega) (by omega)) (show ((6 : Nat) : Int) = 6 from rfl) (i3S (zm_rd (Z := Z193) (ν := ν) (k := 46) (rfl : ((x0b : Nat) : Int) = x0b) (i3I (y := v130) (rfl : i3 v130 = i3 v130) (by omega) (by omega) (by omega)) (show ((6 : Nat) : Int) = 6 from rfl)) (i3Mn (i3D (i3W (i3S (i3W (i3A (zm_rd (Z := Z) (ν := ν) (k := 45) (rfl : ((x0b : Nat) : Int) = x0b) (i3I (y := (Z 46 x0b v130 0)) (zm_rd (Z := Z) (ν := ν) (k := 46) (rfl : ((x0b : Nat) : Int) = x0b) (i3I (y := v130) (rfl : i3 v130 = i3 v130) (by omega) (by omega) (by omega)) (show ((0 : Nat) : Int) = 0 from rfl)) (by omega) (by omega) (by omega)) (show ((1 : Nat) : Int) = 1 from rfl)) (zm_rd (Z := Z) (ν := ν) (k := 45) (rfl : ((x0b : Nat) : Int) = x0b) (i3I (y := (Z 46 x0b v130 0)) (zm_rd (Z := Z) (ν := ν) (k := 46) (rfl : ((x0b : Nat) : Int) = x0b) (i3I (y := v130) (rfl : i3 v130 = i3 v130) (by omega) (by omega) (by omega)) (show ((0 : Nat) : Int) = 0 from rfl)) (by omega) (by omega) (by omega)) (show ((3 : Nat) : Int) = 3 from rfl)))) (zm_rd (Z := Z) (ν := ν) (k := 45) (rfl : ((x0b : Nat) : Int) = x0b) (i3I (y := (Z 46 x0b v130 0)) (zm_rd (Z := Z) (ν := ν) (k := 46) (rfl : ((x0b : Nat) : Int) = x0b) (i3I (y := v130) (rfl : i3 v130 = i3 v130) (by omega) (by omega) (by omega)) (show ((0 : Nat) : Int) = 0 from rfl)) (by omega) (by omega) (by omega)) (show ((4 : Nat) : Int) = 4 from rfl)))) (i3S (i3Mn (i3A (rfl : i3 x9 = i3 x9) (i3M (zm_rd (Z := Z) (ν := ν) (k := 48) (rfl : ((x0b : Nat) : Int) = x0b) ex2i (show ((4 : Nat) : Int) = 4 from rfl)) (rfl : i3 x8 = i3 x8))) (rfl : i3 x5 = i3 x5) (by omega) (by omega) (by omega) (by omega)) (i3M (rfl : i3 x8 = i3 x8) (i3Mn (i3D (i3S (i3Mn (i3A (rfl : i3 x9 = i3 x9) (i3M (zm_rd (Z := Z) (ν := ν) (k := 48) (rfl : ((x0b : Nat) : Int) = x0b) ex2i (show ((4 : Nat) : Int) = 4 from rfl)) (rfl : i3 x8 = i3 x8))) (rfl : i3 x5 = i3 x5) (by omega) (by omega) (by omega) (by omega)) (rfl : i3 x6 = i3 x6)) (rfl : i3 x8 = i3 x8) (by omega) (by omega) (by omega) (by omega)) (i3D (i3S (i3A (i3Mx (show (0 : Int32) = i3 0 from rfl) (i3S (i3Mn (i3A (rfl : i3 x9 = i3 x9) (i3M (zm_rd (Z := Z) (ν := ν) (k := 48) (rfl : ((x0b : Nat) : Int) = x0b) ex2i (show ((4 : Nat) : Int) = 4 from rfl)) (rfl : i3 x8 = i3 x8))) (rfl : i3 x5 = i3 x5) (by omega) (by omega) (by omega) (by omega)) (rfl : i3 v118 = i3 v118)) (by omega) (by omega) (by omega) (by omega)) (rfl : i3 x8 = i3 x8)) (show (1 : Int32) = i3 1 from rfl)) (rfl : i3 x8 = i3 x8) (by omega) (by omega) (by omega) (by omega)) (by omega) (by omega) (by omega) (by omega)))) (by omega) (by omega) (by omega) (by omega)) (i3Mn (zm_rd (Z := Z) (ν := ν) (k := 44) (rfl : ((x0b : Nat) : Int) = x0b) (i3I (y := x4) (rfl : i3 x4 = i3 x4) (by omega) (by omega) (by omega)) (show ((4 : Nat) : Int) = 4 from rfl)) (zm_rd (Z := Z) (ν := ν) (k := 46) (rfl : ((x0b : Nat) : Int) = x0b) (i3I (y := v130) (rfl : i3 v130 = i3 v130) (by omega) (by omega) (by omega)) (show ((6 : Nat) : Int) = 6 from rfl)) (by omega) (by omega) (by omega) (by omega)) (by omega) (by omega) (by omega) (by omega))))
            subst e9
            have r197 := zH_f hZ196I 46 x0b v130 8
            have r198 := w3_r ((Z196 46 x0b v130 8) + (min ((w3 ((w3 ((Z 45 x0b (Z 46 x0b v130 0) 1) + (Z 45 x0b (Z 46 x0b v130 0) 3))) - (Z 45 x0b (Z 46 x0b v130 0) 4))) / ((min (x9 + ((Z 48 x0b x2ij 4) * x8)) x5) - (x8 * (min (((min (x9 + ((Z 48 x0b x2ij 4) * x8)) x5) - x6) / x8) ((((max 0 ((min (x9 + ((Z 48 x0b x2ij 4) * x8)) x5) - v118)) + x8) - 1) / x8))))) (min (Z 44 x0b x4 4) (Z 46 x0b v130 6))))
            obtain ⟨Z199, hZ199⟩ := zx (zu Z196 46 x0b v130 8 (w3 ((Z196 46 x0b v130 8) + (min ((w3 ((w3 ((Z 45 x0b (Z 46 x0b v130 0) 1) + (Z 45 x0b (Z 46 x0b v130 0) 3))) - (Z 45 x0b (Z 46 x0b v130 0) 4))) / ((min (x9 + ((Z 48 x0b x2ij 4) * x8)) x5) - (x8 * (min (((min (x9 + ((Z 48 x0b x2ij 4) * x8)) x5) - x6) / x8) ((((max 0 ((min (x9 + ((Z 48 x0b x2ij 4) * x8)) x5) - v118)) + x8) - 1) / x8))))) (min (Z 44 x0b x4 4) (Z 46 x0b v130 6))))))
            replace hP := zl_e hP hZ199
            have hZ199I := zH_u hZ196I hZ199 (lo := -2147483648) (hi := 2147483647) (by decide) rfl (by omega) ⟨by decide, by decide⟩ (Or.inl (by decide)) rfl
            have hZ199U : zU [x0b] Zs Z199 := zU_u hZ196U hZ199 (Or.inr (List.Mem.head _))
            have hZ199K : zC [14, 42, 44, 45, 46, 47, 48, 53, 1106, 1112] Zs Z199 := zC_u hZ196K hZ199 (by decide)
            intro μ9 e9
            replace e9 := e9.trans (zm_wI (Z := Z196) (ν := ν) hZ199 (rfl : ((x0b : Nat) : Int) = x0b) (i3I (y := v130) (rfl : i3 v130 = i3 v130) (by omega) (by omega) (by omega)) (show ((8 : Nat) : Int) = 8 from rfl) (i3W (i3A (zm_rd (Z := Z196) (ν := ν) (k := 46) (rfl : ((x0b : Nat) : Int) = x0b) (i3I (y := v130) (rfl : i3 v130 = i3 v130) (by omega) (by omega) (by omega)) (show ((8 : Nat) : Int) = 8 from rfl)) (i3Mn (i3D (i3W (i3S (i3W (i3A (zm_rd (Z := Z) (ν := ν) (k := 45) (rfl : ((x0b : Nat) : Int) = x0b) (i3I (y := (Z 46 x0b v130 0)) (zm_rd (Z := Z) (ν := ν) (k := 46) (rfl : ((x0b : Nat) : Int) = x0b) (i3I (y := v130) (rfl : i3 v130 = i3 v130) (by omega) (by omega) (by omega)) (show ((0 : Nat) : Int) = 0 from rfl)) (by omega) (by omega) (by omega)) (show ((1 : Nat) : Int) = 1 from rfl)) (zm_rd (Z := Z) (ν := ν) (k := 45) (rfl : ((x0b : Nat) : Int) = x0b) (i3I (y := (Z 46 x0b v130 0)) (zm_rd (Z := Z) (ν := ν) (k := 46) (rfl : ((x0b : Nat) : Int) = x0b) (i3I (y := v130) (rfl : i3 v130 = i3 v130) (by omega) (by omega) (by omega)) (show ((0 : Nat) : Int) = 0 from rfl)) (by omega) (by omega) (by omega)) (show ((3 : Nat) : Int) = 3 from rfl)))) (zm_rd (Z := Z) (ν := ν) (k := 45) (rfl : ((x0b : Nat) : Int) = x0b) (i3I (y := (Z 46 x0b v130 0)) (zm_rd (Z := Z) (ν := ν) (k := 46) (rfl : ((x0b : Nat) : Int) = x0b) (i3I (y := v130) (rfl : i3 v130 = i3 v130) (by omega) (by omega) (by omega)) (show ((0 : Nat) : Int) = 0 from rfl)) (by omega) (by omega) (by omega)) (show ((4 : Nat) : Int) = 4 from rfl)))) (i3S (i3Mn (i3A (rfl : i3 x9 = i3 x9) (i3M (zm_rd (Z := Z) (ν := ν) (k := 48) (rfl : ((x0b : Nat) : Int) = x0b) ex2i (show ((4 : Nat) : Int) = 4 from rfl)) (rfl : i3 x8 = i3 x8))) (rfl : i3 x5 = i3 x5) (by omega) (by omega) (by omega) (by omega)) (i3M (rfl : i3 x8 = i3 x8) (i3Mn (i3D (i3S (i3Mn (i3A (rfl : i3 x9 = i3 x9) (i3M (zm_rd (Z := Z) (ν := ν) (k := 48) (rfl : ((x0b : Nat) : Int) = x0b) ex2i (show ((4 : Nat) : Int) = 4 from rfl)) (rfl : i3 x8 = i3 x8))) (rfl : i3 x5 = i3 x5) (by omega) (by omega) (by omega) (by omega)) (rfl : i3 x6 = i3 x6)) (rfl : i3 x8 = i3 x8) (by omega) (by omega) (by omega) (by omega)) (i3D (i3S (i3A (i3Mx (show (0 : Int32) = i3 0 from rfl) (i3S (i3Mn (i3A (rfl : i3 x9 = i3 x9) (i3M (zm_rd (Z := Z) (ν := ν) (k := 48) (rfl : ((x0b : Nat) : Int) = x0b) ex2i (show ((4 : Nat) : Int) = 4 from rfl)) (rfl : i3 x8 = i3 x8))) (rfl : i3 x5 = i3 x5) (by omega) (by omega) (by omega) (by omega)) (rfl : i3 v118 = i3 v118)) (by omega) (by omega) (by omega) (by omega)) (rfl : i3 x8 = i3 x8)) (show (1 : Int32) = i3 1 from rfl)) (rfl : i3 x8 = i3 x8) (by omega) (by omega) (by omega) (by omega)) (by omega) (by omega) (by omega) (by omega)))) (by omega) (by omega) (by omega) (by omega)) (i3Mn (zm_rd (Z := Z) (ν := ν) (k := 44) (rfl : ((x0b : Nat) : Int) = x0b) (i3I (y := x4) (rfl : i3 x4 = i3 x4) (by omega) (by omega) (by omega)) (show ((4 : Nat) : Int) = 4 from rfl)) (zm_rd (Z := Z) (ν := ν) (k := 46) (rfl : ((x0b : Nat) : Int) = x0b) (i3I (y := v130) (rfl : i3 v130 = i3 v130) (by omega) (by omega) (by omega)) (show ((6 : Nat) : Int) = 6 from rfl)) (by omega) (by omega) (by omega) (by omega)) (by omega) (by omega) (by omega) (by omega)))))
            subst e9
            have r200 := zH_f hZ199I 45 x0b (Z 46 x0b v130 0) 4
            have q201 := (zu_ne (k' := 45) (b' := x0b) (i' := (Z 46 x0b v130 0)) (j' := 4) hZ199 (fun q => absurd q.1 (by decide))).trans ((zu_ne (k' := 45) (b' := x0b) (i' := (Z 46 x0b v130 0)) (j' := 4) hZ196 (fun q => absurd q.1 (by decide))).trans ((zu_ne (k' := 45) (b' := x0b) (i' := (Z 46 x0b v130 0)) (j' := 4) hZ193 (fun q => absurd q.1 (by decide))).trans ((zu_ne (k' := 45) (b' := x0b) (i' := (Z 46 x0b v130 0)) (j' := 4) hZ188 (fun q => absurd q.1 (by decide))).trans ((zu_ne (k' := 45) (b' := x0b) (i' := (Z 46 x0b v130 0)) (j' := 4) hZ185 (fun q => absurd q.1 (by decide))).trans ((zu_ne (k' := 45) (b' := x0b) (i' := (Z 46 x0b v130 0)) (j' := 4) hZ181 (fun q => absurd q.1 (by decide))).trans ((zu_ne (k' := 45) (b' := x0b) (i' := (Z 46 x0b v130 0)) (j' := 4) hZ178 (fun q => absurd q.1 (by decide))).trans ((zu_ne (k' := 45) (b' := x0b) (i' := (Z 46 x0b v130 0)) (j' := 4) hZ176 (fun q => absurd q.1 (by decide))).trans ((zu_ne (k' := 45) (b' := x0b) (i' := (Z 46 x0b v130 0)) (j' := 4) hZ175 (fun q => absurd q.1 (by decide))).trans ((zu_ne (k' := 45) (b' := x0b) (i' := (Z 46 x0b v130 0)) (j' := 4) hZ174 (fun q => absurd q.1 (by decide))).trans ((zu_ne (k' := 45) (b' := x0b) (i' := (Z 46 x0b v130 0)) (j' := 4) hZ173 (fun q => absurd q.1 (by decide))).trans ((zu_ne (k' := 45) (b' := x0b) (i' := (Z 46 x0b v130 0)) (j' := 4) hZ169 (fun q => absurd q.1 (by decide))).trans ((zu_ne (k' := 45) (b' := x0b) (i' := (Z 46 x0b v130 0)) (j' := 4) hZ166 (fun q => absurd q.1 (by decide))).trans ((zu_ne (k' := 45) (b' := x0b) (i' := (Z 46 x0b v130 0)) (j' := 4) hZ165 (fun q => absurd q.1 (by decide))).trans ((zu_ne (k' := 45) (b' := x0b) (i' := (Z 46 x0b v130 0)) (j' := 4) hZ163 (fun q => absurd q.1 (by decide))).trans ((zu_ne (k' := 45) (b' := x0b) (i' := (Z 46 x0b v130 0)) (j' := 4) hZ161 (fun q => absurd q.1 (by decide))).trans ((zu_ne (k' := 45) (b' := x0b) (i' := (Z 46 x0b v130 0)) (j' := 4) hZ159 (fun q => absurd q.1 (by decide))).trans ((zu_ne (k' := 45) (b' := x0b) (i' := (Z 46 x0b v130 0)) (j' := 4) hZ158 (fun q => absurd q.1 (by decide))).trans ((zu_ne (k' := 45) (b' := x0b) (i' := (Z 46 x0b v130 0)) (j' := 4) hZ149 (fun q => absurd q.1 (by decide))).trans ((zu_ne (k' := 45) (b' := x0b) (i' := (Z 46 x0b v130 0)) (j' := 4) hZ144 (fun q => absurd q.1 (by decide))).trans ((zu_ne (k' := 45) (b' := x0b) (i' := (Z 46 x0b v130 0)) (j' := 4) hZ143 (fun q => absurd q.1 (by decide))).trans ((zu_ne (k' := 45) (b' := x0b) (i' := (Z 46 x0b v130 0)) (j' := 4) hZ140 (fun q => absurd q.1 (by decide))).trans (zu_ne (k' := 45) (b' := x0b) (i' := (Z 46 x0b v130 0)) (j' := 4) hZ139 (fun q => absurd q.1 (by decide))))))))))))))))))))))))
            have r202 := zH_k hZ199I 47 x0b (Z 11 x0b 0 6) 18 (lo := 0) (hi := 399960) (by decide) rfl
            have q203 := (zu_ne (k' := 47) (b' := x0b) (i' := (Z 11 x0b 0 6)) (j' := 18) hZ199 (fun q => absurd q.1 (by decide))).trans ((zu_ne (k' := 47) (b' := x0b) (i' := (Z 11 x0b 0 6)) (j' := 18) hZ196 (fun q => absurd q.1 (by decide))).trans ((zu_ne (k' := 47) (b' := x0b) (i' := (Z 11 x0b 0 6)) (j' := 18) hZ193 (fun q => absurd q.1 (by decide))).trans ((zu_ne (k' := 47) (b' := x0b) (i' := (Z 11 x0b 0 6)) (j' := 18) hZ188 (fun q => absurd q.1 (by decide))).trans ((zu_ne (k' := 47) (b' := x0b) (i' := (Z 11 x0b 0 6)) (j' := 18) hZ185 (fun q => absurd q.2.2.2 (by decide))).trans (zu_ne (k' := 47) (b' := x0b) (i' := (Z 11 x0b 0 6)) (j' := 18) hZ181 (fun q => absurd q.2.2.2 (by decide)))))))
            have r204 := w3_r ((Z199 45 x0b (Z 46 x0b v130 0) 4) + (Z199 47 x0b (Z 11 x0b 0 6) 18))
            obtain ⟨Z205, hZ205⟩ := zx (zu Z199 45 x0b (Z 46 x0b v130 0) 4 (w3 ((Z199 45 x0b (Z 46 x0b v130 0) 4) + (Z199 47 x0b (Z 11 x0b 0 6) 18))))
            replace hP := zl_e hP hZ205
            have hZ205I := zH_u hZ199I hZ205 (lo := -2147483648) (hi := 2147483647) (by decide) rfl (by omega) ⟨by decide, by decide⟩ (Or.inl (by decide)) rfl
            have hZ205U : zU [x0b] Zs Z205 := zU_u hZ199U hZ205 (Or.inr (List.Mem.head _))
            have hZ205K : zC [14, 42, 44, 45, 46, 47, 48, 53, 1106, 1112] Zs Z205 := zC_u hZ199K hZ205 (by decide)
            intro μ9 e9
            replace e9 := e9.trans (zm_wI (Z := Z199) (ν := ν) hZ205 (rfl : ((x0b : Nat) : Int) = x0b) (i3I (y := (Z 46 x0b v130 0)) (zm_rd (Z := Z) (ν := ν) (k := 46) (rfl : ((x0b : Nat) : Int) = x0b) (i3I (y := v130) (rfl : i3 v130 = i3 v130) (by omega) (by omega) (by omega)) (show ((0 : Nat) : Int) = 0 from rfl)) (by omega) (by omega) (by omega)) (show ((4 : Nat) : Int) = 4 from rfl) (i3W (i3A (zm_rd (Z := Z199) (ν := ν) (k := 45) (rfl : ((x0b : Nat) : Int) = x0b) (i3I (y := (Z 46 x0b v130 0)) (zm_rd (Z := Z) (ν := ν) (k := 46) (rfl : ((x0b : Nat) : Int) = x0b) (i3I (y := v130) (rfl : i3 v130 = i3 v130) (by omega) (by omega) (by omega)) (show ((0 : Nat) : Int) = 0 from rfl)) (by omega) (by omega) (by omega)) (show ((4 : Nat) : Int) = 4 from rfl)) (zm_rd (Z := Z199) (ν := ν) (k := 47) (rfl : ((x0b : Nat) : Int) = x0b) (i3I (y := (Z 11 x0b 0 6)) (zm_rd (Z := Z) (ν := ν) (k := 11) (rfl : ((x0b : Nat) : Int) = x0b) (show ((0 : Nat) : Int) = 0 from rfl) (show ((6 : Nat) : Int) = 6 from rfl)) (by omega) (by omega) (by omega)) (show ((18 : Nat) : Int) = 18 from rfl)))))
            subst e9
            have r206 := zH_f hZ205I 45 x0b (Z 46 x0b v130 0) 9
            have r207 := w3_r ((Z205 45 x0b (Z 46 x0b v130 0) 9) + (min ((w3 ((w3 ((Z 45 x0b (Z 46 x0b v130 0) 1) + (Z 45 x0b (Z 46 x0b v130 0) 3))) - (Z 45 x0b (Z 46 x0b v130 0) 4))) / ((min (x9 + ((Z 48 x0b x2ij 4) * x8)) x5) - (x8 * (min (((min (x9 + ((Z 48 x0b x2ij 4) * x8)) x5) - x6) / x8) ((((max 0 ((min (x9 + ((Z 48 x0b x2ij 4) * x8)) x5) - v118)) + x8) - 1) / x8))))) (min (Z 44 x0b x4 4) (Z 46 x0b v130 6))))
            obtain ⟨Z208, hZ208⟩ := zx (zu Z205 45 x0b (Z 46 x0b v130 0) 9 (w3 ((Z205 45 x0b (Z 46 x0b v130 0) 9) + (min ((w3 ((w3 ((Z 45 x0b (Z 46 x0b v130 0) 1) + (Z 45 x0b (Z 46 x0b v130 0) 3))) - (Z 45 x0b (Z 46 x0b v130 0) 4))) / ((min (x9 + ((Z 48 x0b x2ij 4) * x8)) x5) - (x8 * (min (((min (x9 + ((Z 48 x0b x2ij 4) * x8)) x5) - x6) / x8) ((((max 0 ((min (x9 + ((Z 48 x0b x2ij 4) * x8)) x5) - v118)) + x8) - 1) / x8))))) (min (Z 44 x0b x4 4) (Z 46 x0b v130 6))))))
            replace hP := zl_e hP hZ208
            have hZ208I := zH_u hZ205I hZ208 (lo := -2147483648) (hi := 2147483647) (by decide) rfl (by omega) ⟨by decide, by decide⟩ (Or.inl (by decide)) rfl
            have hZ208U : zU [x0b] Zs Z208 := zU_u hZ205U hZ208 (Or.inr (List.Mem.head _))
            have hZ208K : zC [14, 42, 44, 45, 46, 47, 48, 53, 1106, 1112] Zs Z208 := zC_u hZ205K hZ208 (by decide)
            intro μ9 e9
            replace e9 := e9.trans (zm_wI (Z := Z205) (ν := ν) hZ208 (rfl : ((x0b : Nat) : Int) = x0b) (i3I (y := (Z 46 x0b v130 0)) (zm_rd (Z := Z) (ν := ν) (k := 46) (rfl : ((x0b : Nat) : Int) = x0b) (i3I (y := v130) (rfl : i3 v130 = i3 v130) (by omega) (by omega) (by omega)) (show ((0 : Nat) : Int) = 0 from rfl)) (by omega) (by omega) (by omega)) (show ((9 : Nat) : Int) = 9 from rfl) (i3W (i3A (zm_rd (Z := Z205) (ν := ν) (k := 45) (rfl : ((x0b : Nat) : Int) = x0b) (i3I (y := (Z 46 x0b v130 0)) (zm_rd (Z := Z) (ν := ν) (k := 46) (rfl : ((x0b : Nat) : Int) = x0b) (i3I (y := v130) (rfl : i3 v130 = i3 v130) (by omega) (by omega) (by omega)) (show ((0 : Nat) : Int) = 0 from rfl)) (by omega) (by omega) (by omega)) (show ((9 : Nat) : Int) = 9 from rfl)) (i3Mn (i3D (i3W (i3S (i3W (i3A (zm_rd (Z := Z) (ν := ν) (k := 45) (rfl : ((x0b : Nat) : Int) = x0b) (i3I (y := (Z 46 x0b v130 0)) (zm_rd (Z := Z) (ν := ν) (k := 46) (rfl : ((x0b : Nat) : Int) = x0b) (i3I (y := v130) (rfl : i3 v130 = i3 v130) (by omega) (by omega) (by omega)) (show ((0 : Nat) : Int) = 0 from rfl)) (by omega) (by omega) (by omega)) (show ((1 : Nat) : Int) = 1 from rfl)) (zm_rd (Z := Z) (ν := ν) (k := 45) (rfl : ((x0b : Nat) : Int) = x0b) (i3I (y := (Z 46 x0b v130 0)) (zm_rd (Z := Z) (ν := ν) (k := 46) (rfl : ((x0b : Nat) : Int) = x0b) (i3I (y := v130) (rfl : i3 v130 = i3 v130) (by omega) (by omega) (by omega)) (show ((0 : Nat) : Int) = 0 from rfl)) (by omega) (by omega) (by omega)) (show ((3 : Nat) : Int) = 3 from rfl)))) (zm_rd (Z := Z) (ν := ν) (k := 45) (rfl : ((x0b : Nat) : Int) = x0b) (i3I (y := (Z 46 x0b v130 0)) (zm_rd (Z := Z) (ν := ν) (k := 46) (rfl : ((x0b : Nat) : Int) = x0b) (i3I (y := v130) (rfl : i3 v130 = i3 v130) (by omega) (by omega) (by omega)) (show ((0 : Nat) : Int) = 0 from rfl)) (by omega) (by omega) (by omega)) (show ((4 : Nat) : Int) = 4 from rfl)))) (i3S (i3Mn (i3A (rfl : i3 x9 = i3 x9) (i3M (zm_rd (Z := Z) (ν := ν) (k := 48) (rfl : ((x0b : Nat) : Int) = x0b) ex2i (show ((4 : Nat) : Int) = 4 from rfl)) (rfl : i3 x8 = i3 x8))) (rfl : i3 x5 = i3 x5) (by omega) (by omega) (by omega) (by omega)) (i3M (rfl : i3 x8 = i3 x8) (i3Mn (i3D (i3S (i3Mn (i3A (rfl : i3 x9 = i3 x9) (i3M (zm_rd (Z := Z) (ν := ν) (k := 48) (rfl : ((x0b : Nat) : Int) = x0b) ex2i (show ((4 : Nat) : Int) = 4 from rfl)) (rfl : i3 x8 = i3 x8))) (rfl : i3 x5 = i3 x5) (by omega) (by omega) (by omega) (by omega)) (rfl : i3 x6 = i3 x6)) (rfl : i3 x8 = i3 x8) (by omega) (by omega) (by omega) (by omega)) (i3D (i3S (i3A (i3Mx (show (0 : Int32) = i3 0 from rfl) (i3S (i3Mn (i3A (rfl : i3 x9 = i3 x9) (i3M (zm_rd (Z := Z) (ν := ν) (k := 48) (rfl : ((x0b : Nat) : Int) = x0b) ex2i (show ((4 : Nat) : Int) = 4 from rfl)) (rfl : i3 x8 = i3 x8))) (rfl : i3 x5 = i3 x5) (by omega) (by omega) (by omega) (by omega)) (rfl : i3 v118 = i3 v118)) (by omega) (by omega) (by omega) (by omega)) (rfl : i3 x8 = i3 x8)) (show (1 : Int32) = i3 1 from rfl)) (rfl : i3 x8 = i3 x8) (by omega) (by omega) (by omega) (by omega)) (by omega) (by omega) (by omega) (by omega)))) (by omega) (by omega) (by omega) (by omega)) (i3Mn (zm_rd (Z := Z) (ν := ν) (k := 44) (rfl : ((x0b : Nat) : Int) = x0b) (i3I (y := x4) (rfl : i3 x4 = i3 x4) (by omega) (by omega) (by omega)) (show ((4 : Nat) : Int) = 4 from rfl)) (zm_rd (Z := Z) (ν := ν) (k := 46) (rfl : ((x0b : Nat) : Int) = x0b) (i3I (y := v130) (rfl : i3 v130 = i3 v130) (by omega) (by omega) (by omega)) (show ((6 : Nat) : Int) = 6 from rfl)) (by omega) (by omega) (by omega) (by omega)) (by omega) (by omega) (by omega) (by omega)))))
            subst e9
            obtain ⟨Z209, hZ209, c9, hZ209I, kZ209, jZ209⟩ := sp_6 (ν := ν) hZ208I x0b x0b _ (i3I (y := (Z 11 x0b 0 6)) (zm_rd (Z := Z) (ν := ν) (k := 11) (rfl : ((x0b : Nat) : Int) = x0b) (show ((0 : Nat) : Int) = 0 from rfl) (show ((6 : Nat) : Int) = 6 from rfl)) (by omega) (by omega) (by omega)) (by omega) (zbh (c := 0) (k := 2) hM9 (Nat.le_of_ble_eq_true rfl))
            have hZ209U : zU [x0b] Zs Z209 := zU_t hZ208U jZ209 (zU_b1 (List.Mem.head _) zU_b0)
            have hZ209K : zC [14, 42, 44, 45, 46, 47, 48, 53, 1106, 1112] Zs Z209 := zC_t hZ208K kZ209 (by decide)
            replace hP := zl_e hP hZ209
            refine wz_cV_of (zas (zcons rfl (zcons rfl rfl)) c9) ?_
            clear c9
            have r210 := zH_f hZ209I 48 x0b x2ij 9
            have r211 := w3_r ((Z209 48 x0b x2ij 9) + 1)
            obtain ⟨Z212, hZ212⟩ := zx (zu Z209 48 x0b x2ij 9 (w3 ((Z209 48 x0b x2ij 9) + 1)))
            replace hP := zl_e hP hZ212
            have hZ212I := zH_u hZ209I hZ212 (lo := -2147483648) (hi := 2147483647) (by decide) rfl (by omega) ⟨by decide, by decide⟩ (Or.inl (by decide)) rfl
            have hZ212U : zU [x0b] Zs Z212 := zU_u hZ209U hZ212 (Or.inr (List.Mem.head _))
            have hZ212K : zC [14, 42, 44, 45, 46, 47, 48, 53, 1106, 1112] Zs Z212 := zC_u hZ209K hZ212 (by decide)
            intro μ9 e9
            replace e9 := e9.trans (zm_wI (Z := Z209) (ν := ν) hZ212 (rfl : ((x0b : Nat) : Int) = x0b) ex2i (show ((9 : Nat) : Int) = 9 from rfl) (i3W (i3A (zm_rd (Z := Z209) (ν := ν) (k := 48) (rfl : ((x0b : Nat) : Int) = x0b) ex2i (show ((9 : Nat) : Int) = 9 from rfl)) (show (1 : Int32) = i3 1 from rfl))))
            subst e9
            refine wz_i1 rfl ?_
            refine wz_i0 (i3O (n := 21) (show (3 : Int32) = i3 3 from rfl) (by omega) (by omega) (by omega)) ?_
            have r213 := zH_f hZ212I 48 x0b x2ij 10
            have r214 := zH_k hZ212I 47 x0b (Z 11 x0b 0 6) 3 (lo := 0) (hi := 40) (by decide) rfl
            have q215 := (zu_ne (k' := 47) (b' := x0b) (i' := (Z 11 x0b 0 6)) (j' := 3) hZ212 (fun q => absurd q.1 (by decide))).trans ((kZ209 47 x0b (Z 11 x0b 0 6) 3 (by decide)).trans ((zu_ne (k' := 47) (b' := x0b) (i' := (Z 11 x0b 0 6)) (j' := 3) hZ208 (fun q => absurd q.1 (by decide))).trans ((zu_ne (k' := 47) (b' := x0b) (i' := (Z 11 x0b 0 6)) (j' := 3) hZ205 (fun q => absurd q.1 (by decide))).trans ((zu_ne (k' := 47) (b' := x0b) (i' := (Z 11 x0b 0 6)) (j' := 3) hZ199 (fun q => absurd q.1 (by decide))).trans ((zu_ne (k' := 47) (b' := x0b) (i' := (Z 11 x0b 0 6)) (j' := 3) hZ196 (fun q => absurd q.1 (by decide))).trans ((zu_ne (k' := 47) (b' := x0b) (i' := (Z 11 x0b 0 6)) (j' := 3) hZ193 (fun q => absurd q.1 (by decide))).trans ((zu_ne (k' := 47) (b' := x0b) (i' := (Z 11 x0b 0 6)) (j' := 3) hZ188 (fun q => absurd q.1 (by decide))).trans ((zu_ne (k' := 47) (b' := x0b) (i' := (Z 11 x0b 0 6)) (j' := 3) hZ185 (fun q => absurd q.2.2.2 (by decide))).trans ((zu_ne (k' := 47) (b' := x0b) (i' := (Z 11 x0b 0 6)) (j' := 3) hZ181 (fun q => absurd q.2.2.2 (by decide))).trans ((zu_ne (k' := 47) (b' := x0b) (i' := (Z 11 x0b 0 6)) (j' := 3) hZ178 (fun q => absurd q.2.2.2 (by decide))).trans ((zu_ne (k' := 47) (b' := x0b) (i' := (Z 11 x0b 0 6)) (j' := 3) hZ176 (fun q => absurd q.2.2.2 (by decide))).trans ((zu_ne (k' := 47) (b' := x0b) (i' := (Z 11 x0b 0 6)) (j' := 3) hZ175 (fun q => absurd q.2.2.2 (by decide))).trans ((zu_ne (k' := 47) (b' := x0b) (i' := (Z 11 x0b 0 6)) (j' := 3) hZ174 (fun q => absurd q.2.2.2 (by decide))).trans ((zu_ne (k' := 47) (b' := x0b) (i' := (Z 11 x0b 0 6)) (j' := 3) hZ173 (fun q => absurd q.2.2.2 (by decide))).trans ((zu_ne (k' := 47) (b' := x0b) (i' := (Z 11 x0b 0 6)) (j' := 3) hZ169 (fun q => absurd q.2.2.2 (by decide))).trans ((zu_ne (k' := 47) (b' := x0b) (i' := (Z 11 x0b 0 6)) (j' := 3) hZ166 (fun q => absurd q.2.2.2 (by decide))).trans ((zu_ne (k' := 47) (b' := x0b) (i' := (Z 11 x0b 0 6)) (j' := 3) hZ165 (fun q => absurd q.2.2.2 (by decide))).trans ((zu_ne (k' := 47) (b' := x0b) (i' := (Z 11 x0b 0 6)) (j' := 3) hZ163 (fun q => absurd q.2.2.2 (by decide))).trans ((zu_ne (k' := 47) (b' := x0b) (i' := (Z 11 x0b 0 6)) (j' := 3) hZ161 (fun q => absurd q.2.2.2 (by decide))).trans ((zu_ne (k' := 47) (b' := x0b) (i' := (Z 11 x0b 0 6)) (j' := 3) hZ159 (fun q => absurd q.2.2.2 (by decide))).trans ((zu_ne (k' := 47) (b' := x0b) (i' := (Z 11 x0b 0 6)) (j' := 3) hZ158 (fun q => absurd q.2.2.2 (by decide))).trans (zu_at hZ149))))))))))))))))))))))
            have r216 := w3_r ((Z212 48 x0b x2ij 10) + (Z212 47 x0b (Z 11 x0b 0 6) 3))
            obtain ⟨Z217, hZ217⟩ := zx (zu Z212 48 x0b x2ij 10 (w3 ((Z212 48 x0b x2ij 10) + (Z212 47 x0b (Z 11 x0b 0 6) 3))))
            replace hP := zl_e hP hZ217
            have hZ217I := zH_u hZ212I hZ217 (lo := -2147483648) (hi := 2147483647) (by decide) rfl (by omega) ⟨by decide, by decide⟩ (Or.inl (by decide)) rfl
            have hZ217U : zU [x0b] Zs Z217 := zU_u hZ212U hZ217 (Or.inr (List.Mem.head _))
            have hZ217K : zC [14, 42, 44, 45, 46, 47, 48, 53, 1106, 1112] Zs Z217 := zC_u hZ212K hZ217 (by decide)
            intro μ9 e9
            replace e9 := e9.trans (zm_wI (Z := Z212) (ν := ν) hZ217 (rfl : ((x0b : Nat) : Int) = x0b) ex2i (show ((10 : Nat) : Int) = 10 from rfl) (i3W (i3A (zm_rd (Z := Z212) (ν := ν) (k := 48) (rfl : ((x0b : Nat) : Int) = x0b) ex2i (show ((10 : Nat) : Int) = 10 from rfl)) (zm_rd (Z := Z212) (ν := ν) (k := 47) (rfl : ((x0b : Nat) : Int) = x0b) (i3I (y := (Z 11 x0b 0 6)) (zm_rd (Z := Z) (ν := ν) (k := 11) (rfl : ((x0b : Nat) : Int) = x0b) (show ((0 : Nat) : Int) = 0 from rfl) (show ((6 : Nat) : Int) = 6 from rfl)) (by omega) (by omega) (by omega)) (show ((3 : Nat) : Int) = 3 from rfl)))))
            subst e9
            refine wz_i1 rfl ?_
            refine wz_i0 (i3O (n := 21) (show (18 : Int32) = i3 18 from rfl) (by omega) (by omega) (by omega)) ?_
            have r218 := zH_f hZ217I 48 x0b x2ij 11
            have r219 := zH_k hZ217I 47 x0b (Z 11 x0b 0 6) 18 (lo := 0) (hi := 399960) (by decide) rfl
            have q220 := (zu_ne (k' := 47) (b' := x0b) (i' := (Z 11 x0b 0 6)) (j' := 18) hZ217 (fun q => absurd q.1 (by decide))).trans ((zu_ne (k' := 47) (b' := x0b) (i' := (Z 11 x0b 0 6)) (j' := 18) hZ212 (fun q => absurd q.1 (by decide))).trans ((kZ209 47 x0b (Z 11 x0b 0 6) 18 (by decide)).trans ((zu_ne (k' := 47) (b' := x0b) (i' := (Z 11 x0b 0 6)) (j' := 18) hZ208 (fun q => absurd q.1 (by decide))).trans (zu_ne (k' := 47) (b' := x0b) (i' := (Z 11 x0b 0 6)) (j' := 18) hZ205 (fun q => absurd q.1 (by decide))))))
            have r221 := w3_r ((Z217 48 x0b x2ij 11) + (Z217 47 x0b (Z 11 x0b 0 6) 18))
            obtain ⟨Z222, hZ222⟩ := zx (zu Z217 48 x0b x2ij 11 (w3 ((Z217 48 x0b x2ij 11) + (Z217 47 x0b (Z 11 x0b 0 6) 18))))
            replace hP := zl_e hP hZ222
            have hZ222I := zH_u hZ217I hZ222 (lo := -2147483648) (hi := 2147483647) (by decide) rfl (by omega) ⟨by decide, by decide⟩ (Or.inl (by decide)) rfl
            have hZ222U : zU [x0b] Zs Z222 := zU_u hZ217U hZ222 (Or.inr (List.Mem.head _))
            have hZ222K : zC [14, 42, 44, 45, 46, 47, 48, 53, 1106, 1112] Zs Z222 := zC_u hZ217K hZ222 (by decide)
            intro μ9 e9
            replace e9 := e9.trans (zm_wI (Z := Z217) (ν := ν) hZ222 (rfl : ((x0b : Nat) : Int) = x0b) ex2i (show ((11 : Nat) : Int) = 11 from rfl) (i3W (i3A (zm_rd (Z := Z217) (ν := ν) (k := 48) (rfl : ((x0b : Nat) : Int) = x0b) ex2i (show ((11 : Nat) : Int) = 11 from rfl)) (zm_rd (Z := Z217) (ν := ν) (k := 47) (rfl : ((x0b : Nat) : Int) = x0b) (i3I (y := (Z 11 x0b 0 6)) (zm_rd (Z := Z) (ν := ν) (k := 11) (rfl : ((x0b : Nat) : Int) = x0b) (show ((0 : Nat) : Int) = 0 from rfl) (show ((6 : Nat) : Int) = 6 from rfl)) (by omega) (by omega) (by omega)) (show ((18 : Nat) : Int) = 18 from rfl)))))
            subst e9
            have r223 := zH_k hZ222I 48 x0b x1 5 (lo := 0) (hi := 12) (by decide) rfl
            have q224 := (zu_ne (k' := 48) (b' := x0b) (i' := x1) (j' := 5) hZ222 (fun q => absurd q.2.2.2 (by decide))).trans ((zu_ne (k' := 48) (b' := x0b) (i' := x1) (j' := 5) hZ217 (fun q => absurd q.2.2.2 (by decide))).trans ((zu_ne (k' := 48) (b' := x0b) (i' := x1) (j' := 5) hZ212 (fun q => absurd q.2.2.2 (by decide))).trans ((kZ209 48 x0b x1 5 (by decide)).trans ((zu_ne (k' := 48) (b' := x0b) (i' := x1) (j' := 5) hZ208 (fun q => absurd q.1 (by decide))).trans ((zu_ne (k' := 48) (b' := x0b) (i' := x1) (j' := 5) hZ205 (fun q => absurd q.1 (by decide))).trans ((zu_ne (k' := 48) (b' := x0b) (i' := x1) (j' := 5) hZ199 (fun q => absurd q.1 (by decide))).trans ((zu_ne (k' := 48) (b' := x0b) (i' := x1) (j' := 5) hZ196 (fun q => absurd q.1 (by decide))).trans ((zu_ne (k' := 48) (b' := x0b) (i' := x1) (j' := 5) hZ193 (fun q => absurd q.1 (by decide))).trans ((zu_ne (k' := 48) (b' := x0b) (i' := x1) (j' := 5) hZ188 (fun q => absurd q.1 (by decide))).trans ((zu_ne (k' := 48) (b' := x0b) (i' := x1) (j' := 5) hZ185 (fun q => absurd q.1 (by decide))).trans ((zu_ne (k' := 48) (b' := x0b) (i' := x1) (j' := 5) hZ181 (fun q => absurd q.1 (by decide))).trans ((zu_ne (k' := 48) (b' := x0b) (i' := x1) (j' := 5) hZ178 (fun q => absurd q.1 (by decide))).trans ((zu_ne (k' := 48) (b' := x0b) (i' := x1) (j' := 5) hZ176 (fun q => absurd q.1 (by decide))).trans ((zu_ne (k' := 48) (b' := x0b) (i' := x1) (j' := 5) hZ175 (fun q => absurd q.1 (by decide))).trans ((zu_ne (k' := 48) (b' := x0b) (i' := x1) (j' := 5) hZ174 (fun q => absurd q.1 (by decide))).trans ((zu_ne (k' := 48) (b' := x0b) (i' := x1) (j' := 5) hZ173 (fun q => absurd q.1 (by decide))).trans ((zu_ne (k' := 48) (b' := x0b) (i' := x1) (j' := 5) hZ169 (fun q => absurd q.1 (by decide))).trans ((zu_ne (k' := 48) (b' := x0b) (i' := x1) (j' := 5) hZ166 (fun q => absurd q.1 (by decide))).trans ((zu_ne (k' := 48) (b' := x0b) (i' := x1) (j' := 5) hZ165 (fun q => absurd q.1 (by decide))).trans ((zu_ne (k' := 48) (b' := x0b) (i' := x1) (j' := 5) hZ163 (fun q => absurd q.1 (by decide))).trans ((zu_ne (k' := 48) (b' := x0b) (i' := x1) (j' := 5) hZ161 (fun q => absurd q.1 (by decide))).trans ((zu_ne (k' := 48) (b' := x0b) (i' := x1) (j' := 5) hZ159 (fun q => absurd q.1 (by decide))).trans ((zu_ne (k' := 48) (b' := x0b) (i' := x1) (j' := 5) hZ158 (fun q => absurd q.1 (by decide))).trans ((zu_ne (k' := 48) (b' := x0b) (i' := x1) (j' := 5) hZ149 (fun q => absurd q.1 (by decide))).trans ((zu_ne (k' := 48) (b' := x0b) (i' := x1) (j' := 5) hZ144 (fun q => absurd q.1 (by decide))).trans ((zu_ne (k' := 48) (b' := x0b) (i' := x1) (j' := 5) hZ143 (fun q => absurd q.1 (by decide))).trans ((zu_ne (k' := 48) (b' := x0b) (i' := x1) (j' := 5) hZ140 (fun q => absurd q.1 (by decide))).trans (zu_ne (k' := 48) (b' := x0b) (i' := x1) (j' := 5) hZ139 (fun q => absurd q.1 (by decide))))))))))))))))))))))))))))))
            obtain ⟨m2, rfl⟩ : ∃ m2, m = m2 + 1 := ⟨m - 1, by omega⟩
            exact wz_k1 ⟨m2, by omega, xM9 + 2, Z222, ((min (x9 + ((Z 48 x0b x2ij 4) * x8)) x5) - (x8 * (min (((min (x9 + ((Z 48 x0b x2ij 4) * x8)) x5) - x6) / x8) ((((max 0 ((min (x9 + ((Z 48 x0b x2ij 4) * x8)) x5) - v118)) + x8) - 1) / x8)))), (x10 + 1), (zconso rfl (zconso (zvo (rfl : i3 x1 = i3 x1)) (zconso rfl (zconso rfl (zconso (zvo (rfl : i3 x4 = i3 x4)) (zconso (zvo (rfl : i3 x5 = i3 x5)) (zconso (zvo (rfl : i3 x6 = i3 x6)) (zconso rfl (zconso (zvo (rfl : i3 x8 = i3 x8)) (zconso (zvo (i3S (i3Mn (i3A (rfl : i3 x9 = i3 x9) (i3M (zm_rd (Z := Z) (ν := ν) (k := 48) (rfl : ((x0b : Nat) : Int) = x0b) ex2i (show ((4 : Nat) : Int) = 4 from rfl)) (rfl : i3 x8 = i3 x8))) (rfl : i3 x5 = i3 x5) (by omega) (by omega) (by omega) (by omega)) (i3M (rfl : i3 x8 = i3 x8) (i3Mn (i3D (i3S (i3Mn (i3A (rfl : i3 x9 = i3 x9) (i3M (zm_rd (Z := Z) (ν := ν) (k := 48) (rfl : ((x0b : Nat) : Int) = x0b) ex2i (show ((4 : Nat) : Int) = 4 from rfl)) (rfl : i3 x8 = i3 x8))) (rfl : i3 x5 = i3 x5) (by omega) (by omega) (by omega) (by omega)) (rfl : i3 x6 = i3 x6)) (rfl : i3 x8 = i3 x8) (by omega) (by omega) (by omega) (by omega)) (i3D (i3S (i3A (i3Mx (show (0 : Int32) = i3 0 from rfl) (i3S (i3Mn (i3A (rfl : i3 x9 = i3 x9) (i3M (zm_rd (Z := Z) (ν := ν) (k := 48) (rfl : ((x0b : Nat) : Int) = x0b) ex2i (show ((4 : Nat) : Int) = 4 from rfl)) (rfl : i3 x8 = i3 x8))) (rfl : i3 x5 = i3 x5) (by omega) (by omega) (by omega) (by omega)) (rfl : i3 v118 = i3 v118)) (by omega) (by omega) (by omega) (by omega)) (rfl : i3 x8 = i3 x8)) (show (1 : Int32) = i3 1 from rfl)) (rfl : i3 x8 = i3 x8) (by omega) (by omega) (by omega) (by omega)) (by omega) (by omega) (by omega) (by omega))))) (zconso (zvo (i3A (rfl : i3 x10 = i3 x10) (show (1 : Int32) = i3 1 from rfl))) (zconso rfl (zconso rfl (zconso rfl (zconso rfl (zconso rfl rfl)))))))))))))))), rfl, by omega, (zbt hZ222I rfl), hZ222K, hZ222U, (zLt_o (zLt_o (zLt_o (zLt_c (zLt_o (zLt_o (zLt_o (zLt_o (zLt_o (zLt_o (zLt_o (zLt_o (zLt_o (zLt_o (zLt_o (zLt_o (zLt_o (zLt_o (zLt_o (zLt_o (zLt_o (zLt_o (zLt_o (zLt_o (zLt_o (zLt_o (zLt_o (zLt_o (zLt_o hLtx0b hZ139 ⟨by decide, .inl (by decide)⟩) hZ140 ⟨by decide, .inl (by decide)⟩) hZ143 ⟨by decide, .inl (by decide)⟩) hZ144 ⟨by decide, .inl (by decide)⟩) hZ149 ⟨by decide, .inl (by decide)⟩) hZ158 ⟨by decide, .inl (by decide)⟩) hZ159 ⟨by decide, .inl (by decide)⟩) hZ161 ⟨by decide, .inl (by decide)⟩) hZ163 ⟨by decide, .inl (by decide)⟩) hZ165 ⟨by decide, .inl (by decide)⟩) hZ166 ⟨by decide, .inl (by decide)⟩) hZ169 ⟨by decide, .inl (by decide)⟩) hZ173 ⟨by decide, .inl (by decide)⟩) hZ174 ⟨by decide, .inl (by decide)⟩) hZ175 ⟨by decide, .inl (by decide)⟩) hZ176 ⟨by decide, .inl (by decide)⟩) hZ178 ⟨by decide, .inl (by decide)⟩) hZ181 ⟨by decide, .inl (by decide)⟩) hZ185 ⟨by decide, .inl (by decide)⟩) hZ188 ⟨by decide, .inl (by decide)⟩) hZ193 ⟨by decide, .inl (by decide)⟩) hZ196 ⟨by decide, .inl (by decide)⟩) hZ199 ⟨by decide, .inl (by decide)⟩) hZ205 ⟨by decide, .inl (by decide)⟩) hZ208 ⟨by decide, .inl (by decide)⟩) kZ209 rfl) hZ212 ⟨by decide, .inr (by decide)⟩) hZ217 ⟨by decide, .inr (by decide)⟩) hZ222 ⟨by decide, .inr (by decide)⟩), by omega, by omega, by omega, by omega, by omega, by omega, by omega, by omega,  hP⟩
          · replace hP := zE_n hP h137
            exact hk _ _ _ _ (zconso rfl (zconso (zvo (rfl : i3 x1 = i3 x1)) (zconso rfl (zconso rfl (zconso (zvo (rfl : i3 x4 = i3 x4)) (zconso rfl (zconso rfl (zconso rfl (zconso rfl (zconso (zvo (i3S (i3Mn (i3A (rfl : i3 x9 = i3 x9) (i3M (zm_rd (Z := Z) (ν := ν) (k := 48) (rfl : ((x0b : Nat) : Int) = x0b) ex2i (show ((4 : Nat) : Int) = 4 from rfl)) (rfl : i3 x8 = i3 x8))) (rfl : i3 x5 = i3 x5) (by omega) (by omega) (by omega) (by omega)) (i3M (rfl : i3 x8 = i3 x8) (i3Mn (i3D (i3S (i3Mn (i3A (rfl : i3 x9 = i3 x9) (i3M (zm_rd (Z := Z) (ν := ν) (k := 48) (rfl : ((x0b : Nat) : Int) = x0b) ex2i (show ((4 : Nat) : Int) = 4 from rfl)) (rfl : i3 x8 = i3 x8))) (rfl : i3 x5 = i3 x5) (by omega) (by omega) (by omega) (by omega)) (rfl : i3 x6 = i3 x6)) (rfl : i3 x8 = i3 x8) (by omega) (by omega) (by omega) (by omega)) (i3D (i3S (i3A (i3Mx (show (0 : Int32) = i3 0 from rfl) (i3S (i3Mn (i3A (rfl : i3 x9 = i3 x9) (i3M (zm_rd (Z := Z) (ν := ν) (k := 48) (rfl : ((x0b : Nat) : Int) = x0b) ex2i (show ((4 : Nat) : Int) = 4 from rfl)) (rfl : i3 x8 = i3 x8))) (rfl : i3 x5 = i3 x5) (by omega) (by omega) (by omega) (by omega)) (rfl : i3 v118 = i3 v118)) (by omega) (by omega) (by omega) (by omega)) (rfl : i3 x8 = i3 x8)) (show (1 : Int32) = i3 1 from rfl)) (rfl : i3 x8 = i3 x8) (by omega) (by omega) (by omega) (by omega)) (by omega) (by omega) (by omega) (by omega))))) (zconso rfl (zconso rfl (zconso rfl (zconso rfl (zconso rfl (zconso rfl rfl)))))))))))))))) (zbx0 hZ (by omega)) hK hU hLtx0b (by omega) (by omega) (by omega) (by omega) (by omega) (by omega) (by omega) hP
        · replace hP := zE_n hP h123
          have r225 := z_mulmin (x := x8) (y := (((min (x9 + ((Z 48 x0b x2ij 4) * x8)) x5) - x6) / x8)) (z := ((((max 0 ((min (x9 + ((Z 48 x0b x2ij 4) * x8)) x5) - v118)) + x8) - 1) / x8)) (by omega)
          have r226 := z_mulmin (x := x8) (y := ((((max 0 ((min (x9 + ((Z 48 x0b x2ij 4) * x8)) x5) - v118)) + x8) - 1) / x8)) (z := (((min (x9 + ((Z 48 x0b x2ij 4) * x8)) x5) - x6) / x8)) (by omega)
          have r227 := z_mulq (x := x8) (y := ((min (x9 + ((Z 48 x0b x2ij 4) * x8)) x5) - x6)) (by omega)
          have r228 := z_mulq (x := x8) (y := (((max 0 ((min (x9 + ((Z 48 x0b x2ij 4) * x8)) x5) - v118)) + x8) - 1)) (by omega)
          have r229 := z_mul (x := x8) (y := (min (((min (x9 + ((Z 48 x0b x2ij 4) * x8)) x5) - x6) / x8) ((((max 0 ((min (x9 + ((Z 48 x0b x2ij 4) * x8)) x5) - v118)) + x8) - 1) / x8))) (a := 500) (b := 9999) (by omega) (by omega) (by omega) (by omega)
          exact hk _ _ _ _ (zconso rfl (zconso (zvo (rfl : i3 x1 = i3 x1)) (zconso rfl (zconso rfl (zconso (zvo (rfl : i3 x4 = i3 x4)) (zconso rfl (zconso rfl (zconso rfl (zconso rfl (zconso (zvo (i3S (i3Mn (i3A (rfl : i3 x9 = i3 x9) (i3M (zm_rd (Z := Z) (ν := ν) (k := 48) (rfl : ((x0b : Nat) : Int) = x0b) ex2i (show ((4 : Nat) : Int) = 4 from rfl)) (rfl : i3 x8 = i3 x8))) (rfl : i3 x5 = i3 x5) (by omega) (by omega) (by omega) (by omega)) (i3M (rfl : i3 x8 = i3 x8) (i3Mn (i3D (i3S (i3Mn (i3A (rfl : i3 x9 = i3 x9) (i3M (zm_rd (Z := Z) (ν := ν) (k := 48) (rfl : ((x0b : Nat) : Int) = x0b) ex2i (show ((4 : Nat) : Int) = 4 from rfl)) (rfl : i3 x8 = i3 x8))) (rfl : i3 x5 = i3 x5) (by omega) (by omega) (by omega) (by omega)) (rfl : i3 x6 = i3 x6)) (rfl : i3 x8 = i3 x8) (by omega) (by omega) (by omega) (by omega)) (i3D (i3S (i3A (i3Mx (show (0 : Int32) = i3 0 from rfl) (i3S (i3Mn (i3A (rfl : i3 x9 = i3 x9) (i3M (zm_rd (Z := Z) (ν := ν) (k := 48) (rfl : ((x0b : Nat) : Int) = x0b) ex2i (show ((4 : Nat) : Int) = 4 from rfl)) (rfl : i3 x8 = i3 x8))) (rfl : i3 x5 = i3 x5) (by omega) (by omega) (by omega) (by omega)) (rfl : i3 v118 = i3 v118)) (by omega) (by omega) (by omega) (by omega)) (rfl : i3 x8 = i3 x8)) (show (1 : Int32) = i3 1 from rfl)) (rfl : i3 x8 = i3 x8) (by omega) (by omega) (by omega) (by omega)) (by omega) (by omega) (by omega) (by omega))))) (zconso rfl (zconso rfl (zconso rfl (zconso rfl (zconso rfl (zconso rfl rfl)))))))))))))))) (zbx0 hZ (by omega)) hK hU hLtx0b (by omega) (by omega) (by omega) (by omega) (by omega) (by omega) (by omega) hP
/- yX3_sellFirst -/
def zf_73 (Z : qz_Z) (a0b : Int) (a1 : Int) : qz_Z := (zlet3 (zl_73_1 a0b a1 (Z 49 a0b (12 * a1) 0) a1 (Z 49 a0b (12 * a1) 0) (Z 49 a0b (12 * a1) 1) (Z 49 a0b (12 * a1) 2) (max 1 (Z 48 a0b a1 3)) 41 Z (Z 49 a0b (12 * a1) 1) 0) (fun Z8 y6 y7 => (zlet (zu Z8 48 a0b a1 6 y6) (fun Z12 => (zlet (zu Z12 48 a0b a1 7 (Z 49 a0b (12 * a1) 0)) (fun Z13 => (zlet (zu Z13 48 a0b a1 8 (w3 ((Z13 48 a0b a1 8) + 1))) (fun Z16 => (zlet (zu Z16 44 a0b (Z 49 a0b (12 * a1) 0) 10 0) (fun Z17 => (zlet (zf_69 Z17 a0b a1 0) (fun Z20 => Z20))))))))))))
theorem sp_73 {s : zSM} {Z : qz_Z} {ν : qz_N} (hZ : zH s Z) (a0b : Nat) {a1 : Int} (ga1 : 0 ≤ a1 ∧ a1 ≤ 1) (gx0 : 1 ≤ Z 48 a0b a1 5) (hLta0b : zLt a0b Z) (hM : s.2 + 82 ≤ 1000000000) : ∃ P : qz_Z, P = zf_73 Z a0b a1 ∧ (qf_73 [.inr (.inr (some (10, a0b, 0))), .inl (i3 a1)] (zm Z ν) = some (zm P ν, .inl none) ∧ zH (zb s 82) P ∧ zC [14, 42, 44, 45, 46, 47, 48, 49, 53, 1106, 1112] Z P ∧ zU [a0b] Z P ∧ zLt a0b P) := by
  obtain ⟨P, hP⟩ := zx (zf_73 Z a0b a1)
  refine zc_V (Q := fun P => zH (zb s 82) P ∧ zC [14, 42, 44, 45, 46, 47, 48, 49, 53, 1106, 1112] Z P ∧ zU [a0b] Z P ∧ zLt a0b P) hP (fw_73 a0b (i3 a1) _ _ ?_)
  replace hP : zE P (zf_73 Z a0b a1) := hP
  unfold zf_73 at hP
  have r1 := zLt_0 hLta0b (c := a1) (by omega) (by omega)
  refine wz_i0 (i3O (n := 2) (rfl : i3 a1 = i3 a1) (by omega) (by omega) (by omega)) ?_
  refine wz_i0 (i3O (n := 24) (i3M (rfl : i3 a1 = i3 a1) (show (12 : Int32) = i3 12 from rfl)) (by omega) (by omega) (by omega)) ?_
  have r2 := zH_k hZ 49 a0b (12 * a1) 0 (lo := 0) (hi := 47) (by decide) rfl
  refine wz_i0 (i3O (n := 48) (zm_rd (Z := Z) (ν := ν) (k := 49) (rfl : ((a0b : Nat) : Int) = a0b) (i3I (y := (12 * a1)) (i3M (rfl : i3 a1 = i3 a1) (show (12 : Int32) = i3 12 from rfl)) (by omega) (by omega) (by omega)) (show ((0 : Nat) : Int) = 0 from rfl)) (by omega) (by omega) (by omega)) ?_
  have r3 := zH_k hZ 49 a0b (12 * a1) 1 (lo := 0) (hi := 9999) (by decide) rfl
  have r4 := zH_k hZ 49 a0b (12 * a1) 2 (lo := 0) (hi := 9999) (by decide) rfl
  have r5 := zH_k hZ 48 a0b a1 3 (lo := 0) (hi := 500) (by decide) rfl
  have r9 := zH_k hZ 48 a0b a1 5 (lo := 0) (hi := 12) (by decide) rfl
  refine sl_73_1 (ν := ν) (zb0 hZ) (zbh (c := 0) (k := 82) hM (Nat.le_of_ble_eq_true rfl)) (xM9 := 0) zC_r a0b _ (i3I (y := a1) (rfl : i3 a1 = i3 a1) (by omega) (by omega) (by omega)) (by omega) _ (i3I (y := (Z 49 a0b (12 * a1) 0)) (zm_rd (Z := Z) (ν := ν) (k := 49) (rfl : ((a0b : Nat) : Int) = a0b) (i3I (y := (12 * a1)) (i3M (rfl : i3 a1 = i3 a1) (show (12 : Int32) = i3 12 from rfl)) (by omega) (by omega) (by omega)) (show ((0 : Nat) : Int) = 0 from rfl)) (by omega) (by omega) (by omega)) (by omega) (x1 := a1) (by omega) (x4 := (Z 49 a0b (12 * a1) 0)) (by omega) (x5 := (Z 49 a0b (12 * a1) 1)) (by omega) (x6 := (Z 49 a0b (12 * a1) 2)) (by omega) (x8 := (max 1 (Z 48 a0b a1 3))) (by omega) (x9 := (Z 49 a0b (12 * a1) 1)) (by omega) (x10 := 0) (by omega) zU_r hLta0b (Nat.le_of_ble_eq_true rfl) (by omega) (by omega) (by omega) (by omega) (by omega) (zconso rfl (zconso (zvo (rfl : i3 a1 = i3 a1)) (zconso rfl (zconso rfl (zconso (zvo (zm_rd (Z := Z) (ν := ν) (k := 49) (rfl : ((a0b : Nat) : Int) = a0b) (i3I (y := (12 * a1)) (i3M (rfl : i3 a1 = i3 a1) (show (12 : Int32) = i3 12 from rfl)) (by omega) (by omega) (by omega)) (show ((0 : Nat) : Int) = 0 from rfl))) (zconso (zvo (zm_rd (Z := Z) (ν := ν) (k := 49) (rfl : ((a0b : Nat) : Int) = a0b) (i3I (y := (12 * a1)) (i3M (rfl : i3 a1 = i3 a1) (show (12 : Int32) = i3 12 from rfl)) (by omega) (by omega) (by omega)) (show ((1 : Nat) : Int) = 1 from rfl))) (zconso (zvo (zm_rd (Z := Z) (ν := ν) (k := 49) (rfl : ((a0b : Nat) : Int) = a0b) (i3I (y := (12 * a1)) (i3M (rfl : i3 a1 = i3 a1) (show (12 : Int32) = i3 12 from rfl)) (by omega) (by omega) (by omega)) (show ((2 : Nat) : Int) = 2 from rfl))) (zconso rfl (zconso (zvo (i3Mx (show (1 : Int32) = i3 1 from rfl) (zm_rd (Z := Z) (ν := ν) (k := 48) (rfl : ((a0b : Nat) : Int) = a0b) (i3I (y := a1) (rfl : i3 a1 = i3 a1) (by omega) (by omega) (by omega)) (show ((3 : Nat) : Int) = 3 from rfl)) (by omega) (by omega) (by omega) (by omega))) (zconso (zvo (zm_rd (Z := Z) (ν := ν) (k := 49) (rfl : ((a0b : Nat) : Int) = a0b) (i3I (y := (12 * a1)) (i3M (rfl : i3 a1 = i3 a1) (show (12 : Int32) = i3 12 from rfl)) (by omega) (by omega) (by omega)) (show ((1 : Nat) : Int) = 1 from rfl))) (zconso (zvo (show (0 : Int32) = i3 0 from rfl)) (zconso rfl (zconso rfl (zconso rfl (zconso rfl (zconso rfl rfl)))))))))))))))) rfl ?_
  intro L10 Z8 y6 y7 hL10 hZ8I kZ8 jZ8 tZ8_x0b gy6 gy7 gL10_0 gL10_1 gL10_2 gL10_3 gL10_4 q9
  replace hP := zl_e3 hP (Eq.symm q9)
  clear q9
  have hZ8U : zU [a0b] Z Z8 := zU_t zU_r jZ8 (zU_b1 (List.Mem.head _) zU_b0)
  have hZ8K : zC [14, 42, 44, 45, 46, 47, 48, 49, 53, 1106, 1112] Z Z8 := zC_t zC_r kZ8 (by decide)
  have r11 := zH_k hZ8I 48 a0b a1 5 (lo := 0) (hi := 12) (by decide) rfl
  refine fc_73_2 _ (i3 a1) _ (i3 (Z 49 a0b (12 * a1) 0)) _ (i3 y6) _ _ _ _ hL10 ?_
  obtain ⟨Z12, hZ12⟩ := zx (zu Z8 48 a0b a1 6 y6)
  replace hP := zl_e hP hZ12
  have hZ12I := zH_u hZ8I hZ12 (lo := -1) (hi := 9999) (by decide) rfl (by omega) ⟨by decide, by decide⟩ (Or.inl (by decide)) rfl
  have hZ12U : zU [a0b] Z Z12 := zU_u hZ8U hZ12 (Or.inr (List.Mem.head _))
  have hZ12K : zC [14, 42, 44, 45, 46, 47, 48, 49, 53, 1106, 1112] Z Z12 := zC_u hZ8K hZ12 (by decide)
  intro μ9 e9
  replace e9 := e9.trans (zm_wI (Z := Z8) (ν := ν) hZ12 (rfl : ((a0b : Nat) : Int) = a0b) (i3I (y := a1) (rfl : i3 a1 = i3 a1) (by omega) (by omega) (by omega)) (show ((6 : Nat) : Int) = 6 from rfl) (rfl : i3 y6 = i3 y6))
  subst e9
  obtain ⟨Z13, hZ13⟩ := zx (zu Z12 48 a0b a1 7 (Z 49 a0b (12 * a1) 0))
  replace hP := zl_e hP hZ13
  have hZ13I := zH_u hZ12I hZ13 (lo := -1) (hi := 47) (by decide) rfl (by omega) ⟨by decide, by decide⟩ (Or.inl (by decide)) rfl
  have hZ13U : zU [a0b] Z Z13 := zU_u hZ12U hZ13 (Or.inr (List.Mem.head _))
  have hZ13K : zC [14, 42, 44, 45, 46, 47, 48, 49, 53, 1106, 1112] Z Z13 := zC_u hZ12K hZ13 (by decide)
  intro μ9 e9
  replace e9 := e9.trans (zm_wI (Z := Z12) (ν := ν) hZ13 (rfl : ((a0b : Nat) : Int) = a0b) (i3I (y := a1) (rfl : i3 a1 = i3 a1) (by omega) (by omega) (by omega)) (show ((7 : Nat) : Int) = 7 from rfl) (rfl : i3 (Z 49 a0b (12 * a1) 0) = i3 (Z 49 a0b (12 * a1) 0)))
  subst e9
  have r14 := zH_f hZ13I 48 a0b a1 8
  have r15 := w3_r ((Z13 48 a0b a1 8) + 1)
  obtain ⟨Z16, hZ16⟩ := zx (zu Z13 48 a0b a1 8 (w3 ((Z13 48 a0b a1 8) + 1)))
  replace hP := zl_e hP hZ16
  have hZ16I := zH_u hZ13I hZ16 (lo := -2147483648) (hi := 2147483647) (by decide) rfl (by omega) ⟨by decide, by decide⟩ (Or.inl (by decide)) rfl
  have hZ16U : zU [a0b] Z Z16 := zU_u hZ13U hZ16 (Or.inr (List.Mem.head _))
  have hZ16K : zC [14, 42, 44, 45, 46, 47, 48, 49, 53, 1106, 1112] Z Z16 := zC_u hZ13K hZ16 (by decide)
  intro μ9 e9
  replace e9 := e9.trans (zm_wI (Z := Z13) (ν := ν) hZ16 (rfl : ((a0b : Nat) : Int) = a0b) (i3I (y := a1) (rfl : i3 a1 = i3 a1) (by omega) (by omega) (by omega)) (show ((8 : Nat) : Int) = 8 from rfl) (i3W (i3A (zm_rd (Z := Z13) (ν := ν) (k := 48) (rfl : ((a0b : Nat) : Int) = a0b) (i3I (y := a1) (rfl : i3 a1 = i3 a1) (by omega) (by omega) (by omega)) (show ((8 : Nat) : Int) = 8 from rfl)) (show (1 : Int32) = i3 1 from rfl))))
  subst e9
  obtain ⟨Z17, hZ17⟩ := zx (zu Z16 44 a0b (Z 49 a0b (12 * a1) 0) 10 0)
  replace hP := zl_e hP hZ17
  have hZ17I := zH_0 hZ16I hZ17 (by decide) (Or.inl (by decide))
  have hZ17U : zU [a0b] Z Z17 := zU_u hZ16U hZ17 (Or.inr (List.Mem.head _))
  have hZ17K : zC [14, 42, 44, 45, 46, 47, 48, 49, 53, 1106, 1112] Z Z17 := zC_u hZ16K hZ17 (by decide)
  intro μ9 e9
  replace e9 := e9.trans (zm_wI (Z := Z16) (ν := ν) hZ17 (rfl : ((a0b : Nat) : Int) = a0b) (i3I (y := (Z 49 a0b (12 * a1) 0)) (zm_rd (Z := Z) (ν := ν) (k := 49) (rfl : ((a0b : Nat) : Int) = a0b) (i3I (y := (12 * a1)) (i3M (rfl : i3 a1 = i3 a1) (show (12 : Int32) = i3 12 from rfl)) (by omega) (by omega) (by omega)) (show ((0 : Nat) : Int) = 0 from rfl)) (by omega) (by omega) (by omega)) (show ((10 : Nat) : Int) = 10 from rfl) (show (0 : Int32) = i3 0 from rfl))
  subst e9
  have r18 := zH_k hZ17I 48 a0b a1 5 (lo := 0) (hi := 12) (by decide) rfl
  have q19 := (zu_ne (k' := 48) (b' := a0b) (i' := a1) (j' := 5) hZ17 (fun q => absurd q.1 (by decide))).trans ((zu_ne (k' := 48) (b' := a0b) (i' := a1) (j' := 5) hZ16 (fun q => absurd q.2.2.2 (by decide))).trans ((zu_ne (k' := 48) (b' := a0b) (i' := a1) (j' := 5) hZ13 (fun q => absurd q.2.2.2 (by decide))).trans (zu_ne (k' := 48) (b' := a0b) (i' := a1) (j' := 5) hZ12 (fun q => absurd q.2.2.2 (by decide)))))
  obtain ⟨Z20, hZ20, c9, hZ20I, kZ20, jZ20⟩ := sp_69 (ν := ν) hZ17I a0b (a1 := a1) (by omega) (a2 := 0) (by omega) (by omega) (zbh (c := 82) (k := 0) hM (Nat.le_of_ble_eq_true rfl))
  have hZ20U : zU [a0b] Z Z20 := zU_t hZ17U jZ20 (zU_b1 (List.Mem.head _) zU_b0)
  have hZ20K : zC [14, 42, 44, 45, 46, 47, 48, 49, 53, 1106, 1112] Z Z20 := zC_t hZ17K kZ20 (by decide)
  replace hP := zl_e hP hZ20
  refine wz_cV_of (zas (zcons rfl (zcons (zvi (rfl : i3 a1 = i3 a1)) (zcons (zvi (show (0 : Int32) = i3 0 from rfl)) rfl))) c9) ?_
  clear c9
  exact zlV hP ⟨hZ20I, hZ20K, hZ20U, (lt_69 hZ20 (zLt_o (zLt_o (zLt_o (zLt_o tZ8_x0b hZ12 ⟨by decide, .inr (by decide)⟩) hZ13 ⟨by decide, .inr (by decide)⟩) hZ16 ⟨by decide, .inr (by decide)⟩) hZ17 ⟨by decide, .inl (by decide)⟩) (by omega) (by omega) (by omega) (by omega))⟩
/- yX3_sellOn -/
def zl_74_1 (x0b : Int) (x1 : Int) (x2 : Int) (x3 : Int) : Nat → qz_Z → Int → qz_Z × Int
  | 0, Z, x4 => (Z, x4)
  | m + 1, Z, x4 => (if x2 ≤ x4 then (Z, x4) else (if (Z 48 x0b x1 5) ≤ 0 then (Z, x4) else (zlet (zf_73 Z x0b x1) (fun Z4 => zl_74_1 x0b x1 x2 x3 m Z4 (x4 + 1)))))
theorem sl_74_1 {s : zSM} {xM9 : Nat} {Zs Z : qz_Z} {ν : qz_N} (hZ : zH (zb s xM9) Z) (hM : s.2 + 1066 ≤ 1000000000) (hK : zC [14, 42, 44, 45, 46, 47, 48, 49, 53, 1106, 1112] Zs Z) (x0b : Nat) {x1 : Int} (gx1 : 0 ≤ x1 ∧ x1 ≤ 1) {x2 : Int} (gx2 : 0 ≤ x2 ∧ x2 ≤ 12) {x3 : Int} (gx3 : -2147483648 ≤ x3 ∧ x3 ≤ 2147483647) {x4 : Int} (gx4 : 0 ≤ x4 ∧ x4 ≤ 12) (hU : zU [x0b] Zs Z) (hLtx0b : zLt x0b Z) (hx9 : xM9 + 82 * ((12 - x4).toNat) + 82 ≤ 1066) {k : wz_K} {R : wz_R} {L : qz_L} (hL : qz_fg [true, true, true, true, true] L = [some (.inr (.inr (some (10, x0b, 0)))), some (.inl (i3 x1)), some (.inl (i3 x2)), some (.inl (i3 x3)), some (.inl (i3 x4))]) {T : qz_Z × Int} (hP : zE T (zl_74_1 x0b x1 x2 x3 ((12 - x4).toNat + 1) Z x4)) (hk : ∀ (L9 : qz_L) (Z9 : qz_Z) (yx4 : Int), qz_fg [true, true, false, true, false] L9 = [some (.inr (.inr (some (10, x0b, 0)))), some (.inl (i3 x1)), none, some (.inl (i3 x3)), none] → zH (zb s 1066) Z9 → zC [14, 42, 44, 45, 46, 47, 48, 49, 53, 1106, 1112] Zs Z9 → zU [x0b] Zs Z9 → zLt x0b Z9 → (0 ≤ yx4 ∧ yx4 ≤ 12) → zE T ((Z9, yx4)) → k 0 (L9, [], zm Z9 ν)) : wz_loop qb_74_1 65536 k R (L, [], zm Z ν) := by
  refine wz_lp sb_74_1 (fun m x => ∃ xM9 : Nat, ∃ Z : qz_Z, ∃ x4 : Int, qz_fg [true, true, true, true, true] x.1 = [some (.inr (.inr (some (10, x0b, 0)))), some (.inl (i3 x1)), some (.inl (i3 x2)), some (.inl (i3 x3)), some (.inl (i3 x4))] ∧ x.2 = ([], zm Z ν) ∧ xM9 + 82 * m + 82 ≤ 1066 ∧ zH (zb s xM9) Z ∧ zC [14, 42, 44, 45, 46, 47, 48, 49, 53, 1106, 1112] Zs Z ∧ zU [x0b] Zs Z ∧ zLt x0b Z ∧ m = (12 - x4).toNat ∧ (0 ≤ x4 ∧ x4 ≤ 12) ∧ zE T (zl_74_1 x0b x1 x2 x3 (m + 1) Z x4)) ?_ 65536 ((12 - x4).toNat) _ (by omega) ⟨xM9, Z, x4, hL, rfl, hx9, hZ, hK, hU, hLtx0b, rfl, gx4, hP⟩
  clear hP gx4 hx9 hZ hK hU hLtx0b hL
  clear x4
  clear Z
  clear xM9
  rintro m ⟨L, st, μ⟩ ⟨xM9, Z, x4, hL, hx, hx9, hZ, hK, hU, hLtx0b, hm, gx4, hP⟩
  cases hx
  have hM9 : (zb s xM9).2 + 82 ≤ 1000000000 := by
    show s.2 + xM9 + 82 ≤ 1000000000
    omega
  refine fb_74_1 x0b (i3 x1) (i3 x2) (i3 x3) (i3 x4) _ _ _ _ hL ?_
  refine wz_br (i3Le (rfl : i3 x2 = i3 x2) (rfl : i3 x4 = i3 x4) (by omega) (by omega) (by omega) (by omega)) (fun h1 => ?_) (fun h1 => ?_)
  · replace hP := zE_p hP h1
    exact hk _ _ _ (zconso rfl (zconso (zvo (rfl : i3 x1 = i3 x1)) (zconso rfl (zconso (zvo (rfl : i3 x3 = i3 x3)) (zconso rfl rfl))))) (zbx0 hZ (by omega)) hK hU hLtx0b (by omega)  hP
  · replace hP := zE_n hP h1
    refine wz_i0 (i3O (n := 2) (rfl : i3 x1 = i3 x1) (by omega) (by omega) (by omega)) ?_
    have r2 := zH_k hZ 48 x0b x1 5 (lo := 0) (hi := 12) (by decide) rfl
    refine wz_br (i3Le (zm_rd (Z := Z) (ν := ν) (k := 48) (rfl : ((x0b : Nat) : Int) = x0b) (i3I (y := x1) (rfl : i3 x1 = i3 x1) (by omega) (by omega) (by omega)) (show ((5 : Nat) : Int) = 5 from rfl)) (show (0 : Int32) = i3 0 from rfl) (by omega) (by omega) (by omega) (by omega)) (fun h3 => ?_) (fun h3 => ?_)
    · replace hP := zE_p hP h3
      exact hk _ _ _ (zconso rfl (zconso (zvo (rfl : i3 x1 = i3 x1)) (zconso rfl (zconso (zvo (rfl : i3 x3 = i3 x3)) (zconso rfl rfl))))) (zbx0 hZ (by omega)) hK hU hLtx0b (by omega)  hP
    · replace hP := zE_n hP h3
      obtain ⟨Z4, hZ4, c9, hZ4I, kZ4, jZ4, tZ4_a0b⟩ := sp_73 (ν := ν) hZ x0b (a1 := x1) (by omega) (by omega) hLtx0b (zbh (c := 0) (k := 82) hM9 (Nat.le_of_ble_eq_true rfl))
      have hZ4U : zU [x0b] Zs Z4 := zU_t hU jZ4 (zU_b1 (List.Mem.head _) zU_b0)
      have hZ4K : zC [14, 42, 44, 45, 46, 47, 48, 49, 53, 1106, 1112] Zs Z4 := zC_t hK kZ4 (by decide)
      replace hP := zl_e hP hZ4
      refine wz_cV_of (zas (zcons rfl (zcons (zvi (rfl : i3 x1 = i3 x1)) rfl)) c9) ?_
      clear c9
      obtain ⟨m2, rfl⟩ : ∃ m2, m = m2 + 1 := ⟨m - 1, by omega⟩
      exact wz_k1 ⟨m2, by omega, xM9 + 82, Z4, (x4 + 1), (zconso rfl (zconso (zvo (rfl : i3 x1 = i3 x1)) (zconso (zvo (rfl : i3 x2 = i3 x2)) (zconso (zvo (rfl : i3 x3 = i3 x3)) (zconso (zvo (i3A (rfl : i3 x4 = i3 x4) (show (1 : Int32) = i3 1 from rfl))) rfl))))), rfl, by omega, (zbt hZ4I rfl), hZ4K, hZ4U, tZ4_a0b, by omega, by omega,  hP⟩
/- yX3_sellOn -/
def zf_74 (Z : qz_Z) (a0b : Int) (a1 : Int) (a2 : Int) : qz_Z × Int := (zlet2 (zl_74_1 a0b a1 a2 (Z 48 a0b a1 11) 13 Z 0) (fun Z3 y2 => (Z3, (w3 ((Z3 48 a0b a1 11) - (Z 48 a0b a1 11))))))
theorem sp_74 {s : zSM} {Z : qz_Z} {ν : qz_N} (hZ : zH s Z) (a0b : Nat) {a1 : Int} (ga1 : 0 ≤ a1 ∧ a1 ≤ 1) {a2 : Int} (ga2 : 0 ≤ a2 ∧ a2 ≤ 12) (hLta0b : zLt a0b Z) (hM : s.2 + 1066 ≤ 1000000000) : ∃ (Z1 : qz_Z) (P : Int), (Z1, P) = zf_74 Z a0b a1 a2 ∧ (qf_74 [.inr (.inr (some (10, a0b, 0))), .inl (i3 a1), .inl (i3 a2)] (zm Z ν) = some (zm Z1 ν, .inl (some (.inl (i3 P)))) ∧ zH (zb s 1066) Z1 ∧ zC [14, 42, 44, 45, 46, 47, 48, 49, 53, 1106, 1112] Z Z1 ∧ zU [a0b] Z Z1 ∧ -2147483648 ≤ P ∧ P ≤ 2147483647 ∧ zLt a0b Z1) := by
  obtain ⟨P, hP⟩ := zx (zf_74 Z a0b a1 a2)
  refine zc_W (Q := fun Z1 P => zH (zb s 1066) Z1 ∧ zC [14, 42, 44, 45, 46, 47, 48, 49, 53, 1106, 1112] Z Z1 ∧ zU [a0b] Z Z1 ∧ -2147483648 ≤ P ∧ P ≤ 2147483647 ∧ zLt a0b Z1) hP (fw_74 a0b (i3 a1) (i3 a2) _ _ ?_)
  replace hP : zE P (zf_74 Z a0b a1 a2) := hP
  unfold zf_74 at hP
  refine wz_i0 (i3O (n := 2) (rfl : i3 a1 = i3 a1) (by omega) (by omega) (by omega)) ?_
  have r1 := zH_f hZ 48 a0b a1 11
  refine sl_74_1 (ν := ν) (zb0 hZ) (zbh (c := 0) (k := 1066) hM (Nat.le_of_ble_eq_true rfl)) (xM9 := 0) zC_r a0b (x1 := a1) (by omega) (x2 := a2) (by omega) (x3 := (Z 48 a0b a1 11)) (by omega) (x4 := 0) (by omega) zU_r hLta0b (Nat.le_of_ble_eq_true rfl)  (zconso rfl (zconso (zvo (rfl : i3 a1 = i3 a1)) (zconso (zvo (rfl : i3 a2 = i3 a2)) (zconso (zvo (zm_rd (Z := Z) (ν := ν) (k := 48) (rfl : ((a0b : Nat) : Int) = a0b) (i3I (y := a1) (rfl : i3 a1 = i3 a1) (by omega) (by omega) (by omega)) (show ((11 : Nat) : Int) = 11 from rfl))) (zconso (zvo (show (0 : Int32) = i3 0 from rfl)) rfl))))) rfl ?_
  intro L4 Z3 y2 hL4 hZ3I kZ3 jZ3 tZ3_x0b gy2 q9
  replace hP := zl_e2 hP (Eq.symm q9)
  clear q9
  have hZ3U : zU [a0b] Z Z3 := zU_t zU_r jZ3 (zU_b1 (List.Mem.head _) zU_b0)
  have hZ3K : zC [14, 42, 44, 45, 46, 47, 48, 49, 53, 1106, 1112] Z Z3 := zC_t zC_r kZ3 (by decide)
  refine fc_74_2 _ (i3 a1) (i3 (Z 48 a0b a1 11)) _ _ _ _ hL4 ?_
  refine wz_i0 (i3O (n := 2) (rfl : i3 a1 = i3 a1) (by omega) (by omega) (by omega)) ?_
  have r5 := zH_f hZ3I 48 a0b a1 11
  have r6 := w3_r ((Z3 48 a0b a1 11) - (Z 48 a0b a1 11))
  exact zlW hP (i3W (i3S (zm_rd (Z := Z3) (ν := ν) (k := 48) (rfl : ((a0b : Nat) : Int) = a0b) (i3I (y := a1) (rfl : i3 a1 = i3 a1) (by omega) (by omega) (by omega)) (show ((11 : Nat) : Int) = 11 from rfl)) (rfl : i3 (Z 48 a0b a1 11) = i3 (Z 48 a0b a1 11)))) ⟨hZ3I, hZ3K, hZ3U, by omega, by omega, tZ3_x0b⟩
/- yX3_bestRowOf -/
def zl_62_1 (x0b : Int) (x1b : Int) (x5 : Int) (x2 : Int) (x4 : Int) : Nat → qz_Z → Int → qz_Z × Int
  | 0, Z, x6 => (Z, x6)
  | m + 1, Z, x6 => (if x4 ≤ x6 then (Z, x6) else (zlet (zf_64 Z x5 x6 (Z 49 x0b (12 * x2 + x6) 0)) (fun Z4 => zl_62_1 x0b x1b x5 x2 x4 m Z4 (x6 + 1))))
theorem sl_62_1 {s : zSM} {Zs Z : qz_Z} {ν : qz_N} (hZ : zH s Z) (hM : s.2 + 0 ≤ 1000000000) (hs : s.1 = none) {n9 : Nat} (hn : ν.2.2.2.1 = n9) (x0b : Nat) (x1b : Nat) (x5 : Nat) (hSx5 : zSh ν x5 50 5) (gAx5 : zA (0) 47 x5 Z) {x2 : Int} (gx2 : 0 ≤ x2 ∧ x2 ≤ 1) {x4 : Int} (gx4 : 0 ≤ x4 ∧ x4 ≤ 5) {x6 : Int} (gx6 : 0 ≤ x6 ∧ x6 ≤ 5) (hK : zL [] [x5] n9 Zs Z) (hU : zU [] Zs Z) {k : wz_K} {R : wz_R} {L : qz_L} (hL : qz_fg [true, true, true, true, true, true, true, false, false, false, false] L = [some (.inr (.inr (some (10, x0b, 0)))), some (.inr (.inr (some (10, x1b, 0)))), some (.inl (i3 x2)), some (.inr (.inr (some (69, 0, 0)))), some (.inl (i3 x4)), some (.inr (.inr (some (200, x5, 0)))), some (.inl (i3 x6)), none, none, none, none]) {T : qz_Z × Int} (hP : zE T (zl_62_1 x0b x1b x5 x2 x4 ((5 - x6).toNat + 1) Z x6)) (hk : ∀ (L9 : qz_L) (Z9 : qz_Z) (yx6 : Int), qz_fg [true, true, true, true, true, true, false, false, false, false, false] L9 = [some (.inr (.inr (some (10, x0b, 0)))), some (.inr (.inr (some (10, x1b, 0)))), some (.inl (i3 x2)), some (.inr (.inr (some (69, 0, 0)))), some (.inl (i3 x4)), some (.inr (.inr (some (200, x5, 0)))), none, none, none, none, none] → zH s Z9 → zL [] [x5] n9 Zs Z9 → zU [] Zs Z9 → zA (0) 47 x5 Z9 → (0 ≤ yx6 ∧ yx6 ≤ 5) → zE T ((Z9, yx6)) → k 0 (L9, [], zm Z9 ν)) : wz_loop qb_62_1 65536 k R (L, [], zm Z ν) := by
  refine wz_lp sb_62_1 (fun m x => ∃ Z : qz_Z, ∃ x6 : Int, qz_fg [true, true, true, true, true, true, true, false, false, false, false] x.1 = [some (.inr (.inr (some (10, x0b, 0)))), some (.inr (.inr (some (10, x1b, 0)))), some (.inl (i3 x2)), some (.inr (.inr (some (69, 0, 0)))), some (.inl (i3 x4)), some (.inr (.inr (some (200, x5, 0)))), some (.inl (i3 x6)), none, none, none, none] ∧ x.2 = ([], zm Z ν) ∧ zH s Z ∧ zL [] [x5] n9 Zs Z ∧ zU [] Zs Z ∧ zA (0) 47 x5 Z ∧ m = (5 - x6).toNat ∧ (0 ≤ x6 ∧ x6 ≤ 5) ∧ zE T (zl_62_1 x0b x1b x5 x2 x4 (m + 1) Z x6)) ?_ 65536 ((5 - x6).toNat) _ (by omega) ⟨Z, x6, hL, rfl, hZ, hK, hU, gAx5, rfl, gx6, hP⟩
  clear hP gx6 hZ hK hU gAx5 hL
  clear x6
  clear Z
  rintro m ⟨L, st, μ⟩ ⟨Z, x6, hL, hx, hZ, hK, hU, gAx5, hm, gx6, hP⟩
  cases hx
  refine fb_62_1 x0b x1b (i3 x2) (i3 x4) x5 (i3 x6) _ _ _ _ hL ?_
  have r1 := hSx5.1
  refine wz_br (i3Le (rfl : i3 x4 = i3 x4) (rfl : i3 x6 = i3 x6) (by omega) (by omega) (by omega) (by omega)) (fun h2 => ?_) (fun h2 => ?_)
  · replace hP := zE_p hP h2
    exact hk _ _ _ (zconso rfl (zconso rfl (zconso (zvo (rfl : i3 x2 = i3 x2)) (zconso rfl (zconso (zvo (rfl : i3 x4 = i3 x4)) (zconso rfl (zconso rfl (zconso rfl (zconso rfl (zconso rfl (zconso rfl rfl))))))))))) hZ hK hU gAx5 (by omega)  hP
  · replace hP := zE_n hP h2
    refine wz_i0 (i3O (n := 24) (i3A (i3M (rfl : i3 x2 = i3 x2) (show (12 : Int32) = i3 12 from rfl)) (rfl : i3 x6 = i3 x6)) (by omega) (by omega) (by omega)) ?_
    have r3 := zH_k hZ 49 x0b (12 * x2 + x6) 0 (lo := 0) (hi := 47) (by decide) rfl
    obtain ⟨Z4, hZ4, c9, hZ4I, kZ4, jZ4, aZ4_a0b⟩ := sp_64 (ν := ν) hZ hs hn x5 hSx5 gAx5 (a1 := x6) (by omega) (a2 := (Z 49 x0b (12 * x2 + x6) 0)) (by omega) (zbh (c := 0) (k := 0) hM (Nat.le_of_ble_eq_true rfl))
    have hZ4U : zU [] Zs Z4 := zU_t hU jZ4 zU_b0
    have hZ4K : zL [] [x5] n9 Zs Z4 := zL_t hK kZ4 (by decide) (zL_b1 (Or.inl (by simp)) zL_b0) (by omega)
    replace hP := zl_e hP hZ4
    refine wz_cV_of (zas (zcons rfl (zcons (zvi (rfl : i3 x6 = i3 x6)) (zcons (zvi (zm_rd (Z := Z) (ν := ν) (k := 49) (rfl : ((x0b : Nat) : Int) = x0b) (i3I (y := (12 * x2 + x6)) (i3A (i3M (rfl : i3 x2 = i3 x2) (show (12 : Int32) = i3 12 from rfl)) (rfl : i3 x6 = i3 x6)) (by omega) (by omega) (by omega)) (show ((0 : Nat) : Int) = 0 from rfl))) rfl))) c9) ?_
    clear c9
    obtain ⟨m2, rfl⟩ : ∃ m2, m = m2 + 1 := ⟨m - 1, by omega⟩
    exact wz_k1 ⟨m2, by omega, Z4, (x6 + 1), (zconso rfl (zconso rfl (zconso (zvo (rfl : i3 x2 = i3 x2)) (zconso rfl (zconso (zvo (rfl : i3 x4 = i3 x4)) (zconso rfl (zconso (zvo (i3A (rfl : i3 x6 = i3 x6) (show (1 : Int32) = i3 1 from rfl))) (zconso rfl (zconso rfl (zconso rfl (zconso rfl rfl))))))))))), rfl, hZ4I, hZ4K, hZ4U, aZ4_a0b, by omega, by omega,  hP⟩
/- yX3_bestRowOf -/
def zl_62_2 (x0b : Int) (x1b : Int) (x5 : Int) (x2 : Int) (x4 : Int) (x6 : Int) (x8 : Int) : Nat → qz_Z → Int → qz_Z × Int
  | 0, Z, x9 => (Z, x9)
  | m + 1, Z, x9 => (if x4 ≤ x9 then (Z, x9) else (zlet (zf_66 Z x0b x2 (Z 200 x5 0 x9)) (fun v4 => (zlet (zu Z 49 x1b (12 * x2 + x9) 0 (Z 200 x5 0 x9)) (fun Z7 => (zlet (zu Z7 49 x1b (12 * x2 + x9) 1 (Z 49 x0b v4 1)) (fun Z9 => (zlet (zu Z9 49 x1b (12 * x2 + x9) 2 (Z 49 x0b v4 2)) (fun Z11 => zl_62_2 x0b x1b x5 x2 x4 x6 x8 m Z11 (x9 + 1))))))))))
theorem sl_62_2 {s : zSM} {Zs Z : qz_Z} {ν : qz_N} (hZ : zH s Z) (hM : s.2 + 0 ≤ 1000000000) (hK : zC [49] Zs Z) (x0b : Nat) (x1b : Nat) (x5 : Nat) (hSx5 : zSh ν x5 50 5) (gAx5 : zA (0) 47 x5 Z) {x2 : Int} (gx2 : 0 ≤ x2 ∧ x2 ≤ 1) {x4 : Int} (gx4 : 0 ≤ x4 ∧ x4 ≤ 5) {x6 : Int} (gx6 : -1 ≤ x6 ∧ x6 ≤ 2147483647) {x8 : Int} (gx8 : 0 ≤ x8 ∧ x8 ≤ 119) {x9 : Int} (gx9 : 0 ≤ x9 ∧ x9 ≤ 5) (hU : zU [x1b] Zs Z) (hLtx0b : zLt x0b Z) (hLtx1b : zLt x1b Z) (gr0 : x0b ≠ x1b) (gr1 : x4 ≤ Z 48 x0b x2 5) {k : wz_K} {R : wz_R} {L : qz_L} (hL : qz_fg [true, true, true, true, true, true, true, false, true, true, false] L = [some (.inr (.inr (some (10, x0b, 0)))), some (.inr (.inr (some (10, x1b, 0)))), some (.inl (i3 x2)), some (.inr (.inr (some (69, 0, 0)))), some (.inl (i3 x4)), some (.inr (.inr (some (200, x5, 0)))), some (.inl (i3 x6)), none, some (.inl (i3 x8)), some (.inl (i3 x9)), none]) {T : qz_Z × Int} (hP : zE T (zl_62_2 x0b x1b x5 x2 x4 x6 x8 ((5 - x9).toNat + 1) Z x9)) (hk : ∀ (L9 : qz_L) (Z9 : qz_Z) (yx9 : Int), qz_fg [true, true, true, true, true, true, true, false, true, false, false] L9 = [some (.inr (.inr (some (10, x0b, 0)))), some (.inr (.inr (some (10, x1b, 0)))), some (.inl (i3 x2)), some (.inr (.inr (some (69, 0, 0)))), some (.inl (i3 x4)), some (.inr (.inr (some (200, x5, 0)))), some (.inl (i3 x6)), none, some (.inl (i3 x8)), none, none] → zH s Z9 → zC [49] Zs Z9 → zU [x1b] Zs Z9 → zA (0) 47 x5 Z9 → zLt x0b Z9 → zLt x1b Z9 → (0 ≤ yx9 ∧ yx9 ≤ 5) → (x0b ≠ x1b) → (x4 ≤ Z9 48 x0b x2 5) → zE T ((Z9, yx9)) → k 0 (L9, [], zm Z9 ν)) : wz_loop qb_62_2 65536 k R (L, [], zm Z ν) := by
  refine wz_lp sb_62_2 (fun m x => ∃ Z : qz_Z, ∃ x9 : Int, qz_fg [true, true, true, true, true, true, true, false, true, true, false] x.1 = [some (.inr (.inr (some (10, x0b, 0)))), some (.inr (.inr (some (10, x1b, 0)))), some (.inl (i3 x2)), some (.inr (.inr (some (69, 0, 0)))), some (.inl (i3 x4)), some (.inr (.inr (some (200, x5, 0)))), some (.inl (i3 x6)), none, some (.inl (i3 x8)), some (.inl (i3 x9)), none] ∧ x.2 = ([], zm Z ν) ∧ zH s Z ∧ zC [49] Zs Z ∧ zU [x1b] Zs Z ∧ zA (0) 47 x5 Z ∧ zLt x0b Z ∧ zLt x1b Z ∧ m = (5 - x9).toNat ∧ (0 ≤ x9 ∧ x9 ≤ 5) ∧ (x0b ≠ x1b) ∧ (x4 ≤ Z 48 x0b x2 5) ∧ zE T (zl_62_2 x0b x1b x5 x2 x4 x6 x8 (m + 1) Z x9)) ?_ 65536 ((5 - x9).toNat) _ (by omega) ⟨Z, x9, hL, rfl, hZ, hK, hU, gAx5, hLtx0b, hLtx1b, rfl, gx9, gr0, gr1, hP⟩
  clear hP gr0 gr1 gx9 hZ hK hU gAx5 hLtx0b hLtx1b hL
  clear x9
  clear Z
  rintro m ⟨L, st, μ⟩ ⟨Z, x9, hL, hx, hZ, hK, hU, gAx5, hLtx0b, hLtx1b, hm, gx9, gr0, gr1, hP⟩
  cases hx
  refine fb_62_2 x0b x1b (i3 x2) (i3 x4) x5 (i3 x6) (i3 x8) (i3 x9) _ _ _ _ hL ?_
  have r1 := zH_k hZ 48 x0b x2 5 (lo := 0) (hi := 12) (by decide) rfl
  refine wz_br (i3Le (rfl : i3 x4 = i3 x4) (rfl : i3 x9 = i3 x9) (by omega) (by omega) (by omega) (by omega)) (fun h2 => ?_) (fun h2 => ?_)
  · replace hP := zE_p hP h2
    exact hk _ _ _ (zconso rfl (zconso rfl (zconso (zvo (rfl : i3 x2 = i3 x2)) (zconso rfl (zconso (zvo (rfl : i3 x4 = i3 x4)) (zconso rfl (zconso (zvo (rfl : i3 x6 = i3 x6)) (zconso rfl (zconso (zvo (rfl : i3 x8 = i3 x8)) (zconso rfl (zconso rfl rfl))))))))))) hZ hK hU gAx5 hLtx0b hLtx1b (by omega) (by omega) (by omega) hP
  · replace hP := zE_n hP h2
    refine wz_i1 (by rw [zSh_t hSx5]; rfl) ?_
    refine wz_i0 (by rw [zSh_l hSx5]; exact i3O (n := 5) (rfl : i3 x9 = i3 x9) (by omega) (by omega) (by omega)) ?_
    have r3 := gAx5 x9
    obtain ⟨n5, v4, hv4, ev4, c9, lv4, uv4, fv4⟩ := sp_66 (ν := ν) hZ x0b (a1 := x2) (by omega) (a2 := (Z 200 x5 0 x9)) (by omega) (by omega) hLtx0b (zbh (c := 0) (k := 0) hM (Nat.le_of_ble_eq_true rfl))
    replace hP := zl_e hP hv4
    refine wz_cR_of (zas (zcons rfl (zcons (zvi (rfl : i3 x2 = i3 x2)) (zcons (zvi (zm_rd (Z := Z) (ν := ν) (k := 200) (rfl : ((x5 : Nat) : Int) = x5) (show ((0 : Nat) : Int) = 0 from rfl) (i3I (y := x9) (rfl : i3 x9 = i3 x9) (by omega) (by omega) (by omega)))) rfl))) c9) ?_
    clear c9
    have r6 := fv4
    refine wz_i1 (by rw [zSh_t hSx5]; rfl) ?_
    refine wz_i0 (by rw [zSh_l hSx5]; exact i3O (n := 5) (rfl : i3 x9 = i3 x9) (by omega) (by omega) (by omega)) ?_
    refine wz_i1 rfl ?_
    refine wz_i0 (i3O (n := 3) (show (1 : Int32) = i3 1 from rfl) (by omega) (by omega) (by omega)) ?_
    refine wz_i1 rfl ?_
    refine wz_i0 (i3O (n := 3) (show (2 : Int32) = i3 2 from rfl) (by omega) (by omega) (by omega)) ?_
    refine wz_i0 (i3O (n := 24) (i3A (i3M (rfl : i3 x2 = i3 x2) (show (12 : Int32) = i3 12 from rfl)) (rfl : i3 x9 = i3 x9)) (by omega) (by omega) (by omega)) ?_
    obtain ⟨Z7, hZ7⟩ := zx (zu Z 49 x1b (12 * x2 + x9) 0 (Z 200 x5 0 x9))
    replace hP := zl_e hP hZ7
    have hZ7I := zH_u hZ hZ7 (lo := 0) (hi := 47) (by decide) rfl (by omega) ⟨by decide, by decide⟩ (Or.inl (by decide)) rfl
    have hZ7U : zU [x1b] Zs Z7 := zU_u hU hZ7 (Or.inr (List.Mem.head _))
    have hZ7K : zC [49] Zs Z7 := zC_u hK hZ7 (by decide)
    intro μ9 e9
    replace e9 := e9.trans (zm_wI (Z := Z) (ν := ν) hZ7 (rfl : ((x1b : Nat) : Int) = x1b) (i3I (y := (12 * x2 + x9)) (i3A (i3M (rfl : i3 x2 = i3 x2) (show (12 : Int32) = i3 12 from rfl)) (rfl : i3 x9 = i3 x9)) (by omega) (by omega) (by omega)) (show ((0 : Nat) : Int) = 0 from rfl) (zm_rd (Z := Z) (ν := ν) (k := 200) (rfl : ((x5 : Nat) : Int) = x5) (show ((0 : Nat) : Int) = 0 from rfl) (i3I (y := x9) (rfl : i3 x9 = i3 x9) (by omega) (by omega) (by omega))))
    subst e9
    refine wz_i0 (i3O (n := 24) (i3A (i3M (rfl : i3 x2 = i3 x2) (show (12 : Int32) = i3 12 from rfl)) (rfl : i3 x9 = i3 x9)) (by omega) (by omega) (by omega)) ?_
    have r8 := zH_k hZ 49 x0b v4 1 (lo := 0) (hi := 9999) (by decide) rfl
    obtain ⟨Z9, hZ9⟩ := zx (zu Z7 49 x1b (12 * x2 + x9) 1 (Z 49 x0b v4 1))
    replace hP := zl_e hP hZ9
    have hZ9I := zH_u hZ7I hZ9 (lo := 0) (hi := 9999) (by decide) rfl (by omega) ⟨by decide, by decide⟩ (Or.inl (by decide)) rfl
    have hZ9U : zU [x1b] Zs Z9 := zU_u hZ7U hZ9 (Or.inr (List.Mem.head _))
    have hZ9K : zC [49] Zs Z9 := zC_u hZ7K hZ9 (by decide)
    intro μ9 e9
    replace e9 := e9.trans (zm_wI (Z := Z7) (ν := ν) hZ9 (rfl : ((x1b : Nat) : Int) = x1b) (i3I (y := (12 * x2 + x9)) (i3A (i3M (rfl : i3 x2 = i3 x2) (show (12 : Int32) = i3 12 from rfl)) (rfl : i3 x9 = i3 x9)) (by omega) (by omega) (by omega)) (show ((1 : Nat) : Int) = 1 from rfl) (zm_rd (Z := Z) (ν := ν) (k := 49) (rfl : ((x0b : Nat) : Int) = x0b) ev4 (show ((1 : Nat) : Int) = 1 from rfl)))
    subst e9
    refine wz_i0 (i3O (n := 24) (i3A (i3M (rfl : i3 x2 = i3 x2) (show (12 : Int32) = i3 12 from rfl)) (rfl : i3 x9 = i3 x9)) (by omega) (by omega) (by omega)) ?_
    have r10 := zH_k hZ 49 x0b v4 2 (lo := 0) (hi := 9999) (by decide) rfl
    obtain ⟨Z11, hZ11⟩ := zx (zu Z9 49 x1b (12 * x2 + x9) 2 (Z 49 x0b v4 2))
    replace hP := zl_e hP hZ11
    have hZ11I := zH_u hZ9I hZ11 (lo := 0) (hi := 9999) (by decide) rfl (by omega) ⟨by decide, by decide⟩ (Or.inl (by decide)) rfl
    have hZ11U : zU [x1b] Zs Z11 := zU_u hZ9U hZ11 (Or.inr (List.Mem.head _))
    have hZ11K : zC [49] Zs Z11 := zC_u hZ9K hZ11 (by decide)
    intro μ9 e9
    replace e9 := e9.trans (zm_wI (Z := Z9) (ν := ν) hZ11 (rfl : ((x1b : Nat) : Int) = x1b) (i3I (y := (12 * x2 + x9)) (i3A (i3M (rfl : i3 x2 = i3 x2) (show (12 : Int32) = i3 12 from rfl)) (rfl : i3 x9 = i3 x9)) (by omega) (by omega) (by omega)) (show ((2 : Nat) : Int) = 2 from rfl) (zm_rd (Z := Z) (ν := ν) (k := 49) (rfl : ((x0b : Nat) : Int) = x0b) ev4 (show ((2 : Nat) : Int) = 2 from rfl)))
    subst e9
    have r12 := zH_k hZ11I 48 x0b x2 5 (lo := 0) (hi := 12) (by decide) rfl
    have q13 := (zu_ne (k' := 48) (b' := x0b) (i' := x2) (j' := 5) hZ11 (fun q => absurd q.1 (by decide))).trans ((zu_ne (k' := 48) (b' := x0b) (i' := x2) (j' := 5) hZ9 (fun q => absurd q.1 (by decide))).trans (zu_ne (k' := 48) (b' := x0b) (i' := x2) (j' := 5) hZ7 (fun q => absurd q.1 (by decide))))
    obtain ⟨m2, rfl⟩ : ∃ m2, m = m2 + 1 := ⟨m - 1, by omega⟩
    exact wz_k1 ⟨m2, by omega, Z11, (x9 + 1), (zconso rfl (zconso rfl (zconso (zvo (rfl : i3 x2 = i3 x2)) (zconso rfl (zconso (zvo (rfl : i3 x4 = i3 x4)) (zconso rfl (zconso (zvo (rfl : i3 x6 = i3 x6)) (zconso rfl (zconso (zvo (rfl : i3 x8 = i3 x8)) (zconso (zvo (i3A (rfl : i3 x9 = i3 x9) (show (1 : Int32) = i3 1 from rfl))) (zconso rfl rfl))))))))))), rfl, hZ11I, hZ11K, hZ11U, (zA_o (zA_o (zA_o gAx5 hZ7 (fun q => absurd q.1 (by decide))) hZ9 (fun q => absurd q.1 (by decide))) hZ11 (fun q => absurd q.1 (by decide))), (zLt_h (zLt_h (zLt_h hLtx0b hZ7 (by omega)) hZ9 (by omega)) hZ11 (by omega)), (lt_w3 hZ7 hZ9 hZ11 hLtx1b (by omega)), by omega, by omega, by omega, by omega,  hP⟩
/- yX3_bestRowOf -/
def zl_62_4 (x0b : Int) (x1b : Int) (x5 : Int) (x2 : Int) (x4 : Int) : Nat → qz_Z → Int → Int → Int → qz_Z × Int × Int × Int
  | 0, Z, x6, x7, x8 => (Z, x6, x7, x8)
  | m + 1, Z, x6, x7, x8 => (if 120 ≤ x8 then (Z, x6, x7, x8) else (if x7 = 0 then (Z, x6, x7, x8) else (zlet (zcp Z x0b x1b) (fun Z5 => (zlet2 (zl_62_2 x0b x1b x5 x2 x4 x6 x8 6 Z5 0) (fun Z7 y6 => (zlet2 (zf_74 Z7 x1b x2 x4) (fun Z13 v14 => (if v14 ≤ x6 then (zlet2 (zf_70 Z13 x5 x4) (fun Z16 v17 => zl_62_4 x0b x1b x5 x2 x4 m Z16 x6 v17 (x8 + 1))) else (zlet (zpy Z13 200 x5 0 69 0 0 0 x4) (fun Z20 => (zlet2 (zf_70 Z20 x5 x4) (fun Z21 v22 => zl_62_4 x0b x1b x5 x2 x4 m Z21 v14 v22 (x8 + 1))))))))))))))
theorem sl_62_4 {s : zSM} {xM9 : Nat} {Zs Z : qz_Z} {ν : qz_N} (hZ : zH (zb s xM9) Z) (hM : s.2 + 128986 ≤ 1000000000) (hs : s.1 = none) {n9 : Nat} (hn : ν.2.2.2.1 = n9) (x0b : Nat) (x1b : Nat) (x5 : Nat) (hSx5 : zSh ν x5 50 5) (gAx5 : zA (0) 47 x5 Z) {x2 : Int} (gx2 : 0 ≤ x2 ∧ x2 ≤ 1) {x4 : Int} (gx4 : 0 ≤ x4 ∧ x4 ≤ 5) {x6 : Int} (gx6 : -1 ≤ x6 ∧ x6 ≤ 2147483647) {x7 : Int} (gx7 : 0 ≤ x7 ∧ x7 ≤ 1) {x8 : Int} (gx8 : 0 ≤ x8 ∧ x8 ≤ 120) (hK : zL [12, 13, 14, 40, 41, 42, 43, 44, 45, 46, 47, 48, 49, 50, 51, 52, 53, 54, 69, 1099, 1100, 1101, 1102, 1103, 1104, 1105, 1106, 1107, 1108, 1109, 1110, 1111, 1112, 1113, 1114, 1115, 1116] [x5] n9 Zs Z) (hU : zU [x1b] Zs Z) (hLtx0b : zLt x0b Z) (hx9 : xM9 + 1066 * ((120 - x8).toNat) + 1066 ≤ 128986) (gr0 : x0b ≠ x1b) (gr1 : x4 ≤ Z 48 x0b x2 5) {k : wz_K} {R : wz_R} {L : qz_L} (hL : qz_fg [true, true, true, true, true, true, true, true, true, false, false] L = [some (.inr (.inr (some (10, x0b, 0)))), some (.inr (.inr (some (10, x1b, 0)))), some (.inl (i3 x2)), some (.inr (.inr (some (69, 0, 0)))), some (.inl (i3 x4)), some (.inr (.inr (some (200, x5, 0)))), some (.inl (i3 x6)), some (.inl (i3 x7)), some (.inl (i3 x8)), none, none]) {T : qz_Z × Int × Int × Int} (hP : zE T (zl_62_4 x0b x1b x5 x2 x4 ((120 - x8).toNat + 1) Z x6 x7 x8)) (hk : ∀ (L9 : qz_L) (Z9 : qz_Z) (yx6 yx7 yx8 : Int), qz_fg [false, false, false, false, false, false, true, false, false, false, false] L9 = [none, none, none, none, none, none, some (.inl (i3 yx6)), none, none, none, none] → zH (zb s 128986) Z9 → zL [12, 13, 14, 40, 41, 42, 43, 44, 45, 46, 47, 48, 49, 50, 51, 52, 53, 54, 69, 1099, 1100, 1101, 1102, 1103, 1104, 1105, 1106, 1107, 1108, 1109, 1110, 1111, 1112, 1113, 1114, 1115, 1116] [x5] n9 Zs Z9 → zU [x1b] Zs Z9 → zA (0) 47 x5 Z9 → zLt x0b Z9 → (-1 ≤ yx6 ∧ yx6 ≤ 2147483647) → (0 ≤ yx7 ∧ yx7 ≤ 1) → (0 ≤ yx8 ∧ yx8 ≤ 120) → (x0b ≠ x1b) → (x4 ≤ Z9 48 x0b x2 5) → zE T ((Z9, yx6, yx7, yx8)) → k 0 (L9, [], zm Z9 ν)) : wz_loop qb_62_4 65536 k R (L, [], zm Z ν) := by
  refine wz_lp sb_62_4 (fun m x => ∃ xM9 : Nat, ∃ Z : qz_Z, ∃ x6 : Int, ∃ x7 : Int, ∃ x8 : Int, qz_fg [true, true, true, true, true, true, true, true, true, false, false] x.1 = [some (.inr (.inr (some (10, x0b, 0)))), some (.inr (.inr (some (10, x1b, 0)))), some (.inl (i3 x2)), some (.inr (.inr (some (69, 0, 0)))), some (.inl (i3 x4)), some (.inr (.inr (some (200, x5, 0)))), some (.inl (i3 x6)), some (.inl (i3 x7)), some (.inl (i3 x8)), none, none] ∧ x.2 = ([], zm Z ν) ∧ xM9 + 1066 * m + 1066 ≤ 128986 ∧ zH (zb s xM9) Z ∧ zL [12, 13, 14, 40, 41, 42, 43, 44, 45, 46, 47, 48, 49, 50, 51, 52, 53, 54, 69, 1099, 1100, 1101, 1102, 1103, 1104, 1105, 1106, 1107, 1108, 1109, 1110, 1111, 1112, 1113, 1114, 1115, 1116] [x5] n9 Zs Z ∧ zU [x1b] Zs Z ∧ zA (0) 47 x5 Z ∧ zLt x0b Z ∧ m = (120 - x8).toNat ∧ (-1 ≤ x6 ∧ x6 ≤ 2147483647) ∧ (0 ≤ x7 ∧ x7 ≤ 1) ∧ (0 ≤ x8 ∧ x8 ≤ 120) ∧ (x0b ≠ x1b) ∧ (x4 ≤ Z 48 x0b x2 5) ∧ zE T (zl_62_4 x0b x1b x5 x2 x4 (m + 1) Z x6 x7 x8)) ?_ 65536 ((120 - x8).toNat) _ (by omega) ⟨xM9, Z, x6, x7, x8, hL, rfl, hx9, hZ, hK, hU, gAx5, hLtx0b, rfl, gx6, gx7, gx8, gr0, gr1, hP⟩
  clear hP gr0 gr1 gx6 gx7 gx8 hx9 hZ hK hU gAx5 hLtx0b hL
  clear x6 x7 x8
  clear Z
  clear xM9
  rintro m ⟨L, st, μ⟩ ⟨xM9, Z, x6, x7, x8, hL, hx, hx9, hZ, hK, hU, gAx5, hLtx0b, hm, gx6, gx7, gx8, gr0, gr1, hP⟩
  cases hx
  have hM9 : (zb s xM9).2 + 1066 ≤ 1000000000 := by
    show s.2 + xM9 + 1066 ≤ 1000000000
    omega
  refine fb_62_4 x0b x1b (i3 x2) (i3 x4) x5 (i3 x6) (i3 x7) (i3 x8) _ _ _ _ hL ?_
  have r1 := hSx5.1
  have r2 := zH_k hZ 48 x0b x2 5 (lo := 0) (hi := 12) (by decide) rfl
  refine wz_br (i3Le (show (120 : Int32) = i3 120 from rfl) (rfl : i3 x8 = i3 x8) (by omega) (by omega) (by omega) (by omega)) (fun h3 => ?_) (fun h3 => ?_)
  · replace hP := zE_p hP h3
    exact hk _ _ _ _ _ (zconso rfl (zconso rfl (zconso rfl (zconso rfl (zconso rfl (zconso rfl (zconso (zvo (rfl : i3 x6 = i3 x6)) (zconso rfl (zconso rfl (zconso rfl (zconso rfl rfl))))))))))) (zbx0 hZ (by omega)) hK hU gAx5 hLtx0b (by omega) (by omega) (by omega) (by omega) (by omega) hP
  · replace hP := zE_n hP h3
    refine wz_br (i3E (rfl : i3 x7 = i3 x7) (show (0 : Int32) = i3 0 from rfl) (by omega) (by omega) (by omega) (by omega)) (fun h4 => ?_) (fun h4 => ?_)
    · replace hP := zE_p hP h4
      exact hk _ _ _ _ _ (zconso rfl (zconso rfl (zconso rfl (zconso rfl (zconso rfl (zconso rfl (zconso (zvo (rfl : i3 x6 = i3 x6)) (zconso rfl (zconso rfl (zconso rfl (zconso rfl rfl))))))))))) (zbx0 hZ (by omega)) hK hU gAx5 hLtx0b (by omega) (by omega) (by omega) (by omega) (by omega) hP
    · replace hP := zE_n hP h4
      obtain ⟨Z5, hZ5, c9, hZ5I, kZ5, gZ5⟩ := zH_cpe (ν := ν) hZ (rfl : ((x0b : Nat) : Int) = x0b) (rfl : ((x1b : Nat) : Int) = x1b) (by omega)
      have fZ5 : zC [12, 13, 14, 40, 41, 42, 43, 44, 45, 46, 47, 48, 49, 50, 51, 52, 53, 54, 1099, 1100, 1101, 1102, 1103, 1104, 1105, 1106, 1107, 1108, 1109, 1110, 1111, 1112, 1113, 1114, 1115, 1116] Z Z5 := zC_k kZ5 (by decide) (by decide)
      have aZ5 : ∀ {k : Nat} {i j : Int}, zhk k i j = true → Z5 k x1b i j = Z k x0b i j := fun hk => zcp_at hZ5 hk
      have hZ5K : zL [12, 13, 14, 40, 41, 42, 43, 44, 45, 46, 47, 48, 49, 50, 51, 52, 53, 54, 69, 1099, 1100, 1101, 1102, 1103, 1104, 1105, 1106, 1107, 1108, 1109, 1110, 1111, 1112, 1113, 1114, 1115, 1116] [x5] n9 Zs Z5 := zL_c hK fZ5 (by decide)
      have jZ5 : zU [x1b] Z Z5 := zU_cp hZ5
      have hZ5U : zU [x1b] Zs Z5 := zU_t hU jZ5 (zU_b1 (List.Mem.head _) zU_b0)
      replace hP := zl_e hP hZ5
      refine wz_cV_of c9 ?_
      clear c9
      have r8 := zH_k hZ5I 48 x0b x2 5 (lo := 0) (hi := 12) (by decide) rfl
      have q9 := gZ5 48 x0b x2 5 (by omega)
      refine sl_62_2 (ν := ν) hZ5I (zbh (c := 0) (k := 0) hM9 (Nat.le_of_ble_eq_true rfl)) zC_r x0b x1b x5 hSx5 (zA_c gAx5 fZ5 (by decide)) (x2 := x2) (by omega) (x4 := x4) (by omega) (x6 := x6) (by omega) (x8 := x8) (by omega) (x9 := 0) (by omega) zU_r (zLt_n hLtx0b jZ5 (by simp <;> omega)) (zLt_cp hLtx0b hZ5) (by omega) (by omega) (zconso rfl (zconso rfl (zconso (zvo (rfl : i3 x2 = i3 x2)) (zconso rfl (zconso (zvo (rfl : i3 x4 = i3 x4)) (zconso rfl (zconso (zvo (rfl : i3 x6 = i3 x6)) (zconso rfl (zconso (zvo (rfl : i3 x8 = i3 x8)) (zconso (zvo (show (0 : Int32) = i3 0 from rfl)) (zconso rfl rfl))))))))))) rfl ?_
      intro L10 Z7 y6 hL10 hZ7I kZ7 jZ7 aZ7_x5 tZ7_x0b tZ7_x1b gy6 gL10_0 gL10_1 q9
      replace hP := zl_e2 hP (Eq.symm q9)
      clear q9
      have hZ7U : zU [x1b] Zs Z7 := zU_t hZ5U jZ7 (zU_b1 (List.Mem.head _) zU_b0)
      have hZ7K : zL [12, 13, 14, 40, 41, 42, 43, 44, 45, 46, 47, 48, 49, 50, 51, 52, 53, 54, 69, 1099, 1100, 1101, 1102, 1103, 1104, 1105, 1106, 1107, 1108, 1109, 1110, 1111, 1112, 1113, 1114, 1115, 1116] [x5] n9 Zs Z7 := zL_c hZ5K kZ7 (by decide)
      have r11 := zH_k hZ7I 48 x0b x2 5 (lo := 0) (hi := 12) (by decide) rfl
      have q12 := kZ7 48 x0b x2 5 (by decide)
      refine fc_62_3 _ _ (i3 x2) (i3 x4) _ (i3 x6) (i3 x8) _ _ _ _ hL10 ?_
      obtain ⟨Z13, v14, hv14, c9, hZ13I, kZ13, jZ13, lv14, uv14, tZ13_a0b⟩ := sp_74 (ν := ν) hZ7I x1b (a1 := x2) (by omega) (a2 := x4) (by omega) tZ7_x1b (zbh (c := 0) (k := 1066) hM9 (Nat.le_of_ble_eq_true rfl))
      have hZ13U : zU [x1b] Zs Z13 := zU_t hZ7U jZ13 (zU_b1 (List.Mem.head _) zU_b0)
      have hZ13K : zL [12, 13, 14, 40, 41, 42, 43, 44, 45, 46, 47, 48, 49, 50, 51, 52, 53, 54, 69, 1099, 1100, 1101, 1102, 1103, 1104, 1105, 1106, 1107, 1108, 1109, 1110, 1111, 1112, 1113, 1114, 1115, 1116] [x5] n9 Zs Z13 := zL_c hZ7K kZ13 (by decide)
      replace hP := zl_e2 hP hv14
      refine wz_cI_of (zas (zcons rfl (zcons (zvi (rfl : i3 x2 = i3 x2)) (zcons (zvi (rfl : i3 x4 = i3 x4)) rfl))) c9) ?_
      clear c9 hv14
      refine wz_br (i3Le (rfl : i3 v14 = i3 v14) (rfl : i3 x6 = i3 x6) (by omega) (by omega) (by omega) (by omega)) (fun h15 => ?_) (fun h15 => ?_)
      · replace hP := zE_p hP h15
        obtain ⟨Z16, v17, hv17, c9, hZ16I, kZ16, jZ16, lv17, uv17, aZ16_a0b⟩ := sp_70 (ν := ν) hZ13I hs hn x5 hSx5 (zA_c (zA_c (zA_c gAx5 fZ5 (by decide)) kZ7 (by decide)) kZ13 (by decide)) (a1 := x4) (by omega) (zbh (c := 1066) (k := 0) hM9 (Nat.le_of_ble_eq_true rfl))
        have hZ16U : zU [x1b] Zs Z16 := zU_t hZ13U jZ16 zU_b0
        have hZ16K : zL [12, 13, 14, 40, 41, 42, 43, 44, 45, 46, 47, 48, 49, 50, 51, 52, 53, 54, 69, 1099, 1100, 1101, 1102, 1103, 1104, 1105, 1106, 1107, 1108, 1109, 1110, 1111, 1112, 1113, 1114, 1115, 1116] [x5] n9 Zs Z16 := zL_t hZ13K kZ16 (by decide) (zL_b1 (Or.inl (by simp)) zL_b0) (by omega)
        replace hP := zl_e2 hP hv17
        refine wz_cI_of (zas (zcons rfl (zcons (zvi (rfl : i3 x4 = i3 x4)) rfl)) c9) ?_
        clear c9 hv17
        have r18 := zH_k hZ16I 48 x0b x2 5 (lo := 0) (hi := 12) (by decide) rfl
        have q19 := (zL_e kZ16 48 x0b x2 5 (by decide) (by decide)).trans (jZ13 48 x0b x2 5 rfl (by simp <;> omega))
        obtain ⟨m2, rfl⟩ : ∃ m2, m = m2 + 1 := ⟨m - 1, by omega⟩
        refine wz_kbs (n := 1) (?_)
        exact wz_k1 ⟨m2, by omega, xM9 + 1066, Z16, x6, v17, (x8 + 1), (zconso rfl (zconso rfl (zconso (zvo (rfl : i3 x2 = i3 x2)) (zconso rfl (zconso (zvo (rfl : i3 x4 = i3 x4)) (zconso rfl (zconso (zvo (rfl : i3 x6 = i3 x6)) (zconso (zvo (rfl : i3 v17 = i3 v17)) (zconso (zvo (i3A (rfl : i3 x8 = i3 x8) (show (1 : Int32) = i3 1 from rfl))) (zconso rfl (zconso rfl rfl))))))))))), rfl, by omega, (zbt hZ16I rfl), hZ16K, hZ16U, aZ16_a0b, (zLt_l (zLt_n tZ7_x0b jZ13 (by simp <;> omega)) kZ16 rfl), by omega, by omega, by omega, by omega, by omega, by omega,  hP⟩
      · replace hP := zE_n hP h15
        refine wz_i1 (by rw [zSh_t hSx5]; rfl) ?_
        obtain ⟨Z20, hZ20⟩ := zx (zpy Z13 200 x5 0 69 0 0 0 x4)
        replace hP := zl_e hP hZ20
        refine ⟨zpy_c (d := 0) (l1 := 5) (l2 := 24) (rfl : i3 x4 = i3 x4) (zSh_l hSx5) rfl (by omega) (by omega) (by omega), ?_⟩
        intro μ9 e9
        replace e9 := e9.trans (zm_py (ν := ν) (d := 0) hZ20 (rfl : ((x5 : Nat) : Int) = x5) (show ((0 : Nat) : Int) = 0 from rfl) (show ((0 : Nat) : Int) = 0 from rfl) (show ((0 : Nat) : Int) = 0 from rfl) (rfl : i3 x4 = i3 x4) (by omega) (by omega))
        subst e9
        have hZ20I := zH_pk69 hZ13I hZ20 hs
        have hZ20K : zL [12, 13, 14, 40, 41, 42, 43, 44, 45, 46, 47, 48, 49, 50, 51, 52, 53, 54, 69, 1099, 1100, 1101, 1102, 1103, 1104, 1105, 1106, 1107, 1108, 1109, 1110, 1111, 1112, 1113, 1114, 1115, 1116] [x5] n9 Zs Z20 := zL_pk hZ13K hZ20 (by decide)
        have hZ20U : zU [x1b] Zs Z20 := zU_p hZ13U hZ20 (Or.inl rfl)
        obtain ⟨Z21, v22, hv22, c9, hZ21I, kZ21, jZ21, lv22, uv22, aZ21_a0b⟩ := sp_70 (ν := ν) hZ20I hs hn x5 hSx5 (zA_p (zA_c (zA_c (zA_c gAx5 fZ5 (by decide)) kZ7 (by decide)) kZ13 (by decide)) hZ20 (fun q => absurd q.1 (by decide))) (a1 := x4) (by omega) (zbh (c := 1066) (k := 0) hM9 (Nat.le_of_ble_eq_true rfl))
        have hZ21U : zU [x1b] Zs Z21 := zU_t hZ20U jZ21 zU_b0
        have hZ21K : zL [12, 13, 14, 40, 41, 42, 43, 44, 45, 46, 47, 48, 49, 50, 51, 52, 53, 54, 69, 1099, 1100, 1101, 1102, 1103, 1104, 1105, 1106, 1107, 1108, 1109, 1110, 1111, 1112, 1113, 1114, 1115, 1116] [x5] n9 Zs Z21 := zL_t hZ20K kZ21 (by decide) (zL_b1 (Or.inl (by simp)) zL_b0) (by omega)
        replace hP := zl_e2 hP hv22
        refine wz_cI_of (zas (zcons rfl (zcons (zvi (rfl : i3 x4 = i3 x4)) rfl)) c9) ?_
        clear c9 hv22
        have r23 := zH_k hZ21I 48 x0b x2 5 (lo := 0) (hi := 12) (by decide) rfl
        have q24 := (zL_e kZ21 48 x0b x2 5 (by decide) (by decide)).trans ((zpy_o hZ20 (k' := 48) (b' := x0b) (i' := x2) (j' := 5) (by decide)).trans (jZ13 48 x0b x2 5 rfl (by simp <;> omega)))
        obtain ⟨m2, rfl⟩ : ∃ m2, m = m2 + 1 := ⟨m - 1, by omega⟩
        refine wz_kbs (n := 1) (?_)
        exact wz_k1 ⟨m2, by omega, xM9 + 1066, Z21, v14, v22, (x8 + 1), (zconso rfl (zconso rfl (zconso (zvo (rfl : i3 x2 = i3 x2)) (zconso rfl (zconso (zvo (rfl : i3 x4 = i3 x4)) (zconso rfl (zconso (zvo (rfl : i3 v14 = i3 v14)) (zconso (zvo (rfl : i3 v22 = i3 v22)) (zconso (zvo (i3A (rfl : i3 x8 = i3 x8) (show (1 : Int32) = i3 1 from rfl))) (zconso rfl (zconso rfl rfl))))))))))), rfl, by omega, (zbt hZ21I rfl), hZ21K, hZ21U, aZ21_a0b, (zLt_l (zLt_p (zLt_n tZ7_x0b jZ13 (by simp <;> omega)) hZ20 ⟨by decide, by decide⟩) kZ21 rfl), by omega, by omega, by omega, by omega, by omega, by omega,  hP⟩
/- yX3_bestRowOf -/
def zf_62 (Z : qz_Z) (n9 : Int) (a0b : Int) (a1b : Int) (a2 : Int) : qz_Z × Int × Int := (zlet (zzi Z n9) (fun Z1 => (zlet (n9 + 1) (fun n3 => (zlet2 (zl_62_1 a0b a1b n9 a2 (min (Z 48 a0b a2 5) 5) 6 Z1 0) (fun Z6 y5 => (zlet4 (zl_62_4 a0b a1b n9 a2 (min (Z 48 a0b a2 5) 5) 121 Z6 (-1) 1 0) (fun Z11 y8 y9 y10 => (Z11, n3, y8)))))))))
theorem sp_62 {s : zSM} {Z : qz_Z} {ν : qz_N} (hZ : zH s Z) (hs : s.1 = none) {n9 : Nat} (hn : ν.2.2.2.1 = n9) (a0b : Nat) (a1b : Nat) {a2 : Int} (ga2 : 0 ≤ a2 ∧ a2 ≤ 1) (gx0 : a0b ≠ a1b) (hLta0b : zLt a0b Z) (hM : s.2 + 128986 ≤ 1000000000) : ∃ (Z1 : qz_Z) (ν1 : qz_N) (n1 : Nat) (P : Int), (Z1, (n1 : Int), P) = zf_62 Z n9 a0b a1b a2 ∧ (qf_62 [.inr (.inr (some (10, a0b, 0))), .inr (.inr (some (10, a1b, 0))), .inl (i3 a2), .inr (.inr (some (69, 0, 0)))] (zm Z ν) = some (zm Z1 ν1, .inl (some (.inl (i3 P)))) ∧ zH (zb s 128986) Z1 ∧ zL [12, 13, 14, 40, 41, 42, 43, 44, 45, 46, 47, 48, 49, 50, 51, 52, 53, 54, 69, 1099, 1100, 1101, 1102, 1103, 1104, 1105, 1106, 1107, 1108, 1109, 1110, 1111, 1112, 1113, 1114, 1115, 1116] [] n9 Z Z1 ∧ zU [a1b] Z Z1 ∧ ν1.2.2.2.1 = n1 ∧ zG 1 5 ν ν1 ∧ -1 ≤ P ∧ P ≤ 2147483647 ∧ zLt a0b Z1) := by
  obtain ⟨P, hP⟩ := zx (zf_62 Z n9 a0b a1b a2)
  refine zc_Wn (Q := fun Z1 ν1 n1 P => zH (zb s 128986) Z1 ∧ zL [12, 13, 14, 40, 41, 42, 43, 44, 45, 46, 47, 48, 49, 50, 51, 52, 53, 54, 69, 1099, 1100, 1101, 1102, 1103, 1104, 1105, 1106, 1107, 1108, 1109, 1110, 1111, 1112, 1113, 1114, 1115, 1116] [] n9 Z Z1 ∧ zU [a1b] Z Z1 ∧ ν1.2.2.2.1 = n1 ∧ zG 1 5 ν ν1 ∧ -1 ≤ P ∧ P ≤ 2147483647 ∧ zLt a0b Z1) hP (fw_62 a0b a1b (i3 a2) _ _ ?_)
  replace hP : zE P (zf_62 Z n9 a0b a1b a2) := hP
  unfold zf_62 at hP
  refine wz_i0 (i3O (n := 2) (rfl : i3 a2 = i3 a2) (by omega) (by omega) (by omega)) ?_
  obtain ⟨Z1, hZ1⟩ := zx (zzr Z n9)
  obtain ⟨ν2, hν2⟩ := zx (nal ν 50 1 5 1 5)
  obtain ⟨n3, hn3⟩ : ∃ m : Nat, m = n9 + 1 := ⟨_, rfl⟩
  replace hP := zl_e hP (hZ1.trans zzi_e)
  replace hP := zl_e hP (show ((n3 : Nat) : Int) = ((n9 : Nat) : Int) + 1 from by omega)
  intro μ9 e9
  replace e9 := zal_e e9 hn hZ1 hν2
  subst e9
  rw [show qz_na (zm Z ν) = n9 from hn]
  have hZ1I := zH_z hZ hZ1 hs
  have hZ1K : zL [12, 13, 14, 40, 41, 42, 43, 44, 45, 46, 47, 48, 49, 50, 51, 52, 53, 54, 69, 1099, 1100, 1101, 1102, 1103, 1104, 1105, 1106, 1107, 1108, 1109, 1110, 1111, 1112, 1113, 1114, 1115, 1116] [] n9 Z Z1 := zL_z2 zL_r (by omega) hZ1
  have hZ1U : zU [a1b] Z Z1 := zU_z zU_r hZ1
  have hnν2 := (nal_na hn hν2).trans hn3.symm
  have hGν2 := zG_al' zG_r hν2
  have hSν2 := zSh_new hn hν2
  have gAν2 := zA_new (lo := 0) (hi := 47) hZ1 ⟨by decide, by decide⟩
  have r4 := zH_k hZ 48 a0b a2 5 (lo := 0) (hi := 12) (by decide) rfl
  refine sl_62_1 (ν := ν2) hZ1I (zbh (c := 0) (k := 0) hM (Nat.le_of_ble_eq_true rfl)) hs hnν2 a0b a1b n9 hSν2 gAν2 (x2 := a2) (by omega) (x4 := (min (Z 48 a0b a2 5) 5)) (by omega) (x6 := 0) (by omega) zL_r zU_r  (zconso rfl (zconso rfl (zconso (zvo (rfl : i3 a2 = i3 a2)) (zconso rfl (zconso (zvo (i3Mn (zm_rd (Z := Z) (ν := ν) (k := 48) (rfl : ((a0b : Nat) : Int) = a0b) (i3I (y := a2) (rfl : i3 a2 = i3 a2) (by omega) (by omega) (by omega)) (show ((5 : Nat) : Int) = 5 from rfl)) (show (5 : Int32) = i3 5 from rfl) (by omega) (by omega) (by omega) (by omega))) (zconso rfl (zconso (zvo (show (0 : Int32) = i3 0 from rfl)) (zconso rfl (zconso rfl (zconso rfl (zconso rfl rfl))))))))))) rfl ?_
  intro L7 Z6 y5 hL7 hZ6I kZ6 jZ6 aZ6_x5 gy5 q9
  replace hP := zl_e2 hP (Eq.symm q9)
  clear q9
  have hZ6U : zU [a1b] Z Z6 := zU_t hZ1U jZ6 zU_b0
  have hZ6K : zL [12, 13, 14, 40, 41, 42, 43, 44, 45, 46, 47, 48, 49, 50, 51, 52, 53, 54, 69, 1099, 1100, 1101, 1102, 1103, 1104, 1105, 1106, 1107, 1108, 1109, 1110, 1111, 1112, 1113, 1114, 1115, 1116] [] n9 Z Z6 := zL_t hZ1K kZ6 (by decide) (zL_b1 (Or.inr (by omega)) zL_b0) (by omega)
  refine fc_62_6 _ _ (i3 a2) (i3 (min (Z 48 a0b a2 5) 5)) _ _ _ _ _ hL7 ?_
  have r12 := zH_k hZ6I 48 a0b a2 5 (lo := 0) (hi := 12) (by decide) rfl
  have q13 := (zL_e kZ6 48 a0b a2 5 (by decide) (by decide)).trans (zz_o hZ1 (k := 48) (b := a0b) (i := a2) (j := 5) (by decide))
  refine sl_62_4 (ν := ν2) (zb0 hZ6I) (zbh (c := 0) (k := 128986) hM (Nat.le_of_ble_eq_true rfl)) (xM9 := 0) hs hnν2 a0b a1b n9 hSν2 aZ6_x5 (x2 := a2) (by omega) (x4 := (min (Z 48 a0b a2 5) 5)) (by omega) (x6 := (-1)) (by omega) (x7 := 1) (by omega) (x8 := 0) (by omega) zL_r zU_r (zLt_l (zLt_z hLta0b hZ1) kZ6 rfl) (Nat.le_of_ble_eq_true rfl) (by omega) (by omega) (zconso rfl (zconso rfl (zconso (zvo (rfl : i3 a2 = i3 a2)) (zconso rfl (zconso (zvo (rfl : i3 (min (Z 48 a0b a2 5) 5) = i3 (min (Z 48 a0b a2 5) 5))) (zconso rfl (zconso (zvo (show (-1 : Int32) = i3 (-1) from rfl)) (zconso (zvo (show (1 : Int32) = i3 1 from rfl)) (zconso (zvo (show (0 : Int32) = i3 0 from rfl)) (zconso rfl (zconso rfl rfl))))))))))) rfl ?_
  intro L14 Z11 y8 y9 y10 hL14 hZ11I kZ11 jZ11 aZ11_x5 tZ11_x0b gy8 gy9 gy10 gL14_0 gL14_1 q9
  replace hP := zl_e4 hP (Eq.symm q9)
  clear q9
  have hZ11U : zU [a1b] Z Z11 := zU_t hZ6U jZ11 (zU_b1 (List.Mem.head _) zU_b0)
  have hZ11K : zL [12, 13, 14, 40, 41, 42, 43, 44, 45, 46, 47, 48, 49, 50, 51, 52, 53, 54, 69, 1099, 1100, 1101, 1102, 1103, 1104, 1105, 1106, 1107, 1108, 1109, 1110, 1111, 1112, 1113, 1114, 1115, 1116] [] n9 Z Z11 := zL_t hZ6K kZ11 (by decide) (zL_b1 (Or.inr (by omega)) zL_b0) (by omega)
  have r15 := zH_k hZ11I 48 a0b a2 5 (lo := 0) (hi := 12) (by decide) rfl
  have q16 := jZ11 48 a0b a2 5 rfl (by simp <;> omega)
  refine fc_62_5 (i3 y8) _ _ _ _ hL14 ?_
  exact zlWn hP (rfl : i3 y8 = i3 y8) ⟨hZ11I, hZ11K, hZ11U, hnν2, zG_w hGν2 (Nat.le_of_ble_eq_true rfl) (Nat.le_of_ble_eq_true rfl), by omega, by omega, tZ11_x0b⟩
/- yX11_bestRow -/
def zx_188 (Z : qz_Z) (n9 : Int) (a1 : Int) (a2 : Int) : qz_Z × Int × Int := (if 0 ≤ a1 ∧ a1 < (Z 11 0 0 7) then (if a2 = (-1) then (if (Z 48 0 a1 5) < 1 then (Z, 0, 15) else (if 5 < (Z 48 0 a1 5) then (Z, 0, 15) else (zlet3 (zf_62 Z n9 0 (12 + 0) a1) (fun Z10 n13 v11 => (Z10, v11, 0))))) else (if 0 ≤ a2 ∧ a2 < (Z 48 0 a1 5) then (if 5 < (Z 48 0 a1 5) then (Z, 0, 15) else (zlet3 (zf_62 Z n9 0 (12 + 0) a1) (fun Z19 n22 v20 => (Z19, (Z19 69 0 0 a2), 0)))) else (Z, 0, 24))) else (Z, 0, 24))
theorem sx_188 {M : Nat} {Z : qz_Z} {ν : qz_N} (hZ : zH ((none, M) : zSM) Z) (hM : ((none, M) : zSM).2 + 128986 ≤ 1000000000) {n9 : Nat} (hn : ν.2.2.2.1 = n9) {a1 : Int} (ga1 : -2147483648 ≤ a1 ∧ a1 ≤ 2147483647) {a2 : Int} (ga2 : -2147483648 ≤ a2 ∧ a2 ≤ 2147483647) (hLt0 : zLt 0 Z) : ∃ (Z1 : qz_Z) (ν1 : qz_N) (v E : Int), (Z1, v, E) = zx_188 Z n9 a1 a2 ∧ qf_188 [.inr (.inr (some (0, 0, 0))), .inl (i3 a1), .inl (i3 a2)] (zm Z ν) = some (zm Z1 ν1, zoX v E) ∧ (fun Z1 ν1 => zH (zb ((none, M) : zSM) 128986) Z1 ∧ zL [12, 13, 14, 40, 41, 42, 43, 44, 45, 46, 47, 48, 49, 50, 51, 52, 53, 54, 69, 1099, 1100, 1101, 1102, 1103, 1104, 1105, 1106, 1107, 1108, 1109, 1110, 1111, 1112, 1113, 1114, 1115, 1116] [] n9 Z Z1 ∧ zU [(12 + 0)] Z Z1 ∧ zG 1 6 ν ν1) Z1 ν1 := by
  obtain ⟨P, hP⟩ := zx (zx_188 Z n9 a1 a2)
  refine zc_G (Q := fun Z1 ν1 => zH (zb ((none, M) : zSM) 128986) Z1 ∧ zL [12, 13, 14, 40, 41, 42, 43, 44, 45, 46, 47, 48, 49, 50, 51, 52, 53, 54, 69, 1099, 1100, 1101, 1102, 1103, 1104, 1105, 1106, 1107, 1108, 1109, 1110, 1111, 1112, 1113, 1114, 1115, 1116] [] n9 Z Z1 ∧ zU [(12 + 0)] Z Z1 ∧ zG 1 6 ν ν1) hP (fw_188 (i3 a1) (i3 a2) _ _ ?_)
  replace hP : zE P (zx_188 Z n9 a1 a2) := hP
  unfold zx_188 at hP
  have hs : ((none, M) : zSM).1 = none := rfl
  have r1 := zH_k hZ 11 0 0 7 (lo := 0) (hi := 2) (by decide) rfl
  refine wz_thing (rfl : i3 a1 = i3 a1) (zm_rd (Z := Z) (ν := ν) (k := 11) (show ((0 : Nat) : Int) = 0 from rfl) (show ((0 : Nat) : Int) = 0 from rfl) (show ((7 : Nat) : Int) = 7 from rfl)) (by omega) (by omega) (by omega) (by omega) (fun h2 => ?_) (fun h2 => ?_)
  · replace hP := zE_p hP h2
    refine wz_i0 (i3O (n := 2) (rfl : i3 a1 = i3 a1) (by omega) (by omega) (by omega)) ?_
    refine wz_br (i3E (rfl : i3 a2 = i3 a2) (show (-1 : Int32) = i3 (-1) from rfl) (by omega) (by omega) (by omega) (by omega)) (fun h3 => ?_) (fun h3 => ?_)
    · replace hP := zE_p hP h3
      have r4 := zH_k hZ 48 0 a1 5 (lo := 0) (hi := 12) (by decide) rfl
      refine wz_br (i3L (zm_rd (Z := Z) (ν := ν) (k := 48) (show ((0 : Nat) : Int) = 0 from rfl) (i3I (y := a1) (rfl : i3 a1 = i3 a1) (by omega) (by omega) (by omega)) (show ((5 : Nat) : Int) = 5 from rfl)) (show (1 : Int32) = i3 1 from rfl) (by omega) (by omega) (by omega) (by omega)) (fun h5 => ?_) (fun h5 => ?_)
      · replace hP := zE_p hP h5
        refine wz_inT_n (show (0 : Int32) = i3 0 from rfl) (by omega) (by omega) (by omega) ?_
        exact zlGe (E := 14) hP ⟨(zbw (a := 0) (c := 128986) hZ (Nat.le_of_ble_eq_true rfl)), zL_r, zU_r, zG_w (zG_k rfl) (Nat.le_of_ble_eq_true rfl) (Nat.le_of_ble_eq_true rfl)⟩
      · replace hP := zE_n hP h5
        refine wz_br (i3L (show (5 : Int32) = i3 5 from rfl) (zm_rd (Z := Z) (ν := ν) (k := 48) (show ((0 : Nat) : Int) = 0 from rfl) (i3I (y := a1) (rfl : i3 a1 = i3 a1) (by omega) (by omega) (by omega)) (show ((5 : Nat) : Int) = 5 from rfl)) (by omega) (by omega) (by omega) (by omega)) (fun h7 => ?_) (fun h7 => ?_)
        · replace hP := zE_p hP h7
          refine wz_inT_n (show (0 : Int32) = i3 0 from rfl) (by omega) (by omega) (by omega) ?_
          exact zlGe (E := 14) hP ⟨(zbw (a := 0) (c := 128986) hZ (Nat.le_of_ble_eq_true rfl)), zL_r, zU_r, zG_w (zG_k rfl) (Nat.le_of_ble_eq_true rfl) (Nat.le_of_ble_eq_true rfl)⟩
        · replace hP := zE_n hP h7
          refine wz_inT_y (show (1 : Int32) = i3 1 from rfl) (by omega) (by omega) (by omega) ?_
          obtain ⟨Z10, ν12, n13, v11, hv11, c9, hZ10I, kZ10, jZ10, hnν12, gν12, lv11, uv11, tZ10_a0b⟩ := sp_62 (ν := ν) hZ hs hn 0 (12 + 0) (a2 := a1) (by omega) (by omega) hLt0 (zbh (c := 0) (k := 128986) hM (Nat.le_of_ble_eq_true rfl))
          have hZ10U : zU [(12 + 0)] Z Z10 := zU_t zU_r jZ10 (zU_b1 (List.Mem.head _) zU_b0)
          have hZ10K : zL [12, 13, 14, 40, 41, 42, 43, 44, 45, 46, 47, 48, 49, 50, 51, 52, 53, 54, 69, 1099, 1100, 1101, 1102, 1103, 1104, 1105, 1106, 1107, 1108, 1109, 1110, 1111, 1112, 1113, 1114, 1115, 1116] [] n9 Z Z10 := zL_t zL_r kZ10 (by decide) zL_b0 (by omega)
          replace hP := zl_e3 hP hv11
          refine wz_cI_of (zas (zcons rfl (zcons rfl (zcons (zvi (rfl : i3 a1 = i3 a1)) (zcons rfl rfl)))) c9) ?_
          clear c9 hv11
          have hGν12 := zG_t zG_r gν12
          refine wz_i0 (Eq.trans (i3NE (rfl : i3 a2 = i3 a2) (show (-1 : Int32) = i3 (-1) from rfl) (by omega) (by omega) (by omega) (by omega)) (decide_eq_false (by omega))) ?_
          exact zlG hP (rfl : i3 v11 = i3 v11) ⟨hZ10I, hZ10K, hZ10U, zG_w hGν12 (Nat.le_of_ble_eq_true rfl) (Nat.le_of_ble_eq_true rfl)⟩
    · replace hP := zE_n hP h3
      have r14 := zH_k hZ 48 0 a1 5 (lo := 0) (hi := 12) (by decide) rfl
      refine wz_thing (rfl : i3 a2 = i3 a2) (zm_rd (Z := Z) (ν := ν) (k := 48) (show ((0 : Nat) : Int) = 0 from rfl) (i3I (y := a1) (rfl : i3 a1 = i3 a1) (by omega) (by omega) (by omega)) (show ((5 : Nat) : Int) = 5 from rfl)) (by omega) (by omega) (by omega) (by omega) (fun h15 => ?_) (fun h15 => ?_)
      · replace hP := zE_p hP h15
        refine wz_i0 (Eq.trans (i3L (zm_rd (Z := Z) (ν := ν) (k := 48) (show ((0 : Nat) : Int) = 0 from rfl) (i3I (y := a1) (rfl : i3 a1 = i3 a1) (by omega) (by omega) (by omega)) (show ((5 : Nat) : Int) = 5 from rfl)) (show (1 : Int32) = i3 1 from rfl) (by omega) (by omega) (by omega) (by omega)) (decide_eq_false (by omega))) ?_
        refine wz_br (i3L (show (5 : Int32) = i3 5 from rfl) (zm_rd (Z := Z) (ν := ν) (k := 48) (show ((0 : Nat) : Int) = 0 from rfl) (i3I (y := a1) (rfl : i3 a1 = i3 a1) (by omega) (by omega) (by omega)) (show ((5 : Nat) : Int) = 5 from rfl)) (by omega) (by omega) (by omega) (by omega)) (fun h16 => ?_) (fun h16 => ?_)
        · replace hP := zE_p hP h16
          refine wz_inT_n (show (0 : Int32) = i3 0 from rfl) (by omega) (by omega) (by omega) ?_
          exact zlGe (E := 14) hP ⟨(zbw (a := 0) (c := 128986) hZ (Nat.le_of_ble_eq_true rfl)), zL_r, zU_r, zG_w (zG_k rfl) (Nat.le_of_ble_eq_true rfl) (Nat.le_of_ble_eq_true rfl)⟩
        · replace hP := zE_n hP h16
          refine wz_inT_y (show (1 : Int32) = i3 1 from rfl) (by omega) (by omega) (by omega) ?_
          obtain ⟨Z19, ν21, n22, v20, hv20, c9, hZ19I, kZ19, jZ19, hnν21, gν21, lv20, uv20, tZ19_a0b⟩ := sp_62 (ν := ν) hZ hs hn 0 (12 + 0) (a2 := a1) (by omega) (by omega) hLt0 (zbh (c := 0) (k := 128986) hM (Nat.le_of_ble_eq_true rfl))
          have hZ19U : zU [(12 + 0)] Z Z19 := zU_t zU_r jZ19 (zU_b1 (List.Mem.head _) zU_b0)
          have hZ19K : zL [12, 13, 14, 40, 41, 42, 43, 44, 45, 46, 47, 48, 49, 50, 51, 52, 53, 54, 69, 1099, 1100, 1101, 1102, 1103, 1104, 1105, 1106, 1107, 1108, 1109, 1110, 1111, 1112, 1113, 1114, 1115, 1116] [] n9 Z Z19 := zL_t zL_r kZ19 (by decide) zL_b0 (by omega)
          replace hP := zl_e3 hP hv20
          refine wz_cI_of (zas (zcons rfl (zcons rfl (zcons (zvi (rfl : i3 a1 = i3 a1)) (zcons rfl rfl)))) c9) ?_
          clear c9 hv20
          have hGν21 := zG_t zG_r gν21
          refine wz_i1 (Eq.trans (i3NE (rfl : i3 a2 = i3 a2) (show (-1 : Int32) = i3 (-1) from rfl) (by omega) (by omega) (by omega) (by omega)) (decide_eq_true (by omega))) ?_
          refine wz_i0 (i3O (n := 24) (rfl : i3 a2 = i3 a2) (by omega) (by omega) (by omega)) ?_
          have r23 := zH_f hZ19I 69 0 0 a2
          exact zlG hP (zm_rd (Z := Z19) (ν := ν21) (k := 69) (show ((0 : Nat) : Int) = 0 from rfl) (show ((0 : Nat) : Int) = 0 from rfl) (i3I (y := a2) (rfl : i3 a2 = i3 a2) (by omega) (by omega) (by omega))) ⟨hZ19I, hZ19K, hZ19U, zG_w hGν21 (Nat.le_of_ble_eq_true rfl) (Nat.le_of_ble_eq_true rfl)⟩
      · replace hP := zE_n hP h15
        exact zlGe (E := 23) hP ⟨(zbw (a := 0) (c := 128986) hZ (Nat.le_of_ble_eq_true rfl)), zL_r, zU_r, zG_w (zG_k rfl) (Nat.le_of_ble_eq_true rfl) (Nat.le_of_ble_eq_true rfl)⟩
  · replace hP := zE_n hP h2
    exact zlGe (E := 23) hP ⟨(zbw (a := 0) (c := 128986) hZ (Nat.le_of_ble_eq_true rfl)), zL_r, zU_r, zG_w (zG_k rfl) (Nat.le_of_ble_eq_true rfl) (Nat.le_of_ble_eq_true rfl)⟩
/- yX3_bestStartOf -/
def zl_63_1 (x0b : Int) (x1b : Int) (x2 : Int) (x3 : Int) (x4 : Int) (x7 : Int) : Nat → qz_Z → Int → Int → qz_Z × Int × Int
  | 0, Z, x6, x8 => (Z, x6, x8)
  | m + 1, Z, x6, x8 => (if 200 < x8 then (Z, x6, x8) else (if 9999 < (x4 + (x8 * x7)) then (Z, x6, x8) else (zlet (zcp Z x0b x1b) (fun Z4 => (zlet (zu Z4 48 x1b x2 5 1) (fun Z5 => (zlet (zu Z5 49 x1b (12 * x2) 0 x3) (fun Z6 => (zlet (zu Z6 49 x1b (12 * x2) 1 (x4 + (x8 * x7))) (fun Z7 => (zlet (zu Z7 49 x1b (12 * x2) 2 x4) (fun Z8 => (zlet2 (zf_74 Z8 x1b x2 1) (fun Z9 v10 => (if v10 ≤ x6 then zl_63_1 x0b x1b x2 x3 x4 x7 m Z9 x6 (x8 + 1) else (zlet (zu Z9 69 0 0 0 (x4 + (x8 * x7))) (fun Z12 => zl_63_1 x0b x1b x2 x3 x4 x7 m Z12 v10 (x8 + 1))))))))))))))))))
theorem sl_63_1 {s : zSM} {xM9 : Nat} {Zs Z : qz_Z} {ν : qz_N} (hZ : zH (zb s xM9) Z) (hM : s.2 + 215332 ≤ 1000000000) (hK : zC [12, 13, 14, 40, 41, 42, 43, 44, 45, 46, 47, 48, 49, 50, 51, 52, 53, 54, 69, 1099, 1100, 1101, 1102, 1103, 1104, 1105, 1106, 1107, 1108, 1109, 1110, 1111, 1112, 1113, 1114, 1115, 1116] Zs Z) (x0b : Nat) (x1b : Nat) {x2 : Int} (gx2 : 0 ≤ x2 ∧ x2 ≤ 1) {x3 : Int} (gx3 : 0 ≤ x3 ∧ x3 ≤ 47) {x4 : Int} (gx4 : 1 ≤ x4 ∧ x4 ≤ 9999) {x6 : Int} (gx6 : -1 ≤ x6 ∧ x6 ≤ 2147483647) {x7 : Int} (gx7 : 0 ≤ x7 ∧ x7 ≤ 500) {x8 : Int} (gx8 : 0 ≤ x8 ∧ x8 ≤ 201) (hU : zU [x1b] Zs Z) (hLtx0b : zLt x0b Z) (hx9 : xM9 + 1066 * ((201 - x8).toNat) + 1066 ≤ 215332) (gr0 : x0b ≠ x1b) {k : wz_K} {R : wz_R} {L : qz_L} (hL : qz_fg [true, true, true, true, true, true, true, true, true, false] L = [some (.inr (.inr (some (10, x0b, 0)))), some (.inr (.inr (some (10, x1b, 0)))), some (.inl (i3 x2)), some (.inl (i3 x3)), some (.inl (i3 x4)), some (.inr (.inr (some (69, 0, 0)))), some (.inl (i3 x6)), some (.inl (i3 x7)), some (.inl (i3 x8)), none]) {T : qz_Z × Int × Int} (hP : zE T (zl_63_1 x0b x1b x2 x3 x4 x7 ((201 - x8).toNat + 1) Z x6 x8)) (hk : ∀ (L9 : qz_L) (Z9 : qz_Z) (yx6 yx8 : Int), qz_fg [false, false, false, false, false, false, true, false, false, false] L9 = [none, none, none, none, none, none, some (.inl (i3 yx6)), none, none, none] → zH (zb s 215332) Z9 → zC [12, 13, 14, 40, 41, 42, 43, 44, 45, 46, 47, 48, 49, 50, 51, 52, 53, 54, 69, 1099, 1100, 1101, 1102, 1103, 1104, 1105, 1106, 1107, 1108, 1109, 1110, 1111, 1112, 1113, 1114, 1115, 1116] Zs Z9 → zU [x1b] Zs Z9 → zLt x0b Z9 → (-1 ≤ yx6 ∧ yx6 ≤ 2147483647) → (0 ≤ yx8 ∧ yx8 ≤ 201) → (x0b ≠ x1b) → zE T ((Z9, yx6, yx8)) → k 0 (L9, [], zm Z9 ν)) : wz_loop qb_63_1 65536 k R (L, [], zm Z ν) := by
  refine wz_lp sb_63_1 (fun m x => ∃ xM9 : Nat, ∃ Z : qz_Z, ∃ x6 : Int, ∃ x8 : Int, qz_fg [true, true, true, true, true, true, true, true, true, false] x.1 = [some (.inr (.inr (some (10, x0b, 0)))), some (.inr (.inr (some (10, x1b, 0)))), some (.inl (i3 x2)), some (.inl (i3 x3)), some (.inl (i3 x4)), some (.inr (.inr (some (69, 0, 0)))), some (.inl (i3 x6)), some (.inl (i3 x7)), some (.inl (i3 x8)), none] ∧ x.2 = ([], zm Z ν) ∧ xM9 + 1066 * m + 1066 ≤ 215332 ∧ zH (zb s xM9) Z ∧ zC [12, 13, 14, 40, 41, 42, 43, 44, 45, 46, 47, 48, 49, 50, 51, 52, 53, 54, 69, 1099, 1100, 1101, 1102, 1103, 1104, 1105, 1106, 1107, 1108, 1109, 1110, 1111, 1112, 1113, 1114, 1115, 1116] Zs Z ∧ zU [x1b] Zs Z ∧ zLt x0b Z ∧ m = (201 - x8).toNat ∧ (-1 ≤ x6 ∧ x6 ≤ 2147483647) ∧ (0 ≤ x8 ∧ x8 ≤ 201) ∧ (x0b ≠ x1b) ∧ zE T (zl_63_1 x0b x1b x2 x3 x4 x7 (m + 1) Z x6 x8)) ?_ 65536 ((201 - x8).toNat) _ (by omega) ⟨xM9, Z, x6, x8, hL, rfl, hx9, hZ, hK, hU, hLtx0b, rfl, gx6, gx8, gr0, hP⟩
  clear hP gr0 gx6 gx8 hx9 hZ hK hU hLtx0b hL
  clear x6 x8
  clear Z
  clear xM9
  rintro m ⟨L, st, μ⟩ ⟨xM9, Z, x6, x8, hL, hx, hx9, hZ, hK, hU, hLtx0b, hm, gx6, gx8, gr0, hP⟩
  cases hx
  have hM9 : (zb s xM9).2 + 1066 ≤ 1000000000 := by
    show s.2 + xM9 + 1066 ≤ 1000000000
    omega
  refine fb_63_1 x0b x1b (i3 x2) (i3 x3) (i3 x4) (i3 x6) (i3 x7) (i3 x8) _ _ _ _ hL ?_
  refine wz_br (i3L (show (200 : Int32) = i3 200 from rfl) (rfl : i3 x8 = i3 x8) (by omega) (by omega) (by omega) (by omega)) (fun h1 => ?_) (fun h1 => ?_)
  · replace hP := zE_p hP h1
    exact hk _ _ _ _ (zconso rfl (zconso rfl (zconso rfl (zconso rfl (zconso rfl (zconso rfl (zconso (zvo (rfl : i3 x6 = i3 x6)) (zconso rfl (zconso rfl (zconso rfl rfl)))))))))) (zbx0 hZ (by omega)) hK hU hLtx0b (by omega) (by omega) (by omega) hP
  · replace hP := zE_n hP h1
    have r2 := z_mul (x := x8) (y := x7) (a := 200) (b := 500) (by omega) (by omega) (by omega) (by omega)
    refine wz_br (i3L (show (9999 : Int32) = i3 9999 from rfl) (i3A (rfl : i3 x4 = i3 x4) (i3M (rfl : i3 x8 = i3 x8) (rfl : i3 x7 = i3 x7))) (by omega) (by omega) (by omega) (by omega)) (fun h3 => ?_) (fun h3 => ?_)
    · replace hP := zE_p hP h3
      exact hk _ _ _ _ (zconso rfl (zconso rfl (zconso rfl (zconso rfl (zconso rfl (zconso rfl (zconso (zvo (rfl : i3 x6 = i3 x6)) (zconso rfl (zconso rfl (zconso rfl rfl)))))))))) (zbx0 hZ (by omega)) hK hU hLtx0b (by omega) (by omega) (by omega) hP
    · replace hP := zE_n hP h3
      obtain ⟨Z4, hZ4, c9, hZ4I, kZ4, gZ4⟩ := zH_cpe (ν := ν) hZ (rfl : ((x0b : Nat) : Int) = x0b) (rfl : ((x1b : Nat) : Int) = x1b) (by omega)
      have fZ4 : zC [12, 13, 14, 40, 41, 42, 43, 44, 45, 46, 47, 48, 49, 50, 51, 52, 53, 54, 1099, 1100, 1101, 1102, 1103, 1104, 1105, 1106, 1107, 1108, 1109, 1110, 1111, 1112, 1113, 1114, 1115, 1116] Z Z4 := zC_k kZ4 (by decide) (by decide)
      have aZ4 : ∀ {k : Nat} {i j : Int}, zhk k i j = true → Z4 k x1b i j = Z k x0b i j := fun hk => zcp_at hZ4 hk
      have hZ4K : zC [12, 13, 14, 40, 41, 42, 43, 44, 45, 46, 47, 48, 49, 50, 51, 52, 53, 54, 69, 1099, 1100, 1101, 1102, 1103, 1104, 1105, 1106, 1107, 1108, 1109, 1110, 1111, 1112, 1113, 1114, 1115, 1116] Zs Z4 := zC_t hK fZ4 (by decide)
      have jZ4 : zU [x1b] Z Z4 := zU_cp hZ4
      have hZ4U : zU [x1b] Zs Z4 := zU_t hU jZ4 (zU_b1 (List.Mem.head _) zU_b0)
      replace hP := zl_e hP hZ4
      refine wz_cV_of c9 ?_
      clear c9
      refine wz_i0 (i3O (n := 2) (rfl : i3 x2 = i3 x2) (by omega) (by omega) (by omega)) ?_
      obtain ⟨Z5, hZ5⟩ := zx (zu Z4 48 x1b x2 5 1)
      replace hP := zl_e hP hZ5
      have hZ5I := zH_u hZ4I hZ5 (lo := 0) (hi := 12) (by decide) rfl (by omega) ⟨by decide, by decide⟩ (Or.inl (by decide)) rfl
      have hZ5U : zU [x1b] Zs Z5 := zU_u hZ4U hZ5 (Or.inr (List.Mem.head _))
      have hZ5K : zC [12, 13, 14, 40, 41, 42, 43, 44, 45, 46, 47, 48, 49, 50, 51, 52, 53, 54, 69, 1099, 1100, 1101, 1102, 1103, 1104, 1105, 1106, 1107, 1108, 1109, 1110, 1111, 1112, 1113, 1114, 1115, 1116] Zs Z5 := zC_u hZ4K hZ5 (by decide)
      intro μ9 e9
      replace e9 := e9.trans (zm_wI (Z := Z4) (ν := ν) hZ5 (rfl : ((x1b : Nat) : Int) = x1b) (i3I (y := x2) (rfl : i3 x2 = i3 x2) (by omega) (by omega) (by omega)) (show ((5 : Nat) : Int) = 5 from rfl) (show (1 : Int32) = i3 1 from rfl))
      subst e9
      refine wz_i0 (i3O (n := 24) (i3M (rfl : i3 x2 = i3 x2) (show (12 : Int32) = i3 12 from rfl)) (by omega) (by omega) (by omega)) ?_
      obtain ⟨Z6, hZ6⟩ := zx (zu Z5 49 x1b (12 * x2) 0 x3)
      replace hP := zl_e hP hZ6
      have hZ6I := zH_u hZ5I hZ6 (lo := 0) (hi := 47) (by decide) rfl (by omega) ⟨by decide, by decide⟩ (Or.inl (by decide)) rfl
      have hZ6U : zU [x1b] Zs Z6 := zU_u hZ5U hZ6 (Or.inr (List.Mem.head _))
      have hZ6K : zC [12, 13, 14, 40, 41, 42, 43, 44, 45, 46, 47, 48, 49, 50, 51, 52, 53, 54, 69, 1099, 1100, 1101, 1102, 1103, 1104, 1105, 1106, 1107, 1108, 1109, 1110, 1111, 1112, 1113, 1114, 1115, 1116] Zs Z6 := zC_u hZ5K hZ6 (by decide)
      intro μ9 e9
      replace e9 := e9.trans (zm_wI (Z := Z5) (ν := ν) hZ6 (rfl : ((x1b : Nat) : Int) = x1b) (i3I (y := (12 * x2)) (i3M (rfl : i3 x2 = i3 x2) (show (12 : Int32) = i3 12 from rfl)) (by omega) (by omega) (by omega)) (show ((0 : Nat) : Int) = 0 from rfl) (rfl : i3 x3 = i3 x3))
      subst e9
      refine wz_i0 (i3O (n := 24) (i3M (rfl : i3 x2 = i3 x2) (show (12 : Int32) = i3 12 from rfl)) (by omega) (by omega) (by omega)) ?_
      obtain ⟨Z7, hZ7⟩ := zx (zu Z6 49 x1b (12 * x2) 1 (x4 + (x8 * x7)))
      replace hP := zl_e hP hZ7
      have hZ7I := zH_u hZ6I hZ7 (lo := 0) (hi := 9999) (by decide) rfl (by omega) ⟨by decide, by decide⟩ (Or.inl (by decide)) rfl
      have hZ7U : zU [x1b] Zs Z7 := zU_u hZ6U hZ7 (Or.inr (List.Mem.head _))
      have hZ7K : zC [12, 13, 14, 40, 41, 42, 43, 44, 45, 46, 47, 48, 49, 50, 51, 52, 53, 54, 69, 1099, 1100, 1101, 1102, 1103, 1104, 1105, 1106, 1107, 1108, 1109, 1110, 1111, 1112, 1113, 1114, 1115, 1116] Zs Z7 := zC_u hZ6K hZ7 (by decide)
      intro μ9 e9
      replace e9 := e9.trans (zm_wI (Z := Z6) (ν := ν) hZ7 (rfl : ((x1b : Nat) : Int) = x1b) (i3I (y := (12 * x2)) (i3M (rfl : i3 x2 = i3 x2) (show (12 : Int32) = i3 12 from rfl)) (by omega) (by omega) (by omega)) (show ((1 : Nat) : Int) = 1 from rfl) (i3A (rfl : i3 x4 = i3 x4) (i3M (rfl : i3 x8 = i3 x8) (rfl : i3 x7 = i3 x7))))
      subst e9
      refine wz_i0 (i3O (n := 24) (i3M (rfl : i3 x2 = i3 x2) (show (12 : Int32) = i3 12 from rfl)) (by omega) (by omega) (by omega)) ?_
      obtain ⟨Z8, hZ8⟩ := zx (zu Z7 49 x1b (12 * x2) 2 x4)
      replace hP := zl_e hP hZ8
      have hZ8I := zH_u hZ7I hZ8 (lo := 0) (hi := 9999) (by decide) rfl (by omega) ⟨by decide, by decide⟩ (Or.inl (by decide)) rfl
      have hZ8U : zU [x1b] Zs Z8 := zU_u hZ7U hZ8 (Or.inr (List.Mem.head _))
      have hZ8K : zC [12, 13, 14, 40, 41, 42, 43, 44, 45, 46, 47, 48, 49, 50, 51, 52, 53, 54, 69, 1099, 1100, 1101, 1102, 1103, 1104, 1105, 1106, 1107, 1108, 1109, 1110, 1111, 1112, 1113, 1114, 1115, 1116] Zs Z8 := zC_u hZ7K hZ8 (by decide)
      intro μ9 e9
      replace e9 := e9.trans (zm_wI (Z := Z7) (ν := ν) hZ8 (rfl : ((x1b : Nat) : Int) = x1b) (i3I (y := (12 * x2)) (i3M (rfl : i3 x2 = i3 x2) (show (12 : Int32) = i3 12 from rfl)) (by omega) (by omega) (by omega)) (show ((2 : Nat) : Int) = 2 from rfl) (rfl : i3 x4 = i3 x4))
      subst e9
      obtain ⟨Z9, v10, hv10, c9, hZ9I, kZ9, jZ9, lv10, uv10, tZ9_a0b⟩ := sp_74 (ν := ν) hZ8I x1b (a1 := x2) (by omega) (a2 := 1) (by omega) (lt_w4 hZ5 hZ6 hZ7 hZ8 (zLt_cp hLtx0b hZ4) (by omega) (by omega) (by omega)) (zbh (c := 0) (k := 1066) hM9 (Nat.le_of_ble_eq_true rfl))
      have hZ9U : zU [x1b] Zs Z9 := zU_t hZ8U jZ9 (zU_b1 (List.Mem.head _) zU_b0)
      have hZ9K : zC [12, 13, 14, 40, 41, 42, 43, 44, 45, 46, 47, 48, 49, 50, 51, 52, 53, 54, 69, 1099, 1100, 1101, 1102, 1103, 1104, 1105, 1106, 1107, 1108, 1109, 1110, 1111, 1112, 1113, 1114, 1115, 1116] Zs Z9 := zC_t hZ8K kZ9 (by decide)
      replace hP := zl_e2 hP hv10
      refine wz_cI_of (zas (zcons rfl (zcons (zvi (rfl : i3 x2 = i3 x2)) (zcons (zvi (show (1 : Int32) = i3 1 from rfl)) rfl))) c9) ?_
      clear c9 hv10
      refine wz_br (i3Le (rfl : i3 v10 = i3 v10) (rfl : i3 x6 = i3 x6) (by omega) (by omega) (by omega) (by omega)) (fun h11 => ?_) (fun h11 => ?_)
      · replace hP := zE_p hP h11
        obtain ⟨m2, rfl⟩ : ∃ m2, m = m2 + 1 := ⟨m - 1, by omega⟩
        exact wz_k1 ⟨m2, by omega, xM9 + 1066, Z9, x6, (x8 + 1), (zconso rfl (zconso rfl (zconso (zvo (rfl : i3 x2 = i3 x2)) (zconso (zvo (rfl : i3 x3 = i3 x3)) (zconso (zvo (rfl : i3 x4 = i3 x4)) (zconso rfl (zconso (zvo (rfl : i3 x6 = i3 x6)) (zconso (zvo (rfl : i3 x7 = i3 x7)) (zconso (zvo (i3A (rfl : i3 x8 = i3 x8) (show (1 : Int32) = i3 1 from rfl))) (zconso rfl rfl)))))))))), rfl, by omega, (zbt hZ9I rfl), hZ9K, hZ9U, (zLt_n (zLt_h (zLt_h (zLt_h (zLt_h (zLt_n hLtx0b jZ4 (by simp <;> omega)) hZ5 (by omega)) hZ6 (by omega)) hZ7 (by omega)) hZ8 (by omega)) jZ9 (by simp <;> omega)), by omega, by omega, by omega, by omega,  hP⟩
      · replace hP := zE_n hP h11
        obtain ⟨Z12, hZ12⟩ := zx (zu Z9 69 0 0 0 (x4 + (x8 * x7)))
        replace hP := zl_e hP hZ12
        have hZ12I := zH_u hZ9I hZ12 (lo := -2147483648) (hi := 2147483647) (by decide) rfl (by omega) ⟨by decide, by decide⟩ (Or.inl (by decide)) rfl
        have hZ12U : zU [x1b] Zs Z12 := zU_u hZ9U hZ12 (Or.inl rfl)
        have hZ12K : zC [12, 13, 14, 40, 41, 42, 43, 44, 45, 46, 47, 48, 49, 50, 51, 52, 53, 54, 69, 1099, 1100, 1101, 1102, 1103, 1104, 1105, 1106, 1107, 1108, 1109, 1110, 1111, 1112, 1113, 1114, 1115, 1116] Zs Z12 := zC_u hZ9K hZ12 (by decide)
        intro μ9 e9
        replace e9 := e9.trans (zm_wI (Z := Z9) (ν := ν) hZ12 (show ((0 : Nat) : Int) = 0 from rfl) (show ((0 : Nat) : Int) = 0 from rfl) (show ((0 : Nat) : Int) = 0 from rfl) (i3A (rfl : i3 x4 = i3 x4) (i3M (rfl : i3 x8 = i3 x8) (rfl : i3 x7 = i3 x7))))
        subst e9
        obtain ⟨m2, rfl⟩ : ∃ m2, m = m2 + 1 := ⟨m - 1, by omega⟩
        exact wz_k1 ⟨m2, by omega, xM9 + 1066, Z12, v10, (x8 + 1), (zconso rfl (zconso rfl (zconso (zvo (rfl : i3 x2 = i3 x2)) (zconso (zvo (rfl : i3 x3 = i3 x3)) (zconso (zvo (rfl : i3 x4 = i3 x4)) (zconso rfl (zconso (zvo (rfl : i3 v10 = i3 v10)) (zconso (zvo (rfl : i3 x7 = i3 x7)) (zconso (zvo (i3A (rfl : i3 x8 = i3 x8) (show (1 : Int32) = i3 1 from rfl))) (zconso rfl rfl)))))))))), rfl, by omega, (zbt hZ12I rfl), hZ12K, hZ12U, (zLt_o (zLt_n (zLt_h (zLt_h (zLt_h (zLt_h (zLt_n hLtx0b jZ4 (by simp <;> omega)) hZ5 (by omega)) hZ6 (by omega)) hZ7 (by omega)) hZ8 (by omega)) jZ9 (by simp <;> omega)) hZ12 ⟨by decide, .inl (by decide)⟩), by omega, by omega, by omega, by omega,  hP⟩
/- yX3_bestStartOf -/
def zf_63 (Z : qz_Z) (a0b : Int) (a1b : Int) (a2 : Int) (a3 : Int) (a4 : Int) : qz_Z × Int := (zlet3 (zl_63_1 a0b a1b a2 a3 a4 (Z 48 a0b a2 3) 202 Z (-1) 0) (fun Z4 y2 y3 => (Z4, y2)))
theorem sp_63 {s : zSM} {Z : qz_Z} {ν : qz_N} (hZ : zH s Z) (a0b : Nat) (a1b : Nat) {a2 : Int} (ga2 : 0 ≤ a2 ∧ a2 ≤ 1) {a3 : Int} (ga3 : 0 ≤ a3 ∧ a3 ≤ 47) {a4 : Int} (ga4 : 1 ≤ a4 ∧ a4 ≤ 9999) (gx0 : a0b ≠ a1b) (hLta0b : zLt a0b Z) (hM : s.2 + 215332 ≤ 1000000000) : ∃ (Z1 : qz_Z) (P : Int), (Z1, P) = zf_63 Z a0b a1b a2 a3 a4 ∧ (qf_63 [.inr (.inr (some (10, a0b, 0))), .inr (.inr (some (10, a1b, 0))), .inl (i3 a2), .inl (i3 a3), .inl (i3 a4), .inr (.inr (some (69, 0, 0)))] (zm Z ν) = some (zm Z1 ν, .inl (some (.inl (i3 P)))) ∧ zH (zb s 215332) Z1 ∧ zC [12, 13, 14, 40, 41, 42, 43, 44, 45, 46, 47, 48, 49, 50, 51, 52, 53, 54, 69, 1099, 1100, 1101, 1102, 1103, 1104, 1105, 1106, 1107, 1108, 1109, 1110, 1111, 1112, 1113, 1114, 1115, 1116] Z Z1 ∧ zU [a1b] Z Z1 ∧ -1 ≤ P ∧ P ≤ 2147483647 ∧ zLt a0b Z1) := by
  obtain ⟨P, hP⟩ := zx (zf_63 Z a0b a1b a2 a3 a4)
  refine zc_W (Q := fun Z1 P => zH (zb s 215332) Z1 ∧ zC [12, 13, 14, 40, 41, 42, 43, 44, 45, 46, 47, 48, 49, 50, 51, 52, 53, 54, 69, 1099, 1100, 1101, 1102, 1103, 1104, 1105, 1106, 1107, 1108, 1109, 1110, 1111, 1112, 1113, 1114, 1115, 1116] Z Z1 ∧ zU [a1b] Z Z1 ∧ -1 ≤ P ∧ P ≤ 2147483647 ∧ zLt a0b Z1) hP (fw_63 a0b a1b (i3 a2) (i3 a3) (i3 a4) _ _ ?_)
  replace hP : zE P (zf_63 Z a0b a1b a2 a3 a4) := hP
  unfold zf_63 at hP
  refine wz_i0 (i3O (n := 2) (rfl : i3 a2 = i3 a2) (by omega) (by omega) (by omega)) ?_
  have r1 := zH_k hZ 48 a0b a2 3 (lo := 0) (hi := 500) (by decide) rfl
  refine sl_63_1 (ν := ν) (zb0 hZ) (zbh (c := 0) (k := 215332) hM (Nat.le_of_ble_eq_true rfl)) (xM9 := 0) zC_r a0b a1b (x2 := a2) (by omega) (x3 := a3) (by omega) (x4 := a4) (by omega) (x6 := (-1)) (by omega) (x7 := (Z 48 a0b a2 3)) (by omega) (x8 := 0) (by omega) zU_r hLta0b (Nat.le_of_ble_eq_true rfl) (by omega) (zconso rfl (zconso rfl (zconso (zvo (rfl : i3 a2 = i3 a2)) (zconso (zvo (rfl : i3 a3 = i3 a3)) (zconso (zvo (rfl : i3 a4 = i3 a4)) (zconso rfl (zconso (zvo (show (-1 : Int32) = i3 (-1) from rfl)) (zconso (zvo (zm_rd (Z := Z) (ν := ν) (k := 48) (rfl : ((a0b : Nat) : Int) = a0b) (i3I (y := a2) (rfl : i3 a2 = i3 a2) (by omega) (by omega) (by omega)) (show ((3 : Nat) : Int) = 3 from rfl))) (zconso (zvo (show (0 : Int32) = i3 0 from rfl)) (zconso rfl rfl)))))))))) rfl ?_
  intro L5 Z4 y2 y3 hL5 hZ4I kZ4 jZ4 tZ4_x0b gy2 gy3 gL5_0 q9
  replace hP := zl_e3 hP (Eq.symm q9)
  clear q9
  have hZ4U : zU [a1b] Z Z4 := zU_t zU_r jZ4 (zU_b1 (List.Mem.head _) zU_b0)
  have hZ4K : zC [12, 13, 14, 40, 41, 42, 43, 44, 45, 46, 47, 48, 49, 50, 51, 52, 53, 54, 69, 1099, 1100, 1101, 1102, 1103, 1104, 1105, 1106, 1107, 1108, 1109, 1110, 1111, 1112, 1113, 1114, 1115, 1116] Z Z4 := zC_t zC_r kZ4 (by decide)
  refine fc_63_2 (i3 y2) _ _ _ _ hL5 ?_
  exact zlW hP (rfl : i3 y2 = i3 y2) ⟨hZ4I, hZ4K, hZ4U, by omega, by omega, tZ4_x0b⟩
/- yX11_bestStart -/
def zx_189 (Z : qz_Z) (a1 : Int) (a2 : Int) (a3 : Int) (a4 : Int) : qz_Z × Int × Int := (if 0 ≤ a1 ∧ a1 < (Z 11 0 0 7) then (if 0 ≤ a2 ∧ a2 < (Z 11 0 0 3) then (if 1 ≤ a3 ∧ a3 ≤ 9999 then (if 0 ≤ a4 ∧ a4 ≤ 1 then (if (Z 44 0 a2 4) ≤ 0 then (Z, 0, 15) else (zlet2 (zf_63 Z 0 (12 + 0) a1 a2 a3) (fun Z11 v12 => (if a4 ≠ 0 then (Z11, v12, 0) else (Z11, (Z11 69 0 0 0), 0))))) else (Z, 0, 13)) else (Z, 0, 13)) else (Z, 0, 24)) else (Z, 0, 24))
theorem sx_189 {M : Nat} {Z : qz_Z} {ν : qz_N} (hZ : zH ((none, M) : zSM) Z) (hM : ((none, M) : zSM).2 + 215332 ≤ 1000000000) {a1 : Int} (ga1 : -2147483648 ≤ a1 ∧ a1 ≤ 2147483647) {a2 : Int} (ga2 : -2147483648 ≤ a2 ∧ a2 ≤ 2147483647) {a3 : Int} (ga3 : -2147483648 ≤ a3 ∧ a3 ≤ 2147483647) {a4 : Int} (ga4 : -2147483648 ≤ a4 ∧ a4 ≤ 2147483647) (hLt0 : zLt 0 Z) : ∃ (Z1 : qz_Z) (ν1 : qz_N) (v E : Int), (Z1, v, E) = zx_189 Z a1 a2 a3 a4 ∧ qf_189 [.inr (.inr (some (0, 0, 0))), .inl (i3 a1), .inl (i3 a2), .inl (i3 a3), .inl (i3 a4)] (zm Z ν) = some (zm Z1 ν1, zoX v E) ∧ (fun Z1 ν1 => zH (zb ((none, M) : zSM) 215332) Z1 ∧ zC [12, 13, 14, 40, 41, 42, 43, 44, 45, 46, 47, 48, 49, 50, 51, 52, 53, 54, 69, 1099, 1100, 1101, 1102, 1103, 1104, 1105, 1106, 1107, 1108, 1109, 1110, 1111, 1112, 1113, 1114, 1115, 1116] Z Z1 ∧ zU [(12 + 0)] Z Z1 ∧ zG 1 6 ν ν1) Z1 ν1 := by
  obtain ⟨P, hP⟩ := zx (zx_189 Z a1 a2 a3 a4)
  refine zc_G (Q := fun Z1 ν1 => zH (zb ((none, M) : zSM) 215332) Z1 ∧ zC [12, 13, 14, 40, 41, 42, 43, 44, 45, 46, 47, 48, 49, 50, 51, 52, 53, 54, 69, 1099, 1100, 1101, 1102, 1103, 1104, 1105, 1106, 1107, 1108, 1109, 1110, 1111, 1112, 1113, 1114, 1115, 1116] Z Z1 ∧ zU [(12 + 0)] Z Z1 ∧ zG 1 6 ν ν1) hP (fw_189 (i3 a1) (i3 a2) (i3 a3) (i3 a4) _ _ ?_)
  replace hP : zE P (zx_189 Z a1 a2 a3 a4) := hP
  unfold zx_189 at hP
  have r1 := zH_k hZ 11 0 0 7 (lo := 0) (hi := 2) (by decide) rfl
  refine wz_thing (rfl : i3 a1 = i3 a1) (zm_rd (Z := Z) (ν := ν) (k := 11) (show ((0 : Nat) : Int) = 0 from rfl) (show ((0 : Nat) : Int) = 0 from rfl) (show ((7 : Nat) : Int) = 7 from rfl)) (by omega) (by omega) (by omega) (by omega) (fun h2 => ?_) (fun h2 => ?_)
  · replace hP := zE_p hP h2
    have r3 := zH_k hZ 11 0 0 3 (lo := 0) (hi := 48) (by decide) rfl
    refine wz_thing (rfl : i3 a2 = i3 a2) (zm_rd (Z := Z) (ν := ν) (k := 11) (show ((0 : Nat) : Int) = 0 from rfl) (show ((0 : Nat) : Int) = 0 from rfl) (show ((3 : Nat) : Int) = 3 from rfl)) (by omega) (by omega) (by omega) (by omega) (fun h4 => ?_) (fun h4 => ?_)
    · replace hP := zE_p hP h4
      refine wz_inR (rfl : i3 a3 = i3 a3) (show (1 : Int32) = i3 1 from rfl) (show (9999 : Int32) = i3 9999 from rfl) (by omega) (by omega) (by omega) (by omega) (by omega) (by omega) (fun h5 => ?_) (fun h5 => ?_)
      · replace hP := zE_p hP h5
        refine wz_inR (rfl : i3 a4 = i3 a4) (show (0 : Int32) = i3 0 from rfl) (show (1 : Int32) = i3 1 from rfl) (by omega) (by omega) (by omega) (by omega) (by omega) (by omega) (fun h6 => ?_) (fun h6 => ?_)
        · replace hP := zE_p hP h6
          refine wz_i0 (i3O (n := 48) (rfl : i3 a2 = i3 a2) (by omega) (by omega) (by omega)) ?_
          have r7 := zH_k hZ 44 0 a2 4 (lo := 0) (hi := 40) (by decide) rfl
          refine wz_br (i3Le (zm_rd (Z := Z) (ν := ν) (k := 44) (show ((0 : Nat) : Int) = 0 from rfl) (i3I (y := a2) (rfl : i3 a2 = i3 a2) (by omega) (by omega) (by omega)) (show ((4 : Nat) : Int) = 4 from rfl)) (show (0 : Int32) = i3 0 from rfl) (by omega) (by omega) (by omega) (by omega)) (fun h8 => ?_) (fun h8 => ?_)
          · replace hP := zE_p hP h8
            refine wz_inT_n (show (0 : Int32) = i3 0 from rfl) (by omega) (by omega) (by omega) ?_
            exact zlGe (E := 14) hP ⟨(zbw (a := 0) (c := 215332) hZ (Nat.le_of_ble_eq_true rfl)), zC_r, zU_r, zG_w (zG_k rfl) (Nat.le_of_ble_eq_true rfl) (Nat.le_of_ble_eq_true rfl)⟩
          · replace hP := zE_n hP h8
            refine wz_inT_y (show (1 : Int32) = i3 1 from rfl) (by omega) (by omega) (by omega) ?_
            obtain ⟨Z11, v12, hv12, c9, hZ11I, kZ11, jZ11, lv12, uv12, tZ11_a0b⟩ := sp_63 (ν := ν) hZ 0 (12 + 0) (a2 := a1) (by omega) (a3 := a2) (by omega) (a4 := a3) (by omega) (by omega) hLt0 (zbh (c := 0) (k := 215332) hM (Nat.le_of_ble_eq_true rfl))
            have hZ11U : zU [(12 + 0)] Z Z11 := zU_t zU_r jZ11 (zU_b1 (List.Mem.head _) zU_b0)
            have hZ11K : zC [12, 13, 14, 40, 41, 42, 43, 44, 45, 46, 47, 48, 49, 50, 51, 52, 53, 54, 69, 1099, 1100, 1101, 1102, 1103, 1104, 1105, 1106, 1107, 1108, 1109, 1110, 1111, 1112, 1113, 1114, 1115, 1116] Z Z11 := zC_t zC_r kZ11 (by decide)
            replace hP := zl_e2 hP hv12
            refine wz_cI_of (zas (zcons rfl (zcons rfl (zcons (zvi (rfl : i3 a1 = i3 a1)) (zcons (zvi (rfl : i3 a2 = i3 a2)) (zcons (zvi (rfl : i3 a3 = i3 a3)) (zcons rfl rfl)))))) c9) ?_
            clear c9 hv12
            refine wz_br (i3NE (rfl : i3 a4 = i3 a4) (show (0 : Int32) = i3 0 from rfl) (by omega) (by omega) (by omega) (by omega)) (fun h13 => ?_) (fun h13 => ?_)
            · replace hP := zE_p hP h13
              exact zlG hP (rfl : i3 v12 = i3 v12) ⟨hZ11I, hZ11K, hZ11U, zG_w zG_r (Nat.le_of_ble_eq_true rfl) (Nat.le_of_ble_eq_true rfl)⟩
            · replace hP := zE_n hP h13
              have r14 := zH_f hZ11I 69 0 0 0
              exact zlG hP (zm_rd (Z := Z11) (ν := ν) (k := 69) (show ((0 : Nat) : Int) = 0 from rfl) (show ((0 : Nat) : Int) = 0 from rfl) (show ((0 : Nat) : Int) = 0 from rfl)) ⟨hZ11I, hZ11K, hZ11U, zG_w zG_r (Nat.le_of_ble_eq_true rfl) (Nat.le_of_ble_eq_true rfl)⟩
        · replace hP := zE_n hP h6
          exact zlGe (E := 12) hP ⟨(zbw (a := 0) (c := 215332) hZ (Nat.le_of_ble_eq_true rfl)), zC_r, zU_r, zG_w (zG_k rfl) (Nat.le_of_ble_eq_true rfl) (Nat.le_of_ble_eq_true rfl)⟩
      · replace hP := zE_n hP h5
        exact zlGe (E := 12) hP ⟨(zbw (a := 0) (c := 215332) hZ (Nat.le_of_ble_eq_true rfl)), zC_r, zU_r, zG_w (zG_k rfl) (Nat.le_of_ble_eq_true rfl) (Nat.le_of_ble_eq_true rfl)⟩
    · replace hP := zE_n hP h4
      exact zlGe (E := 23) hP ⟨(zbw (a := 0) (c := 215332) hZ (Nat.le_of_ble_eq_true rfl)), zC_r, zU_r, zG_w (zG_k rfl) (Nat.le_of_ble_eq_true rfl) (Nat.le_of_ble_eq_true rfl)⟩
  · replace hP := zE_n hP h2
    exact zlGe (E := 23) hP ⟨(zbw (a := 0) (c := 215332) hZ (Nat.le_of_ble_eq_true rfl)), zC_r, zU_r, zG_w (zG_k rfl) (Nat.le_of_ble_eq_true rfl) (Nat.le_of_ble_eq_true rfl)⟩
/- yX1_payIn -/
def zf_31 (Z : qz_Z) (a0b : Int) (a1 : Int) (a2 : Int) : qz_Z × Int := (zlet (zu Z 45 a0b a1 3 (w3 ((Z 45 a0b a1 3) + a2))) (fun Z3 => (zlet (zu Z3 45 a0b a1 12 (w3 ((Z3 45 a0b a1 12) + a2))) (fun Z6 => (zlet (zu Z6 14 a0b 0 1 (w3 ((Z6 14 a0b 0 1) - a2))) (fun Z9 => (zlet (zu Z9 14 a0b 0 0 (w3 ((Z9 14 a0b 0 0) + a2))) (fun Z12 => (zlet (zu Z12 53 a0b ((Z12 11 a0b 0 12) % 60) 0 1) (fun Z14 => (zlet (zu Z14 53 a0b ((Z12 11 a0b 0 12) % 60) 1 0) (fun Z15 => (zlet (zu Z15 53 a0b ((Z12 11 a0b 0 12) % 60) 2 a2) (fun Z16 => (zlet (zu Z16 53 a0b ((Z12 11 a0b 0 12) % 60) 3 (-1)) (fun Z17 => (zlet (zu Z17 53 a0b ((Z12 11 a0b 0 12) % 60) 4 (Z17 11 a0b 0 13)) (fun Z19 => (zlet (zu Z19 11 a0b 0 12 ((Z19 11 a0b 0 12) + 1)) (fun Z22 => (Z22, (Z22 45 a0b a1 3))))))))))))))))))))))
theorem sp_31 {s : zSM} {Z : qz_Z} {ν : qz_N} (hZ : zH s Z) (a0b : Nat) {a1 : Int} (ga1 : 0 ≤ a1 ∧ a1 ≤ 7) {a2 : Int} (ga2 : 1 ≤ a2 ∧ a2 ≤ 9999999) (hM : s.2 + 1 ≤ 1000000000) : ∃ (Z1 : qz_Z) (P : Int), (Z1, P) = zf_31 Z a0b a1 a2 ∧ (qf_31 [.inr (.inr (some (10, a0b, 0))), .inl (i3 a1), .inl (i3 a2)] (zm Z ν) = some (zm Z1 ν, .inl (some (.inl (i3 P)))) ∧ zH (zb s 1) Z1 ∧ zC [14, 45, 53, 1112] Z Z1 ∧ zU [a0b] Z Z1 ∧ -2147483648 ≤ P ∧ P ≤ 2147483647) := by
  obtain ⟨P, hP⟩ := zx (zf_31 Z a0b a1 a2)
  refine zc_W (Q := fun Z1 P => zH (zb s 1) Z1 ∧ zC [14, 45, 53, 1112] Z Z1 ∧ zU [a0b] Z Z1 ∧ -2147483648 ≤ P ∧ P ≤ 2147483647) hP (fw_31 a0b (i3 a1) (i3 a2) _ _ ?_)
  replace hP : zE P (zf_31 Z a0b a1 a2) := hP
  unfold zf_31 at hP
  refine wz_i0 (i3O (n := 8) (rfl : i3 a1 = i3 a1) (by omega) (by omega) (by omega)) ?_
  have r1 := zH_f hZ 45 a0b a1 3
  have r2 := w3_r ((Z 45 a0b a1 3) + a2)
  obtain ⟨Z3, hZ3⟩ := zx (zu Z 45 a0b a1 3 (w3 ((Z 45 a0b a1 3) + a2)))
  replace hP := zl_e hP hZ3
  have hZ3I := zH_u hZ hZ3 (lo := -2147483648) (hi := 2147483647) (by decide) rfl (by omega) ⟨by decide, by decide⟩ (Or.inl (by decide)) rfl
  have hZ3U : zU [a0b] Z Z3 := zU_u zU_r hZ3 (Or.inr (List.Mem.head _))
  have hZ3K : zC [14, 45, 53, 1112] Z Z3 := zC_u zC_r hZ3 (by decide)
  intro μ9 e9
  replace e9 := e9.trans (zm_wI (Z := Z) (ν := ν) hZ3 (rfl : ((a0b : Nat) : Int) = a0b) (i3I (y := a1) (rfl : i3 a1 = i3 a1) (by omega) (by omega) (by omega)) (show ((3 : Nat) : Int) = 3 from rfl) (i3W (i3A (zm_rd (Z := Z) (ν := ν) (k := 45) (rfl : ((a0b : Nat) : Int) = a0b) (i3I (y := a1) (rfl : i3 a1 = i3 a1) (by omega) (by omega) (by omega)) (show ((3 : Nat) : Int) = 3 from rfl)) (rfl : i3 a2 = i3 a2))))
  subst e9
  have r4 := zH_f hZ3I 45 a0b a1 12
  have r5 := w3_r ((Z3 45 a0b a1 12) + a2)
  obtain ⟨Z6, hZ6⟩ := zx (zu Z3 45 a0b a1 12 (w3 ((Z3 45 a0b a1 12) + a2)))
  replace hP := zl_e hP hZ6
  have hZ6I := zH_u hZ3I hZ6 (lo := -2147483648) (hi := 2147483647) (by decide) rfl (by omega) ⟨by decide, by decide⟩ (Or.inl (by decide)) rfl
  have hZ6U : zU [a0b] Z Z6 := zU_u hZ3U hZ6 (Or.inr (List.Mem.head _))
  have hZ6K : zC [14, 45, 53, 1112] Z Z6 := zC_u hZ3K hZ6 (by decide)
  intro μ9 e9
  replace e9 := e9.trans (zm_wI (Z := Z3) (ν := ν) hZ6 (rfl : ((a0b : Nat) : Int) = a0b) (i3I (y := a1) (rfl : i3 a1 = i3 a1) (by omega) (by omega) (by omega)) (show ((12 : Nat) : Int) = 12 from rfl) (i3W (i3A (zm_rd (Z := Z3) (ν := ν) (k := 45) (rfl : ((a0b : Nat) : Int) = a0b) (i3I (y := a1) (rfl : i3 a1 = i3 a1) (by omega) (by omega) (by omega)) (show ((12 : Nat) : Int) = 12 from rfl)) (rfl : i3 a2 = i3 a2))))
  subst e9
  refine wz_i1 (Eq.trans (i3NE (rfl : i3 a2 = i3 a2) (show (0 : Int32) = i3 0 from rfl) (by omega) (by omega) (by omega) (by omega)) (decide_eq_true (by omega))) ?_
  have r7 := zH_f hZ6I 14 a0b 0 1
  have r8 := w3_r ((Z6 14 a0b 0 1) - a2)
  obtain ⟨Z9, hZ9⟩ := zx (zu Z6 14 a0b 0 1 (w3 ((Z6 14 a0b 0 1) - a2)))
  replace hP := zl_e hP hZ9
  have hZ9I := zH_u hZ6I hZ9 (lo := -2147483648) (hi := 2147483647) (by decide) rfl (by omega) ⟨by decide, by decide⟩ (Or.inl (by decide)) rfl
  have hZ9U : zU [a0b] Z Z9 := zU_u hZ6U hZ9 (Or.inr (List.Mem.head _))
  have hZ9K : zC [14, 45, 53, 1112] Z Z9 := zC_u hZ6K hZ9 (by decide)
  intro μ9 e9
  replace e9 := e9.trans (zm_wI (Z := Z6) (ν := ν) hZ9 (rfl : ((a0b : Nat) : Int) = a0b) (show ((0 : Nat) : Int) = 0 from rfl) (show ((1 : Nat) : Int) = 1 from rfl) (i3W (i3S (zm_rd (Z := Z6) (ν := ν) (k := 14) (rfl : ((a0b : Nat) : Int) = a0b) (show ((0 : Nat) : Int) = 0 from rfl) (show ((1 : Nat) : Int) = 1 from rfl)) (rfl : i3 a2 = i3 a2))))
  subst e9
  have r10 := zH_f hZ9I 14 a0b 0 0
  have r11 := w3_r ((Z9 14 a0b 0 0) + a2)
  obtain ⟨Z12, hZ12⟩ := zx (zu Z9 14 a0b 0 0 (w3 ((Z9 14 a0b 0 0) + a2)))
  replace hP := zl_e hP hZ12
  have hZ12I := zH_u hZ9I hZ12 (lo := -2147483648) (hi := 2147483647) (by decide) rfl (by omega) ⟨by decide, by decide⟩ (Or.inl (by decide)) rfl
  have hZ12U : zU [a0b] Z Z12 := zU_u hZ9U hZ12 (Or.inr (List.Mem.head _))
  have hZ12K : zC [14, 45, 53, 1112] Z Z12 := zC_u hZ9K hZ12 (by decide)
  intro μ9 e9
  replace e9 := e9.trans (zm_wI (Z := Z9) (ν := ν) hZ12 (rfl : ((a0b : Nat) : Int) = a0b) (show ((0 : Nat) : Int) = 0 from rfl) (show ((0 : Nat) : Int) = 0 from rfl) (i3W (i3A (zm_rd (Z := Z9) (ν := ν) (k := 14) (rfl : ((a0b : Nat) : Int) = a0b) (show ((0 : Nat) : Int) = 0 from rfl) (show ((0 : Nat) : Int) = 0 from rfl)) (rfl : i3 a2 = i3 a2))))
  subst e9
  have r13 := zH_c12 hZ12I a0b (zbh (c := 0) (k := 0) hM (Nat.le_of_ble_eq_true rfl))
  refine wz_i0 (i3O (n := 60) (i3R (zm_rd (Z := Z12) (ν := ν) (k := 11) (rfl : ((a0b : Nat) : Int) = a0b) (show ((0 : Nat) : Int) = 0 from rfl) (show ((12 : Nat) : Int) = 12 from rfl)) (show (60 : Int32) = i3 60 from rfl) (by omega) (by omega) (by omega) (by omega)) (by omega) (by omega) (by omega)) ?_
  obtain ⟨Z14, hZ14⟩ := zx (zu Z12 53 a0b ((Z12 11 a0b 0 12) % 60) 0 1)
  replace hP := zl_e hP hZ14
  have hZ14I := zH_u hZ12I hZ14 (lo := -2147483648) (hi := 2147483647) (by decide) rfl (by omega) ⟨by decide, by decide⟩ (Or.inl (by decide)) rfl
  have hZ14U : zU [a0b] Z Z14 := zU_u hZ12U hZ14 (Or.inr (List.Mem.head _))
  have hZ14K : zC [14, 45, 53, 1112] Z Z14 := zC_u hZ12K hZ14 (by decide)
  intro μ9 e9
  replace e9 := e9.trans (zm_wI (Z := Z12) (ν := ν) hZ14 (rfl : ((a0b : Nat) : Int) = a0b) (i3I (y := ((Z12 11 a0b 0 12) % 60)) (i3R (zm_rd (Z := Z12) (ν := ν) (k := 11) (rfl : ((a0b : Nat) : Int) = a0b) (show ((0 : Nat) : Int) = 0 from rfl) (show ((12 : Nat) : Int) = 12 from rfl)) (show (60 : Int32) = i3 60 from rfl) (by omega) (by omega) (by omega) (by omega)) (by omega) (by omega) (by omega)) (show ((0 : Nat) : Int) = 0 from rfl) (show (1 : Int32) = i3 1 from rfl))
  subst e9
  obtain ⟨Z15, hZ15⟩ := zx (zu Z14 53 a0b ((Z12 11 a0b 0 12) % 60) 1 0)
  replace hP := zl_e hP hZ15
  have hZ15I := zH_0 hZ14I hZ15 (by decide) (Or.inl (by decide))
  have hZ15U : zU [a0b] Z Z15 := zU_u hZ14U hZ15 (Or.inr (List.Mem.head _))
  have hZ15K : zC [14, 45, 53, 1112] Z Z15 := zC_u hZ14K hZ15 (by decide)
  intro μ9 e9
  replace e9 := e9.trans (zm_wI (Z := Z14) (ν := ν) hZ15 (rfl : ((a0b : Nat) : Int) = a0b) (i3I (y := ((Z12 11 a0b 0 12) % 60)) (i3R (zm_rd (Z := Z12) (ν := ν) (k := 11) (rfl : ((a0b : Nat) : Int) = a0b) (show ((0 : Nat) : Int) = 0 from rfl) (show ((12 : Nat) : Int) = 12 from rfl)) (show (60 : Int32) = i3 60 from rfl) (by omega) (by omega) (by omega) (by omega)) (by omega) (by omega) (by omega)) (show ((1 : Nat) : Int) = 1 from rfl) (show (0 : Int32) = i3 0 from rfl))
  subst e9
  obtain ⟨Z16, hZ16⟩ := zx (zu Z15 53 a0b ((Z12 11 a0b 0 12) % 60) 2 a2)
  replace hP := zl_e hP hZ16
  have hZ16I := zH_u hZ15I hZ16 (lo := -2147483648) (hi := 2147483647) (by decide) rfl (by omega) ⟨by decide, by decide⟩ (Or.inl (by decide)) rfl
  have hZ16U : zU [a0b] Z Z16 := zU_u hZ15U hZ16 (Or.inr (List.Mem.head _))
  have hZ16K : zC [14, 45, 53, 1112] Z Z16 := zC_u hZ15K hZ16 (by decide)
  intro μ9 e9
  replace e9 := e9.trans (zm_wI (Z := Z15) (ν := ν) hZ16 (rfl : ((a0b : Nat) : Int) = a0b) (i3I (y := ((Z12 11 a0b 0 12) % 60)) (i3R (zm_rd (Z := Z12) (ν := ν) (k := 11) (rfl : ((a0b : Nat) : Int) = a0b) (show ((0 : Nat) : Int) = 0 from rfl) (show ((12 : Nat) : Int) = 12 from rfl)) (show (60 : Int32) = i3 60 from rfl) (by omega) (by omega) (by omega) (by omega)) (by omega) (by omega) (by omega)) (show ((2 : Nat) : Int) = 2 from rfl) (rfl : i3 a2 = i3 a2))
  subst e9
  obtain ⟨Z17, hZ17⟩ := zx (zu Z16 53 a0b ((Z12 11 a0b 0 12) % 60) 3 (-1))
  replace hP := zl_e hP hZ17
  have hZ17I := zH_u hZ16I hZ17 (lo := -2147483648) (hi := 2147483647) (by decide) rfl (by omega) ⟨by decide, by decide⟩ (Or.inl (by decide)) rfl
  have hZ17U : zU [a0b] Z Z17 := zU_u hZ16U hZ17 (Or.inr (List.Mem.head _))
  have hZ17K : zC [14, 45, 53, 1112] Z Z17 := zC_u hZ16K hZ17 (by decide)
  intro μ9 e9
  replace e9 := e9.trans (zm_wI (Z := Z16) (ν := ν) hZ17 (rfl : ((a0b : Nat) : Int) = a0b) (i3I (y := ((Z12 11 a0b 0 12) % 60)) (i3R (zm_rd (Z := Z12) (ν := ν) (k := 11) (rfl : ((a0b : Nat) : Int) = a0b) (show ((0 : Nat) : Int) = 0 from rfl) (show ((12 : Nat) : Int) = 12 from rfl)) (show (60 : Int32) = i3 60 from rfl) (by omega) (by omega) (by omega) (by omega)) (by omega) (by omega) (by omega)) (show ((3 : Nat) : Int) = 3 from rfl) (show (-1 : Int32) = i3 (-1) from rfl))
  subst e9
  have r18 := zH_k hZ17I 11 a0b 0 13 (lo := 0) (hi := 671) (by decide) rfl
  obtain ⟨Z19, hZ19⟩ := zx (zu Z17 53 a0b ((Z12 11 a0b 0 12) % 60) 4 (Z17 11 a0b 0 13))
  replace hP := zl_e hP hZ19
  have hZ19I := zH_u hZ17I hZ19 (lo := -2147483648) (hi := 2147483647) (by decide) rfl (by omega) ⟨by decide, by decide⟩ (Or.inl (by decide)) rfl
  have hZ19U : zU [a0b] Z Z19 := zU_u hZ17U hZ19 (Or.inr (List.Mem.head _))
  have hZ19K : zC [14, 45, 53, 1112] Z Z19 := zC_u hZ17K hZ19 (by decide)
  intro μ9 e9
  replace e9 := e9.trans (zm_wI (Z := Z17) (ν := ν) hZ19 (rfl : ((a0b : Nat) : Int) = a0b) (i3I (y := ((Z12 11 a0b 0 12) % 60)) (i3R (zm_rd (Z := Z12) (ν := ν) (k := 11) (rfl : ((a0b : Nat) : Int) = a0b) (show ((0 : Nat) : Int) = 0 from rfl) (show ((12 : Nat) : Int) = 12 from rfl)) (show (60 : Int32) = i3 60 from rfl) (by omega) (by omega) (by omega) (by omega)) (by omega) (by omega) (by omega)) (show ((4 : Nat) : Int) = 4 from rfl) (zm_rd (Z := Z17) (ν := ν) (k := 11) (rfl : ((a0b : Nat) : Int) = a0b) (show ((0 : Nat) : Int) = 0 from rfl) (show ((13 : Nat) : Int) = 13 from rfl)))
  subst e9
  have r20 := zH_c12 hZ19I a0b (zbh (c := 0) (k := 0) hM (Nat.le_of_ble_eq_true rfl))
  have q21 := (zu_ne (k' := 11) (b' := a0b) (i' := 0) (j' := 12) hZ19 (fun q => absurd q.1 (by decide))).trans ((zu_ne (k' := 11) (b' := a0b) (i' := 0) (j' := 12) hZ17 (fun q => absurd q.1 (by decide))).trans ((zu_ne (k' := 11) (b' := a0b) (i' := 0) (j' := 12) hZ16 (fun q => absurd q.1 (by decide))).trans ((zu_ne (k' := 11) (b' := a0b) (i' := 0) (j' := 12) hZ15 (fun q => absurd q.1 (by decide))).trans (zu_ne (k' := 11) (b' := a0b) (i' := 0) (j' := 12) hZ14 (fun q => absurd q.1 (by decide))))))
  obtain ⟨Z22, hZ22⟩ := zx (zu Z19 11 a0b 0 12 ((Z19 11 a0b 0 12) + 1))
  replace hP := zl_e hP hZ22
  have hZ22I := zH_i12 hZ19I hZ22 (zbh (c := 0) (k := 1) hM (Nat.le_of_ble_eq_true rfl)) (by omega)
  have hZ22U : zU [a0b] Z Z22 := zU_u hZ19U hZ22 (Or.inr (List.Mem.head _))
  have hZ22K : zC [14, 45, 53, 1112] Z Z22 := zC_u hZ19K hZ22 (by decide)
  intro μ9 e9
  replace e9 := e9.trans (zm_wI (Z := Z19) (ν := ν) hZ22 (rfl : ((a0b : Nat) : Int) = a0b) (show ((0 : Nat) : Int) = 0 from rfl) (show ((12 : Nat) : Int) = 12 from rfl) (i3A (zm_rd (Z := Z19) (ν := ν) (k := 11) (rfl : ((a0b : Nat) : Int) = a0b) (show ((0 : Nat) : Int) = 0 from rfl) (show ((12 : Nat) : Int) = 12 from rfl)) (show (1 : Int32) = i3 1 from rfl)))
  subst e9
  have r23 := zH_f hZ22I 45 a0b a1 3
  have q24 := (zu_ne (k' := 45) (b' := a0b) (i' := a1) (j' := 3) hZ22 (fun q => absurd q.1 (by decide))).trans ((zu_ne (k' := 45) (b' := a0b) (i' := a1) (j' := 3) hZ19 (fun q => absurd q.1 (by decide))).trans ((zu_ne (k' := 45) (b' := a0b) (i' := a1) (j' := 3) hZ17 (fun q => absurd q.1 (by decide))).trans ((zu_ne (k' := 45) (b' := a0b) (i' := a1) (j' := 3) hZ16 (fun q => absurd q.1 (by decide))).trans ((zu_ne (k' := 45) (b' := a0b) (i' := a1) (j' := 3) hZ15 (fun q => absurd q.1 (by decide))).trans ((zu_ne (k' := 45) (b' := a0b) (i' := a1) (j' := 3) hZ14 (fun q => absurd q.1 (by decide))).trans ((zu_ne (k' := 45) (b' := a0b) (i' := a1) (j' := 3) hZ12 (fun q => absurd q.1 (by decide))).trans ((zu_ne (k' := 45) (b' := a0b) (i' := a1) (j' := 3) hZ9 (fun q => absurd q.1 (by decide))).trans ((zu_ne (k' := 45) (b' := a0b) (i' := a1) (j' := 3) hZ6 (fun q => absurd q.2.2.2 (by decide))).trans (zu_at hZ3)))))))))
  exact zlW hP (zm_rd (Z := Z22) (ν := ν) (k := 45) (rfl : ((a0b : Nat) : Int) = a0b) (i3I (y := a1) (rfl : i3 a1 = i3 a1) (by omega) (by omega) (by omega)) (show ((3 : Nat) : Int) = 3 from rfl)) ⟨hZ22I, hZ22K, hZ22U, by omega, by omega⟩
/- yX2_cratesIn -/
def zl_43_1 (x0b : Int) (x1 : Int) : Nat → qz_Z → Int → Int → Int × Int
  | 0, Z, x2, x3 => (x2, x3)
  | m + 1, Z, x2, x3 => (if (Z 11 x0b 0 6) ≤ x3 then (x2, x3) else (if (Z 47 x0b x3 10) ≠ x1 then zl_43_1 x0b x1 m Z x2 (x3 + 1) else zl_43_1 x0b x1 m Z (w3 (x2 + (Z 47 x0b x3 3))) (x3 + 1)))
theorem sl_43_1 {s : zSM} {Z : qz_Z} {ν : qz_N} (hZ : zH s Z) (hM : s.2 + 0 ≤ 1000000000) (x0b : Nat) {x1 : Int} (gx1 : 0 ≤ x1 ∧ x1 ≤ 3) {x2 : Int} (gx2 : -2147483648 ≤ x2 ∧ x2 ≤ 2147483647) {x3 : Int} (gx3 : 0 ≤ x3 ∧ x3 ≤ 60) {k : wz_K} {R : wz_R} {L : qz_L} (hL : qz_fg [true, true, true, true] L = [some (.inr (.inr (some (10, x0b, 0)))), some (.inl (i3 x1)), some (.inl (i3 x2)), some (.inl (i3 x3))]) {T : Int × Int} (hP : zE T (zl_43_1 x0b x1 ((60 - x3).toNat + 1) Z x2 x3)) (hk : ∀ (L9 : qz_L) (yx2 yx3 : Int), qz_fg [false, false, true, false] L9 = [none, none, some (.inl (i3 yx2)), none] → (-2147483648 ≤ yx2 ∧ yx2 ≤ 2147483647) → (0 ≤ yx3 ∧ yx3 ≤ 60) → zE T ((yx2, yx3)) → k 0 (L9, [], zm Z ν)) : wz_loop qb_43_1 65536 k R (L, [], zm Z ν) := by
  refine wz_lp sb_43_1 (fun m x => ∃ x2 : Int, ∃ x3 : Int, qz_fg [true, true, true, true] x.1 = [some (.inr (.inr (some (10, x0b, 0)))), some (.inl (i3 x1)), some (.inl (i3 x2)), some (.inl (i3 x3))] ∧ x.2 = ([], zm Z ν) ∧ m = (60 - x3).toNat ∧ (-2147483648 ≤ x2 ∧ x2 ≤ 2147483647) ∧ (0 ≤ x3 ∧ x3 ≤ 60) ∧ zE T (zl_43_1 x0b x1 (m + 1) Z x2 x3)) ?_ 65536 ((60 - x3).toNat) _ (by omega) ⟨x2, x3, hL, rfl, rfl, gx2, gx3, hP⟩
  clear hP gx2 gx3 hL
  clear x2 x3
  rintro m ⟨L, st, μ⟩ ⟨x2, x3, hL, hx, hm, gx2, gx3, hP⟩
  cases hx
  refine fb_43_1 x0b (i3 x1) (i3 x2) (i3 x3) _ _ _ _ hL ?_
  have r1 := zH_k hZ 11 x0b 0 6 (lo := 0) (hi := 60) (by decide) rfl
  refine wz_br (i3Le (zm_rd (Z := Z) (ν := ν) (k := 11) (rfl : ((x0b : Nat) : Int) = x0b) (show ((0 : Nat) : Int) = 0 from rfl) (show ((6 : Nat) : Int) = 6 from rfl)) (rfl : i3 x3 = i3 x3) (by omega) (by omega) (by omega) (by omega)) (fun h2 => ?_) (fun h2 => ?_)
  · replace hP := zE_p hP h2
    exact hk _ _ _ (zconso rfl (zconso rfl (zconso (zvo (rfl : i3 x2 = i3 x2)) (zconso rfl rfl))))  (by omega) (by omega)  hP
  · replace hP := zE_n hP h2
    refine wz_i0 (i3O (n := 60) (rfl : i3 x3 = i3 x3) (by omega) (by omega) (by omega)) ?_
    have r3 := zH_k hZ 47 x0b x3 10 (lo := -1) (hi := 3) (by decide) rfl
    have r4 := zH_lt hZ x0b x3
    refine wz_br (i3NE (zm_rd (Z := Z) (ν := ν) (k := 47) (rfl : ((x0b : Nat) : Int) = x0b) (i3I (y := x3) (rfl : i3 x3 = i3 x3) (by omega) (by omega) (by omega)) (show ((10 : Nat) : Int) = 10 from rfl)) (rfl : i3 x1 = i3 x1) (by omega) (by omega) (by omega) (by omega)) (fun h5 => ?_) (fun h5 => ?_)
    · replace hP := zE_p hP h5
      obtain ⟨m2, rfl⟩ : ∃ m2, m = m2 + 1 := ⟨m - 1, by omega⟩
      exact wz_k1 ⟨m2, by omega, x2, (x3 + 1), (zconso rfl (zconso (zvo (rfl : i3 x1 = i3 x1)) (zconso (zvo (rfl : i3 x2 = i3 x2)) (zconso (zvo (i3A (rfl : i3 x3 = i3 x3) (show (1 : Int32) = i3 1 from rfl))) rfl)))), rfl,  by omega, by omega, by omega,  hP⟩
    · replace hP := zE_n hP h5
      refine wz_i0 (i3O (n := 60) (rfl : i3 x3 = i3 x3) (by omega) (by omega) (by omega)) ?_
      have r6 := zH_k hZ 47 x0b x3 3 (lo := 0) (hi := 40) (by decide) rfl
      have r7 := w3_r (x2 + (Z 47 x0b x3 3))
      obtain ⟨m2, rfl⟩ : ∃ m2, m = m2 + 1 := ⟨m - 1, by omega⟩
      exact wz_k1 ⟨m2, by omega, (w3 (x2 + (Z 47 x0b x3 3))), (x3 + 1), (zconso rfl (zconso (zvo (rfl : i3 x1 = i3 x1)) (zconso (zvo (i3W (i3A (rfl : i3 x2 = i3 x2) (zm_rd (Z := Z) (ν := ν) (k := 47) (rfl : ((x0b : Nat) : Int) = x0b) (i3I (y := x3) (rfl : i3 x3 = i3 x3) (by omega) (by omega) (by omega)) (show ((3 : Nat) : Int) = 3 from rfl))))) (zconso (zvo (i3A (rfl : i3 x3 = i3 x3) (show (1 : Int32) = i3 1 from rfl))) rfl)))), rfl,  by omega, by omega, by omega,  hP⟩
/- yX2_cratesIn -/
def zf_43 (Z : qz_Z) (a0b : Int) (a1 : Int) : Int := (zlet2 (zl_43_1 a0b a1 61 Z 0 0) (fun y1 y2 => y1))
theorem sp_43 {s : zSM} {Z : qz_Z} {ν : qz_N} (hZ : zH s Z) (a0b : Nat) {a1 : Int} (ga1 : 0 ≤ a1 ∧ a1 ≤ 3) (hM : s.2 + 0 ≤ 1000000000) : ∃ P : Int, P = zf_43 Z a0b a1 ∧ (qf_43 [.inr (.inr (some (10, a0b, 0))), .inl (i3 a1)] (zm Z ν) = some (zm Z ν, .inl (some (.inl (i3 P)))) ∧ -2147483648 ≤ P ∧ P ≤ 2147483647) := by
  obtain ⟨P, hP⟩ := zx (zf_43 Z a0b a1)
  refine zc_R (Q := fun P => -2147483648 ≤ P ∧ P ≤ 2147483647) hP (fw_43 a0b (i3 a1) _ _ ?_)
  replace hP : zE P (zf_43 Z a0b a1) := hP
  unfold zf_43 at hP
  refine sl_43_1 (ν := ν) hZ (zbh (c := 0) (k := 0) hM (Nat.le_of_ble_eq_true rfl)) a0b (x1 := a1) (by omega) (x2 := 0) (by omega) (x3 := 0) (by omega)  (zconso rfl (zconso (zvo (rfl : i3 a1 = i3 a1)) (zconso (zvo (show (0 : Int32) = i3 0 from rfl)) (zconso (zvo (show (0 : Int32) = i3 0 from rfl)) rfl)))) rfl ?_
  intro L3 y1 y2 hL3 gy1 gy2 q9
  replace hP := zl_e2 hP (Eq.symm q9)
  clear q9
  refine fc_43_2 (i3 y1) _ _ _ _ hL3 ?_
  exact zlR hP (rfl : i3 y1 = i3 y1) ⟨by omega, by omega⟩
/- yX5_waitingOf -/
def zl_109_1 (x0b : Int) (x1 : Int) : Nat → qz_Z → Int → Int → Int × Int
  | 0, Z, x2, x3 => (x2, x3)
  | m + 1, Z, x2, x3 => (if (Z 11 x0b 0 6) ≤ x3 then (x2, x3) else (if (Z 47 x0b x3 0) ≠ x1 then zl_109_1 x0b x1 m Z x2 (x3 + 1) else (if (Z 47 x0b x3 9) ≠ 0 then zl_109_1 x0b x1 m Z x2 (x3 + 1) else zl_109_1 x0b x1 m Z (x2 + 1) (x3 + 1))))
theorem sl_109_1 {s : zSM} {Z : qz_Z} {ν : qz_N} (hZ : zH s Z) (hM : s.2 + 0 ≤ 1000000000) (x0b : Nat) {x1 : Int} (gx1 : 0 ≤ x1 ∧ x1 ≤ 47) {x2 : Int} (gx2 : 0 ≤ x2 ∧ x2 ≤ 60) {x3 : Int} (gx3 : 0 ≤ x3 ∧ x3 ≤ 60) (gr0 : x2 ≤ x3) {k : wz_K} {R : wz_R} {L : qz_L} (hL : qz_fg [true, true, true, true] L = [some (.inr (.inr (some (10, x0b, 0)))), some (.inl (i3 x1)), some (.inl (i3 x2)), some (.inl (i3 x3))]) {T : Int × Int} (hP : zE T (zl_109_1 x0b x1 ((60 - x3).toNat + 1) Z x2 x3)) (hk : ∀ (L9 : qz_L) (yx2 yx3 : Int), qz_fg [false, false, true, false] L9 = [none, none, some (.inl (i3 yx2)), none] → (0 ≤ yx2 ∧ yx2 ≤ 60) → (0 ≤ yx3 ∧ yx3 ≤ 60) → (yx2 ≤ yx3) → zE T ((yx2, yx3)) → k 0 (L9, [], zm Z ν)) : wz_loop qb_109_1 65536 k R (L, [], zm Z ν) := by
  refine wz_lp sb_109_1 (fun m x => ∃ x2 : Int, ∃ x3 : Int, qz_fg [true, true, true, true] x.1 = [some (.inr (.inr (some (10, x0b, 0)))), some (.inl (i3 x1)), some (.inl (i3 x2)), some (.inl (i3 x3))] ∧ x.2 = ([], zm Z ν) ∧ m = (60 - x3).toNat ∧ (0 ≤ x2 ∧ x2 ≤ 60) ∧ (0 ≤ x3 ∧ x3 ≤ 60) ∧ (x2 ≤ x3) ∧ zE T (zl_109_1 x0b x1 (m + 1) Z x2 x3)) ?_ 65536 ((60 - x3).toNat) _ (by omega) ⟨x2, x3, hL, rfl, rfl, gx2, gx3, gr0, hP⟩
  clear hP gr0 gx2 gx3 hL
  clear x2 x3
  rintro m ⟨L, st, μ⟩ ⟨x2, x3, hL, hx, hm, gx2, gx3, gr0, hP⟩
  cases hx
  refine fb_109_1 x0b (i3 x1) (i3 x2) (i3 x3) _ _ _ _ hL ?_
  have r1 := zH_k hZ 11 x0b 0 6 (lo := 0) (hi := 60) (by decide) rfl
  refine wz_br (i3Le (zm_rd (Z := Z) (ν := ν) (k := 11) (rfl : ((x0b : Nat) : Int) = x0b) (show ((0 : Nat) : Int) = 0 from rfl) (show ((6 : Nat) : Int) = 6 from rfl)) (rfl : i3 x3 = i3 x3) (by omega) (by omega) (by omega) (by omega)) (fun h2 => ?_) (fun h2 => ?_)
  · replace hP := zE_p hP h2
    exact hk _ _ _ (zconso rfl (zconso rfl (zconso (zvo (rfl : i3 x2 = i3 x2)) (zconso rfl rfl))))  (by omega) (by omega) (by omega) hP
  · replace hP := zE_n hP h2
    refine wz_i0 (i3O (n := 60) (rfl : i3 x3 = i3 x3) (by omega) (by omega) (by omega)) ?_
    have r3 := zH_k hZ 47 x0b x3 0 (lo := 0) (hi := 47) (by decide) rfl
    refine wz_br (i3NE (zm_rd (Z := Z) (ν := ν) (k := 47) (rfl : ((x0b : Nat) : Int) = x0b) (i3I (y := x3) (rfl : i3 x3 = i3 x3) (by omega) (by omega) (by omega)) (show ((0 : Nat) : Int) = 0 from rfl)) (rfl : i3 x1 = i3 x1) (by omega) (by omega) (by omega) (by omega)) (fun h4 => ?_) (fun h4 => ?_)
    · replace hP := zE_p hP h4
      obtain ⟨m2, rfl⟩ : ∃ m2, m = m2 + 1 := ⟨m - 1, by omega⟩
      exact wz_k1 ⟨m2, by omega, x2, (x3 + 1), (zconso rfl (zconso (zvo (rfl : i3 x1 = i3 x1)) (zconso (zvo (rfl : i3 x2 = i3 x2)) (zconso (zvo (i3A (rfl : i3 x3 = i3 x3) (show (1 : Int32) = i3 1 from rfl))) rfl)))), rfl,  by omega, by omega, by omega, by omega,  hP⟩
    · replace hP := zE_n hP h4
      refine wz_i0 (i3O (n := 60) (rfl : i3 x3 = i3 x3) (by omega) (by omega) (by omega)) ?_
      have r5 := zH_k hZ 47 x0b x3 9 (lo := 0) (hi := 3) (by decide) rfl
      have r6 := zH_lt hZ x0b x3
      refine wz_br (i3NE (zm_rd (Z := Z) (ν := ν) (k := 47) (rfl : ((x0b : Nat) : Int) = x0b) (i3I (y := x3) (rfl : i3 x3 = i3 x3) (by omega) (by omega) (by omega)) (show ((9 : Nat) : Int) = 9 from rfl)) (show (0 : Int32) = i3 0 from rfl) (by omega) (by omega) (by omega) (by omega)) (fun h7 => ?_) (fun h7 => ?_)
      · replace hP := zE_p hP h7
        obtain ⟨m2, rfl⟩ : ∃ m2, m = m2 + 1 := ⟨m - 1, by omega⟩
        exact wz_k1 ⟨m2, by omega, x2, (x3 + 1), (zconso rfl (zconso (zvo (rfl : i3 x1 = i3 x1)) (zconso (zvo (rfl : i3 x2 = i3 x2)) (zconso (zvo (i3A (rfl : i3 x3 = i3 x3) (show (1 : Int32) = i3 1 from rfl))) rfl)))), rfl,  by omega, by omega, by omega, by omega,  hP⟩
      · replace hP := zE_n hP h7
        obtain ⟨m2, rfl⟩ : ∃ m2, m = m2 + 1 := ⟨m - 1, by omega⟩
        exact wz_k1 ⟨m2, by omega, (x2 + 1), (x3 + 1), (zconso rfl (zconso (zvo (rfl : i3 x1 = i3 x1)) (zconso (zvo (i3A (rfl : i3 x2 = i3 x2) (show (1 : Int32) = i3 1 from rfl))) (zconso (zvo (i3A (rfl : i3 x3 = i3 x3) (show (1 : Int32) = i3 1 from rfl))) rfl)))), rfl,  by omega, by omega, by omega, by omega,  hP⟩
/- yX5_waitingOf -/
def zf_109 (Z : qz_Z) (a0b : Int) (a1 : Int) : Int := (zlet2 (zl_109_1 a0b a1 61 Z 0 0) (fun y1 y2 => y1))
theorem sp_109 {s : zSM} {Z : qz_Z} {ν : qz_N} (hZ : zH s Z) (a0b : Nat) {a1 : Int} (ga1 : 0 ≤ a1 ∧ a1 ≤ 47) (hM : s.2 + 0 ≤ 1000000000) : ∃ P : Int, P = zf_109 Z a0b a1 ∧ (qf_109 [.inr (.inr (some (10, a0b, 0))), .inl (i3 a1)] (zm Z ν) = some (zm Z ν, .inl (some (.inl (i3 P)))) ∧ 0 ≤ P ∧ P ≤ 60) := by
  obtain ⟨P, hP⟩ := zx (zf_109 Z a0b a1)
  refine zc_R (Q := fun P => 0 ≤ P ∧ P ≤ 60) hP (fw_109 a0b (i3 a1) _ _ ?_)
  replace hP : zE P (zf_109 Z a0b a1) := hP
  unfold zf_109 at hP
  refine sl_109_1 (ν := ν) hZ (zbh (c := 0) (k := 0) hM (Nat.le_of_ble_eq_true rfl)) a0b (x1 := a1) (by omega) (x2 := 0) (by omega) (x3 := 0) (by omega) (by omega) (zconso rfl (zconso (zvo (rfl : i3 a1 = i3 a1)) (zconso (zvo (show (0 : Int32) = i3 0 from rfl)) (zconso (zvo (show (0 : Int32) = i3 0 from rfl)) rfl)))) rfl ?_
  intro L3 y1 y2 hL3 gy1 gy2 gL3_0 q9
  replace hP := zl_e2 hP (Eq.symm q9)
  clear q9
  refine fc_109_2 (i3 y1) _ _ _ _ hL3 ?_
  exact zlR hP (rfl : i3 y1 = i3 y1) ⟨by omega, by omega⟩
/- yX10_move -/
def zf_175 (Z : qz_Z) (a0b : Int) (a1b a1ij : Int) (a2 : Int) : qz_Z := (if (Z 44 a1b a1ij 12) < 0 then (if a2 < 0 then (zlet (zu Z 44 a1b a1ij 12 a2) (fun Z4 => Z4)) else (if 6 ≤ a2 then (zlet (zu Z 44 a1b a1ij 12 a2) (fun Z6 => Z6)) else (zlet (zu Z 43 a0b a2 7 ((Z 43 a0b a2 7) + 1)) (fun Z8 => (zlet (zu Z8 44 a1b a1ij 12 a2) (fun Z9 => Z9)))))) else (if 6 ≤ (Z 44 a1b a1ij 12) then (if a2 < 0 then (zlet (zu Z 44 a1b a1ij 12 a2) (fun Z12 => Z12)) else (if 6 ≤ a2 then (zlet (zu Z 44 a1b a1ij 12 a2) (fun Z14 => Z14)) else (zlet (zu Z 43 a0b a2 7 ((Z 43 a0b a2 7) + 1)) (fun Z16 => (zlet (zu Z16 44 a1b a1ij 12 a2) (fun Z17 => Z17)))))) else (zlet (zu Z 43 a0b (Z 44 a1b a1ij 12) 7 ((Z 43 a0b (Z 44 a1b a1ij 12) 7) + 1)) (fun Z19 => (if a2 < 0 then (zlet (zu Z19 44 a1b a1ij 12 a2) (fun Z21 => Z21)) else (if 6 ≤ a2 then (zlet (zu Z19 44 a1b a1ij 12 a2) (fun Z23 => Z23)) else (zlet (zu Z19 43 a0b a2 7 ((Z19 43 a0b a2 7) + 1)) (fun Z25 => (zlet (zu Z25 44 a1b a1ij 12 a2) (fun Z26 => Z26))))))))))
theorem sp_175 {s : zSM} {Z : qz_Z} {ν : qz_N} (hZ : zH s Z) (a0b : Nat) (a1b : Nat) (a1i : Nat) {a1ij : Int} (ea1i : (a1i : Int) = a1ij) (ga1i : 0 ≤ a1ij ∧ a1ij ≤ 47) {a2 : Int} (ga2 : -1 ≤ a2 ∧ a2 ≤ 6) (hM : s.2 + 2 ≤ 1000000000) : ∃ P : qz_Z, P = zf_175 Z a0b a1b a1ij a2 ∧ (qf_175 [.inr (.inr (some (10, a0b, 0))), .inr (.inr (some (44, a1b, a1i))), .inl (i3 a2)] (zm Z ν) = some (zm P ν, .inl none) ∧ zH (zb s 2) P ∧ zC [43, 44] Z P ∧ zU [a0b, a1b] Z P) := by
  obtain ⟨P, hP⟩ := zx (zf_175 Z a0b a1b a1ij a2)
  refine zc_V (Q := fun P => zH (zb s 2) P ∧ zC [43, 44] Z P ∧ zU [a0b, a1b] Z P) hP (fw_175 a0b (44, a1b, a1i) (i3 a2) _ _ ?_)
  replace hP : zE P (zf_175 Z a0b a1b a1ij a2) := hP
  unfold zf_175 at hP
  refine wz_i1 rfl ?_
  refine wz_i0 (i3O (n := 16) (show (12 : Int32) = i3 12 from rfl) (by omega) (by omega) (by omega)) ?_
  have r1 := zH_k hZ 44 a1b a1ij 12 (lo := -1) (hi := 6) (by decide) rfl
  refine wz_br (i3L (zm_rd (Z := Z) (ν := ν) (k := 44) (rfl : ((a1b : Nat) : Int) = a1b) ea1i (show ((12 : Nat) : Int) = 12 from rfl)) (show (0 : Int32) = i3 0 from rfl) (by omega) (by omega) (by omega) (by omega)) (fun h2 => ?_) (fun h2 => ?_)
  · replace hP := zE_p hP h2
    refine wz_br (i3L (rfl : i3 a2 = i3 a2) (show (0 : Int32) = i3 0 from rfl) (by omega) (by omega) (by omega) (by omega)) (fun h3 => ?_) (fun h3 => ?_)
    · replace hP := zE_p hP h3
      refine wz_i1 rfl ?_
      refine wz_i0 (i3O (n := 16) (show (12 : Int32) = i3 12 from rfl) (by omega) (by omega) (by omega)) ?_
      obtain ⟨Z4, hZ4⟩ := zx (zu Z 44 a1b a1ij 12 a2)
      replace hP := zl_e hP hZ4
      have hZ4I := zH_u hZ hZ4 (lo := -1) (hi := 6) (by decide) rfl (by omega) ⟨by decide, by decide⟩ (Or.inl (by decide)) rfl
      have hZ4U : zU [a0b, a1b] Z Z4 := zU_u zU_r hZ4 (Or.inr (List.Mem.tail _ (List.Mem.head _)))
      have hZ4K : zC [43, 44] Z Z4 := zC_u zC_r hZ4 (by decide)
      intro μ9 e9
      replace e9 := e9.trans (zm_wI (Z := Z) (ν := ν) hZ4 (rfl : ((a1b : Nat) : Int) = a1b) ea1i (show ((12 : Nat) : Int) = 12 from rfl) (rfl : i3 a2 = i3 a2))
      subst e9
      exact zlV hP ⟨(zbw (a := 0) (c := 2) hZ4I (Nat.le_of_ble_eq_true rfl)), hZ4K, hZ4U⟩
    · replace hP := zE_n hP h3
      refine wz_br (i3Le (show (6 : Int32) = i3 6 from rfl) (rfl : i3 a2 = i3 a2) (by omega) (by omega) (by omega) (by omega)) (fun h5 => ?_) (fun h5 => ?_)
      · replace hP := zE_p hP h5
        refine wz_i1 rfl ?_
        refine wz_i0 (i3O (n := 16) (show (12 : Int32) = i3 12 from rfl) (by omega) (by omega) (by omega)) ?_
        obtain ⟨Z6, hZ6⟩ := zx (zu Z 44 a1b a1ij 12 a2)
        replace hP := zl_e hP hZ6
        have hZ6I := zH_u hZ hZ6 (lo := -1) (hi := 6) (by decide) rfl (by omega) ⟨by decide, by decide⟩ (Or.inl (by decide)) rfl
        have hZ6U : zU [a0b, a1b] Z Z6 := zU_u zU_r hZ6 (Or.inr (List.Mem.tail _ (List.Mem.head _)))
        have hZ6K : zC [43, 44] Z Z6 := zC_u zC_r hZ6 (by decide)
        intro μ9 e9
        replace e9 := e9.trans (zm_wI (Z := Z) (ν := ν) hZ6 (rfl : ((a1b : Nat) : Int) = a1b) ea1i (show ((12 : Nat) : Int) = 12 from rfl) (rfl : i3 a2 = i3 a2))
        subst e9
        exact zlV hP ⟨(zbw (a := 0) (c := 2) hZ6I (Nat.le_of_ble_eq_true rfl)), hZ6K, hZ6U⟩
      · replace hP := zE_n hP h5
        refine wz_i0 (i3O (n := 6) (rfl : i3 a2 = i3 a2) (by omega) (by omega) (by omega)) ?_
        have r7 := zH_d hZ a0b a2 (zbh (c := 0) (k := 0) hM (Nat.le_of_ble_eq_true rfl))
        obtain ⟨Z8, hZ8⟩ := zx (zu Z 43 a0b a2 7 ((Z 43 a0b a2 7) + 1))
        replace hP := zl_e hP hZ8
        have hZ8I := zH_id hZ hZ8 (zbh (c := 0) (k := 1) hM (Nat.le_of_ble_eq_true rfl)) (by omega)
        have hZ8U : zU [a0b, a1b] Z Z8 := zU_u zU_r hZ8 (Or.inr (List.Mem.head _))
        have hZ8K : zC [43, 44] Z Z8 := zC_u zC_r hZ8 (by decide)
        intro μ9 e9
        replace e9 := e9.trans (zm_wI (Z := Z) (ν := ν) hZ8 (rfl : ((a0b : Nat) : Int) = a0b) (i3I (y := a2) (rfl : i3 a2 = i3 a2) (by omega) (by omega) (by omega)) (show ((7 : Nat) : Int) = 7 from rfl) (i3A (zm_rd (Z := Z) (ν := ν) (k := 43) (rfl : ((a0b : Nat) : Int) = a0b) (i3I (y := a2) (rfl : i3 a2 = i3 a2) (by omega) (by omega) (by omega)) (show ((7 : Nat) : Int) = 7 from rfl)) (show (1 : Int32) = i3 1 from rfl)))
        subst e9
        refine wz_i1 rfl ?_
        refine wz_i0 (i3O (n := 16) (show (12 : Int32) = i3 12 from rfl) (by omega) (by omega) (by omega)) ?_
        obtain ⟨Z9, hZ9⟩ := zx (zu Z8 44 a1b a1ij 12 a2)
        replace hP := zl_e hP hZ9
        have hZ9I := zH_u hZ8I hZ9 (lo := -1) (hi := 6) (by decide) rfl (by omega) ⟨by decide, by decide⟩ (Or.inl (by decide)) rfl
        have hZ9U : zU [a0b, a1b] Z Z9 := zU_u hZ8U hZ9 (Or.inr (List.Mem.tail _ (List.Mem.head _)))
        have hZ9K : zC [43, 44] Z Z9 := zC_u hZ8K hZ9 (by decide)
        intro μ9 e9
        replace e9 := e9.trans (zm_wI (Z := Z8) (ν := ν) hZ9 (rfl : ((a1b : Nat) : Int) = a1b) ea1i (show ((12 : Nat) : Int) = 12 from rfl) (rfl : i3 a2 = i3 a2))
        subst e9
        exact zlV hP ⟨(zbw (a := 1) (c := 2) hZ9I (Nat.le_of_ble_eq_true rfl)), hZ9K, hZ9U⟩
  · replace hP := zE_n hP h2
    refine wz_br (i3Le (show (6 : Int32) = i3 6 from rfl) (zm_rd (Z := Z) (ν := ν) (k := 44) (rfl : ((a1b : Nat) : Int) = a1b) ea1i (show ((12 : Nat) : Int) = 12 from rfl)) (by omega) (by omega) (by omega) (by omega)) (fun h10 => ?_) (fun h10 => ?_)
    · replace hP := zE_p hP h10
      refine wz_br (i3L (rfl : i3 a2 = i3 a2) (show (0 : Int32) = i3 0 from rfl) (by omega) (by omega) (by omega) (by omega)) (fun h11 => ?_) (fun h11 => ?_)
      · replace hP := zE_p hP h11
        refine wz_i1 rfl ?_
        refine wz_i0 (i3O (n := 16) (show (12 : Int32) = i3 12 from rfl) (by omega) (by omega) (by omega)) ?_
        obtain ⟨Z12, hZ12⟩ := zx (zu Z 44 a1b a1ij 12 a2)
        replace hP := zl_e hP hZ12
        have hZ12I := zH_u hZ hZ12 (lo := -1) (hi := 6) (by decide) rfl (by omega) ⟨by decide, by decide⟩ (Or.inl (by decide)) rfl
        have hZ12U : zU [a0b, a1b] Z Z12 := zU_u zU_r hZ12 (Or.inr (List.Mem.tail _ (List.Mem.head _)))
        have hZ12K : zC [43, 44] Z Z12 := zC_u zC_r hZ12 (by decide)
        intro μ9 e9
        replace e9 := e9.trans (zm_wI (Z := Z) (ν := ν) hZ12 (rfl : ((a1b : Nat) : Int) = a1b) ea1i (show ((12 : Nat) : Int) = 12 from rfl) (rfl : i3 a2 = i3 a2))
        subst e9
        exact zlV hP ⟨(zbw (a := 0) (c := 2) hZ12I (Nat.le_of_ble_eq_true rfl)), hZ12K, hZ12U⟩
      · replace hP := zE_n hP h11
        refine wz_br (i3Le (show (6 : Int32) = i3 6 from rfl) (rfl : i3 a2 = i3 a2) (by omega) (by omega) (by omega) (by omega)) (fun h13 => ?_) (fun h13 => ?_)
        · replace hP := zE_p hP h13
          refine wz_i1 rfl ?_
          refine wz_i0 (i3O (n := 16) (show (12 : Int32) = i3 12 from rfl) (by omega) (by omega) (by omega)) ?_
          obtain ⟨Z14, hZ14⟩ := zx (zu Z 44 a1b a1ij 12 a2)
          replace hP := zl_e hP hZ14
          have hZ14I := zH_u hZ hZ14 (lo := -1) (hi := 6) (by decide) rfl (by omega) ⟨by decide, by decide⟩ (Or.inl (by decide)) rfl
          have hZ14U : zU [a0b, a1b] Z Z14 := zU_u zU_r hZ14 (Or.inr (List.Mem.tail _ (List.Mem.head _)))
          have hZ14K : zC [43, 44] Z Z14 := zC_u zC_r hZ14 (by decide)
          intro μ9 e9
          replace e9 := e9.trans (zm_wI (Z := Z) (ν := ν) hZ14 (rfl : ((a1b : Nat) : Int) = a1b) ea1i (show ((12 : Nat) : Int) = 12 from rfl) (rfl : i3 a2 = i3 a2))
          subst e9
          exact zlV hP ⟨(zbw (a := 0) (c := 2) hZ14I (Nat.le_of_ble_eq_true rfl)), hZ14K, hZ14U⟩
        · replace hP := zE_n hP h13
          refine wz_i0 (i3O (n := 6) (rfl : i3 a2 = i3 a2) (by omega) (by omega) (by omega)) ?_
          have r15 := zH_d hZ a0b a2 (zbh (c := 0) (k := 0) hM (Nat.le_of_ble_eq_true rfl))
          obtain ⟨Z16, hZ16⟩ := zx (zu Z 43 a0b a2 7 ((Z 43 a0b a2 7) + 1))
          replace hP := zl_e hP hZ16
          have hZ16I := zH_id hZ hZ16 (zbh (c := 0) (k := 1) hM (Nat.le_of_ble_eq_true rfl)) (by omega)
          have hZ16U : zU [a0b, a1b] Z Z16 := zU_u zU_r hZ16 (Or.inr (List.Mem.head _))
          have hZ16K : zC [43, 44] Z Z16 := zC_u zC_r hZ16 (by decide)
          intro μ9 e9
          replace e9 := e9.trans (zm_wI (Z := Z) (ν := ν) hZ16 (rfl : ((a0b : Nat) : Int) = a0b) (i3I (y := a2) (rfl : i3 a2 = i3 a2) (by omega) (by omega) (by omega)) (show ((7 : Nat) : Int) = 7 from rfl) (i3A (zm_rd (Z := Z) (ν := ν) (k := 43) (rfl : ((a0b : Nat) : Int) = a0b) (i3I (y := a2) (rfl : i3 a2 = i3 a2) (by omega) (by omega) (by omega)) (show ((7 : Nat) : Int) = 7 from rfl)) (show (1 : Int32) = i3 1 from rfl)))
          subst e9
          refine wz_i1 rfl ?_
          refine wz_i0 (i3O (n := 16) (show (12 : Int32) = i3 12 from rfl) (by omega) (by omega) (by omega)) ?_
          obtain ⟨Z17, hZ17⟩ := zx (zu Z16 44 a1b a1ij 12 a2)
          replace hP := zl_e hP hZ17
          have hZ17I := zH_u hZ16I hZ17 (lo := -1) (hi := 6) (by decide) rfl (by omega) ⟨by decide, by decide⟩ (Or.inl (by decide)) rfl
          have hZ17U : zU [a0b, a1b] Z Z17 := zU_u hZ16U hZ17 (Or.inr (List.Mem.tail _ (List.Mem.head _)))
          have hZ17K : zC [43, 44] Z Z17 := zC_u hZ16K hZ17 (by decide)
          intro μ9 e9
          replace e9 := e9.trans (zm_wI (Z := Z16) (ν := ν) hZ17 (rfl : ((a1b : Nat) : Int) = a1b) ea1i (show ((12 : Nat) : Int) = 12 from rfl) (rfl : i3 a2 = i3 a2))
          subst e9
          exact zlV hP ⟨(zbw (a := 1) (c := 2) hZ17I (Nat.le_of_ble_eq_true rfl)), hZ17K, hZ17U⟩
    · replace hP := zE_n hP h10
      refine wz_i0 (i3O (n := 6) (zm_rd (Z := Z) (ν := ν) (k := 44) (rfl : ((a1b : Nat) : Int) = a1b) ea1i (show ((12 : Nat) : Int) = 12 from rfl)) (by omega) (by omega) (by omega)) ?_
      have r18 := zH_d hZ a0b (Z 44 a1b a1ij 12) (zbh (c := 0) (k := 0) hM (Nat.le_of_ble_eq_true rfl))
      obtain ⟨Z19, hZ19⟩ := zx (zu Z 43 a0b (Z 44 a1b a1ij 12) 7 ((Z 43 a0b (Z 44 a1b a1ij 12) 7) + 1))
      replace hP := zl_e hP hZ19
      have hZ19I := zH_id hZ hZ19 (zbh (c := 0) (k := 1) hM (Nat.le_of_ble_eq_true rfl)) (by omega)
      have hZ19U : zU [a0b, a1b] Z Z19 := zU_u zU_r hZ19 (Or.inr (List.Mem.head _))
      have hZ19K : zC [43, 44] Z Z19 := zC_u zC_r hZ19 (by decide)
      intro μ9 e9
      replace e9 := e9.trans (zm_wI (Z := Z) (ν := ν) hZ19 (rfl : ((a0b : Nat) : Int) = a0b) (i3I (y := (Z 44 a1b a1ij 12)) (zm_rd (Z := Z) (ν := ν) (k := 44) (rfl : ((a1b : Nat) : Int) = a1b) ea1i (show ((12 : Nat) : Int) = 12 from rfl)) (by omega) (by omega) (by omega)) (show ((7 : Nat) : Int) = 7 from rfl) (i3A (zm_rd (Z := Z) (ν := ν) (k := 43) (rfl : ((a0b : Nat) : Int) = a0b) (i3I (y := (Z 44 a1b a1ij 12)) (zm_rd (Z := Z) (ν := ν) (k := 44) (rfl : ((a1b : Nat) : Int) = a1b) ea1i (show ((12 : Nat) : Int) = 12 from rfl)) (by omega) (by omega) (by omega)) (show ((7 : Nat) : Int) = 7 from rfl)) (show (1 : Int32) = i3 1 from rfl)))
      subst e9
      refine wz_br (i3L (rfl : i3 a2 = i3 a2) (show (0 : Int32) = i3 0 from rfl) (by omega) (by omega) (by omega) (by omega)) (fun h20 => ?_) (fun h20 => ?_)
      · replace hP := zE_p hP h20
        refine wz_i1 rfl ?_
        refine wz_i0 (i3O (n := 16) (show (12 : Int32) = i3 12 from rfl) (by omega) (by omega) (by omega)) ?_
        obtain ⟨Z21, hZ21⟩ := zx (zu Z19 44 a1b a1ij 12 a2)
        replace hP := zl_e hP hZ21
        have hZ21I := zH_u hZ19I hZ21 (lo := -1) (hi := 6) (by decide) rfl (by omega) ⟨by decide, by decide⟩ (Or.inl (by decide)) rfl
        have hZ21U : zU [a0b, a1b] Z Z21 := zU_u hZ19U hZ21 (Or.inr (List.Mem.tail _ (List.Mem.head _)))
        have hZ21K : zC [43, 44] Z Z21 := zC_u hZ19K hZ21 (by decide)
        intro μ9 e9
        replace e9 := e9.trans (zm_wI (Z := Z19) (ν := ν) hZ21 (rfl : ((a1b : Nat) : Int) = a1b) ea1i (show ((12 : Nat) : Int) = 12 from rfl) (rfl : i3 a2 = i3 a2))
        subst e9
        exact zlV hP ⟨(zbw (a := 1) (c := 2) hZ21I (Nat.le_of_ble_eq_true rfl)), hZ21K, hZ21U⟩
      · replace hP := zE_n hP h20
        refine wz_br (i3Le (show (6 : Int32) = i3 6 from rfl) (rfl : i3 a2 = i3 a2) (by omega) (by omega) (by omega) (by omega)) (fun h22 => ?_) (fun h22 => ?_)
        · replace hP := zE_p hP h22
          refine wz_i1 rfl ?_
          refine wz_i0 (i3O (n := 16) (show (12 : Int32) = i3 12 from rfl) (by omega) (by omega) (by omega)) ?_
          obtain ⟨Z23, hZ23⟩ := zx (zu Z19 44 a1b a1ij 12 a2)
          replace hP := zl_e hP hZ23
          have hZ23I := zH_u hZ19I hZ23 (lo := -1) (hi := 6) (by decide) rfl (by omega) ⟨by decide, by decide⟩ (Or.inl (by decide)) rfl
          have hZ23U : zU [a0b, a1b] Z Z23 := zU_u hZ19U hZ23 (Or.inr (List.Mem.tail _ (List.Mem.head _)))
          have hZ23K : zC [43, 44] Z Z23 := zC_u hZ19K hZ23 (by decide)
          intro μ9 e9
          replace e9 := e9.trans (zm_wI (Z := Z19) (ν := ν) hZ23 (rfl : ((a1b : Nat) : Int) = a1b) ea1i (show ((12 : Nat) : Int) = 12 from rfl) (rfl : i3 a2 = i3 a2))
          subst e9
          exact zlV hP ⟨(zbw (a := 1) (c := 2) hZ23I (Nat.le_of_ble_eq_true rfl)), hZ23K, hZ23U⟩
        · replace hP := zE_n hP h22
          refine wz_i0 (i3O (n := 6) (rfl : i3 a2 = i3 a2) (by omega) (by omega) (by omega)) ?_
          have r24 := zH_d hZ19I a0b a2 (zbh (c := 1) (k := 0) hM (Nat.le_of_ble_eq_true rfl))
          obtain ⟨Z25, hZ25⟩ := zx (zu Z19 43 a0b a2 7 ((Z19 43 a0b a2 7) + 1))
          replace hP := zl_e hP hZ25
          have hZ25I := zH_id hZ19I hZ25 (zbh (c := 1) (k := 1) hM (Nat.le_of_ble_eq_true rfl)) (by omega)
          replace hZ25I := zbt (c := 2) hZ25I rfl
          have hZ25U : zU [a0b, a1b] Z Z25 := zU_u hZ19U hZ25 (Or.inr (List.Mem.head _))
          have hZ25K : zC [43, 44] Z Z25 := zC_u hZ19K hZ25 (by decide)
          intro μ9 e9
          replace e9 := e9.trans (zm_wI (Z := Z19) (ν := ν) hZ25 (rfl : ((a0b : Nat) : Int) = a0b) (i3I (y := a2) (rfl : i3 a2 = i3 a2) (by omega) (by omega) (by omega)) (show ((7 : Nat) : Int) = 7 from rfl) (i3A (zm_rd (Z := Z19) (ν := ν) (k := 43) (rfl : ((a0b : Nat) : Int) = a0b) (i3I (y := a2) (rfl : i3 a2 = i3 a2) (by omega) (by omega) (by omega)) (show ((7 : Nat) : Int) = 7 from rfl)) (show (1 : Int32) = i3 1 from rfl)))
          subst e9
          refine wz_i1 rfl ?_
          refine wz_i0 (i3O (n := 16) (show (12 : Int32) = i3 12 from rfl) (by omega) (by omega) (by omega)) ?_
          obtain ⟨Z26, hZ26⟩ := zx (zu Z25 44 a1b a1ij 12 a2)
          replace hP := zl_e hP hZ26
          have hZ26I := zH_u hZ25I hZ26 (lo := -1) (hi := 6) (by decide) rfl (by omega) ⟨by decide, by decide⟩ (Or.inl (by decide)) rfl
          have hZ26U : zU [a0b, a1b] Z Z26 := zU_u hZ25U hZ26 (Or.inr (List.Mem.tail _ (List.Mem.head _)))
          have hZ26K : zC [43, 44] Z Z26 := zC_u hZ25K hZ26 (by decide)
          intro μ9 e9
          replace e9 := e9.trans (zm_wI (Z := Z25) (ν := ν) hZ26 (rfl : ((a1b : Nat) : Int) = a1b) ea1i (show ((12 : Nat) : Int) = 12 from rfl) (rfl : i3 a2 = i3 a2))
          subst e9
          exact zlV hP ⟨hZ26I, hZ26K, hZ26U⟩
/- yX2_loadParcel -/
def zf_50 (Z : qz_Z) (a0b : Int) (a1 : Int) (a2 : Int) : qz_Z × Int := (zlet (zu Z 47 a0b a1 9 1) (fun Z2 => (zlet (zu Z2 47 a0b a1 10 a2) (fun Z3 => (zlet (zu Z3 47 a0b a1 11 (Z3 44 a0b (Z 47 a0b a1 0) 7)) (fun Z5 => (zlet (zu Z5 47 a0b a1 12 (Z5 44 a0b (Z 47 a0b a1 0) 8)) (fun Z7 => (zlet (zu Z7 47 a0b a1 14 (Z7 11 a0b 0 13)) (fun Z9 => (zlet (zu Z9 47 a0b a1 15 (Z9 44 a0b (Z 47 a0b a1 0) 7)) (fun Z12 => (zlet (zu Z12 47 a0b a1 16 (Z12 44 a0b (Z 47 a0b a1 0) 8)) (fun Z15 => (if (Z15 44 a0b (Z15 47 a0b a1 0) 10) ≠ 0 then (zlet (zf_43 Z15 a0b a2) (fun v20 => (Z15, v20))) else (if (Z15 44 a0b (Z15 47 a0b a1 0) 4) ≠ 0 then (zlet (zf_43 Z15 a0b a2) (fun v23 => (Z15, v23))) else (zlet (zf_109 Z15 a0b (Z15 47 a0b a1 0)) (fun v24 => (if v24 ≠ 0 then (zlet (zf_43 Z15 a0b a2) (fun v26 => (Z15, v26))) else (zlet (zu Z15 44 a0b (Z15 47 a0b a1 0) 10 2) (fun Z27 => (zlet (zf_175 Z27 a0b a0b (Z15 47 a0b a1 0) (-1)) (fun Z28 => (zlet (zf_43 Z28 a0b a2) (fun v29 => (Z28, v29))))))))))))))))))))))))))
theorem sp_50 {s : zSM} {Z : qz_Z} {ν : qz_N} (hZ : zH s Z) (a0b : Nat) {a1 : Int} (ga1 : 0 ≤ a1 ∧ a1 ≤ 59) {a2 : Int} (ga2 : 0 ≤ a2 ∧ a2 ≤ 3) (hM : s.2 + 2 ≤ 1000000000) : ∃ (Z1 : qz_Z) (P : Int), (Z1, P) = zf_50 Z a0b a1 a2 ∧ (qf_50 [.inr (.inr (some (10, a0b, 0))), .inl (i3 a1), .inl (i3 a2)] (zm Z ν) = some (zm Z1 ν, .inl (some (.inl (i3 P)))) ∧ zH (zb s 2) Z1 ∧ zC [43, 44, 47] Z Z1 ∧ zU [a0b] Z Z1 ∧ -2147483648 ≤ P ∧ P ≤ 2147483647) := by
  obtain ⟨P, hP⟩ := zx (zf_50 Z a0b a1 a2)
  refine zc_W (Q := fun Z1 P => zH (zb s 2) Z1 ∧ zC [43, 44, 47] Z Z1 ∧ zU [a0b] Z Z1 ∧ -2147483648 ≤ P ∧ P ≤ 2147483647) hP (fw_50 a0b (i3 a1) (i3 a2) _ _ ?_)
  replace hP : zE P (zf_50 Z a0b a1 a2) := hP
  unfold zf_50 at hP
  refine wz_i0 (i3O (n := 60) (rfl : i3 a1 = i3 a1) (by omega) (by omega) (by omega)) ?_
  have r1 := zH_k hZ 47 a0b a1 0 (lo := 0) (hi := 47) (by decide) rfl
  refine wz_i0 (i3O (n := 48) (zm_rd (Z := Z) (ν := ν) (k := 47) (rfl : ((a0b : Nat) : Int) = a0b) (i3I (y := a1) (rfl : i3 a1 = i3 a1) (by omega) (by omega) (by omega)) (show ((0 : Nat) : Int) = 0 from rfl)) (by omega) (by omega) (by omega)) ?_
  obtain ⟨Z2, hZ2⟩ := zx (zu Z 47 a0b a1 9 1)
  replace hP := zl_e hP hZ2
  have hZ2U : zU [a0b] Z Z2 := zU_u zU_r hZ2 (Or.inr (List.Mem.head _))
  have hZ2K : zC [43, 44, 47] Z Z2 := zC_u zC_r hZ2 (by decide)
  intro μ9 e9
  replace e9 := e9.trans (zm_wI (Z := Z) (ν := ν) hZ2 (rfl : ((a0b : Nat) : Int) = a0b) (i3I (y := a1) (rfl : i3 a1 = i3 a1) (by omega) (by omega) (by omega)) (show ((9 : Nat) : Int) = 9 from rfl) (show (1 : Int32) = i3 1 from rfl))
  subst e9
  obtain ⟨Z3, hZ3⟩ := zx (zu Z2 47 a0b a1 10 a2)
  replace hP := zl_e hP hZ3
  have hZ3I := zH_ld hZ hZ2 hZ3 (by omega) (by omega)
  have hZ3U : zU [a0b] Z Z3 := zU_u hZ2U hZ3 (Or.inr (List.Mem.head _))
  have hZ3K : zC [43, 44, 47] Z Z3 := zC_u hZ2K hZ3 (by decide)
  intro μ9 e9
  replace e9 := e9.trans (zm_wI (Z := Z2) (ν := ν) hZ3 (rfl : ((a0b : Nat) : Int) = a0b) (i3I (y := a1) (rfl : i3 a1 = i3 a1) (by omega) (by omega) (by omega)) (show ((10 : Nat) : Int) = 10 from rfl) (rfl : i3 a2 = i3 a2))
  subst e9
  have r4 := zH_k hZ3I 44 a0b (Z 47 a0b a1 0) 7 (lo := 0) (hi := 2000) (by decide) rfl
  obtain ⟨Z5, hZ5⟩ := zx (zu Z3 47 a0b a1 11 (Z3 44 a0b (Z 47 a0b a1 0) 7))
  replace hP := zl_e hP hZ5
  have hZ5I := zH_u hZ3I hZ5 (lo := 0) (hi := 2000) (by decide) rfl (by omega) ⟨by decide, by decide⟩ (Or.inl (by decide)) rfl
  have hZ5U : zU [a0b] Z Z5 := zU_u hZ3U hZ5 (Or.inr (List.Mem.head _))
  have hZ5K : zC [43, 44, 47] Z Z5 := zC_u hZ3K hZ5 (by decide)
  intro μ9 e9
  replace e9 := e9.trans (zm_wI (Z := Z3) (ν := ν) hZ5 (rfl : ((a0b : Nat) : Int) = a0b) (i3I (y := a1) (rfl : i3 a1 = i3 a1) (by omega) (by omega) (by omega)) (show ((11 : Nat) : Int) = 11 from rfl) (zm_rd (Z := Z3) (ν := ν) (k := 44) (rfl : ((a0b : Nat) : Int) = a0b) (i3I (y := (Z 47 a0b a1 0)) (zm_rd (Z := Z) (ν := ν) (k := 47) (rfl : ((a0b : Nat) : Int) = a0b) (i3I (y := a1) (rfl : i3 a1 = i3 a1) (by omega) (by omega) (by omega)) (show ((0 : Nat) : Int) = 0 from rfl)) (by omega) (by omega) (by omega)) (show ((7 : Nat) : Int) = 7 from rfl)))
  subst e9
  have r6 := zH_k hZ5I 44 a0b (Z 47 a0b a1 0) 8 (lo := 0) (hi := 999) (by decide) rfl
  obtain ⟨Z7, hZ7⟩ := zx (zu Z5 47 a0b a1 12 (Z5 44 a0b (Z 47 a0b a1 0) 8))
  replace hP := zl_e hP hZ7
  have hZ7I := zH_u hZ5I hZ7 (lo := 0) (hi := 999) (by decide) rfl (by omega) ⟨by decide, by decide⟩ (Or.inl (by decide)) rfl
  have hZ7U : zU [a0b] Z Z7 := zU_u hZ5U hZ7 (Or.inr (List.Mem.head _))
  have hZ7K : zC [43, 44, 47] Z Z7 := zC_u hZ5K hZ7 (by decide)
  intro μ9 e9
  replace e9 := e9.trans (zm_wI (Z := Z5) (ν := ν) hZ7 (rfl : ((a0b : Nat) : Int) = a0b) (i3I (y := a1) (rfl : i3 a1 = i3 a1) (by omega) (by omega) (by omega)) (show ((12 : Nat) : Int) = 12 from rfl) (zm_rd (Z := Z5) (ν := ν) (k := 44) (rfl : ((a0b : Nat) : Int) = a0b) (i3I (y := (Z 47 a0b a1 0)) (zm_rd (Z := Z) (ν := ν) (k := 47) (rfl : ((a0b : Nat) : Int) = a0b) (i3I (y := a1) (rfl : i3 a1 = i3 a1) (by omega) (by omega) (by omega)) (show ((0 : Nat) : Int) = 0 from rfl)) (by omega) (by omega) (by omega)) (show ((8 : Nat) : Int) = 8 from rfl)))
  subst e9
  have r8 := zH_k hZ7I 11 a0b 0 13 (lo := 0) (hi := 671) (by decide) rfl
  obtain ⟨Z9, hZ9⟩ := zx (zu Z7 47 a0b a1 14 (Z7 11 a0b 0 13))
  replace hP := zl_e hP hZ9
  have hZ9I := zH_u hZ7I hZ9 (lo := -1) (hi := 671) (by decide) rfl (by omega) ⟨by decide, by decide⟩ (Or.inl (by decide)) rfl
  have hZ9U : zU [a0b] Z Z9 := zU_u hZ7U hZ9 (Or.inr (List.Mem.head _))
  have hZ9K : zC [43, 44, 47] Z Z9 := zC_u hZ7K hZ9 (by decide)
  intro μ9 e9
  replace e9 := e9.trans (zm_wI (Z := Z7) (ν := ν) hZ9 (rfl : ((a0b : Nat) : Int) = a0b) (i3I (y := a1) (rfl : i3 a1 = i3 a1) (by omega) (by omega) (by omega)) (show ((14 : Nat) : Int) = 14 from rfl) (zm_rd (Z := Z7) (ν := ν) (k := 11) (rfl : ((a0b : Nat) : Int) = a0b) (show ((0 : Nat) : Int) = 0 from rfl) (show ((13 : Nat) : Int) = 13 from rfl)))
  subst e9
  have r10 := zH_k hZ9I 44 a0b (Z 47 a0b a1 0) 7 (lo := 0) (hi := 2000) (by decide) rfl
  have q11 := (zu_ne (k' := 44) (b' := a0b) (i' := (Z 47 a0b a1 0)) (j' := 7) hZ9 (fun q => absurd q.1 (by decide))).trans ((zu_ne (k' := 44) (b' := a0b) (i' := (Z 47 a0b a1 0)) (j' := 7) hZ7 (fun q => absurd q.1 (by decide))).trans (zu_ne (k' := 44) (b' := a0b) (i' := (Z 47 a0b a1 0)) (j' := 7) hZ5 (fun q => absurd q.1 (by decide))))
  obtain ⟨Z12, hZ12⟩ := zx (zu Z9 47 a0b a1 15 (Z9 44 a0b (Z 47 a0b a1 0) 7))
  replace hP := zl_e hP hZ12
  have hZ12I := zH_u hZ9I hZ12 (lo := -1) (hi := 2000) (by decide) rfl (by omega) ⟨by decide, by decide⟩ (Or.inl (by decide)) rfl
  have hZ12U : zU [a0b] Z Z12 := zU_u hZ9U hZ12 (Or.inr (List.Mem.head _))
  have hZ12K : zC [43, 44, 47] Z Z12 := zC_u hZ9K hZ12 (by decide)
  intro μ9 e9
  replace e9 := e9.trans (zm_wI (Z := Z9) (ν := ν) hZ12 (rfl : ((a0b : Nat) : Int) = a0b) (i3I (y := a1) (rfl : i3 a1 = i3 a1) (by omega) (by omega) (by omega)) (show ((15 : Nat) : Int) = 15 from rfl) (zm_rd (Z := Z9) (ν := ν) (k := 44) (rfl : ((a0b : Nat) : Int) = a0b) (i3I (y := (Z 47 a0b a1 0)) (zm_rd (Z := Z) (ν := ν) (k := 47) (rfl : ((a0b : Nat) : Int) = a0b) (i3I (y := a1) (rfl : i3 a1 = i3 a1) (by omega) (by omega) (by omega)) (show ((0 : Nat) : Int) = 0 from rfl)) (by omega) (by omega) (by omega)) (show ((7 : Nat) : Int) = 7 from rfl)))
  subst e9
  have r13 := zH_k hZ12I 44 a0b (Z 47 a0b a1 0) 8 (lo := 0) (hi := 999) (by decide) rfl
  have q14 := (zu_ne (k' := 44) (b' := a0b) (i' := (Z 47 a0b a1 0)) (j' := 8) hZ12 (fun q => absurd q.1 (by decide))).trans ((zu_ne (k' := 44) (b' := a0b) (i' := (Z 47 a0b a1 0)) (j' := 8) hZ9 (fun q => absurd q.1 (by decide))).trans (zu_ne (k' := 44) (b' := a0b) (i' := (Z 47 a0b a1 0)) (j' := 8) hZ7 (fun q => absurd q.1 (by decide))))
  obtain ⟨Z15, hZ15⟩ := zx (zu Z12 47 a0b a1 16 (Z12 44 a0b (Z 47 a0b a1 0) 8))
  replace hP := zl_e hP hZ15
  have hZ15I := zH_u hZ12I hZ15 (lo := -1) (hi := 999) (by decide) rfl (by omega) ⟨by decide, by decide⟩ (Or.inl (by decide)) rfl
  have hZ15U : zU [a0b] Z Z15 := zU_u hZ12U hZ15 (Or.inr (List.Mem.head _))
  have hZ15K : zC [43, 44, 47] Z Z15 := zC_u hZ12K hZ15 (by decide)
  intro μ9 e9
  replace e9 := e9.trans (zm_wI (Z := Z12) (ν := ν) hZ15 (rfl : ((a0b : Nat) : Int) = a0b) (i3I (y := a1) (rfl : i3 a1 = i3 a1) (by omega) (by omega) (by omega)) (show ((16 : Nat) : Int) = 16 from rfl) (zm_rd (Z := Z12) (ν := ν) (k := 44) (rfl : ((a0b : Nat) : Int) = a0b) (i3I (y := (Z 47 a0b a1 0)) (zm_rd (Z := Z) (ν := ν) (k := 47) (rfl : ((a0b : Nat) : Int) = a0b) (i3I (y := a1) (rfl : i3 a1 = i3 a1) (by omega) (by omega) (by omega)) (show ((0 : Nat) : Int) = 0 from rfl)) (by omega) (by omega) (by omega)) (show ((8 : Nat) : Int) = 8 from rfl)))
  subst e9
  have r16 := zH_k hZ15I 47 a0b a1 0 (lo := 0) (hi := 47) (by decide) rfl
  have q17 := (zu_ne (k' := 47) (b' := a0b) (i' := a1) (j' := 0) hZ15 (fun q => absurd q.2.2.2 (by decide))).trans ((zu_ne (k' := 47) (b' := a0b) (i' := a1) (j' := 0) hZ12 (fun q => absurd q.2.2.2 (by decide))).trans ((zu_ne (k' := 47) (b' := a0b) (i' := a1) (j' := 0) hZ9 (fun q => absurd q.2.2.2 (by decide))).trans ((zu_ne (k' := 47) (b' := a0b) (i' := a1) (j' := 0) hZ7 (fun q => absurd q.2.2.2 (by decide))).trans ((zu_ne (k' := 47) (b' := a0b) (i' := a1) (j' := 0) hZ5 (fun q => absurd q.2.2.2 (by decide))).trans ((zu_ne (k' := 47) (b' := a0b) (i' := a1) (j' := 0) hZ3 (fun q => absurd q.2.2.2 (by decide))).trans (zu_ne (k' := 47) (b' := a0b) (i' := a1) (j' := 0) hZ2 (fun q => absurd q.2.2.2 (by decide))))))))
  refine wz_i0 (i3O (n := 48) (zm_rd (Z := Z15) (ν := ν) (k := 47) (rfl : ((a0b : Nat) : Int) = a0b) (i3I (y := a1) (rfl : i3 a1 = i3 a1) (by omega) (by omega) (by omega)) (show ((0 : Nat) : Int) = 0 from rfl)) (by omega) (by omega) (by omega)) ?_
  have r18 := zH_k hZ15I 44 a0b (Z15 47 a0b a1 0) 10 (lo := 0) (hi := 4) (by decide) rfl
  refine wz_br (i3NE (zm_rd (Z := Z15) (ν := ν) (k := 44) (rfl : ((a0b : Nat) : Int) = a0b) (i3I (y := (Z15 47 a0b a1 0)) (zm_rd (Z := Z15) (ν := ν) (k := 47) (rfl : ((a0b : Nat) : Int) = a0b) (i3I (y := a1) (rfl : i3 a1 = i3 a1) (by omega) (by omega) (by omega)) (show ((0 : Nat) : Int) = 0 from rfl)) (by omega) (by omega) (by omega)) (show ((10 : Nat) : Int) = 10 from rfl)) (show (0 : Int32) = i3 0 from rfl) (by omega) (by omega) (by omega) (by omega)) (fun h19 => ?_) (fun h19 => ?_)
  · replace hP := zE_p hP h19
    obtain ⟨v20, hv20, c9, lv20, uv20⟩ := sp_43 (ν := ν) hZ15I a0b (a1 := a2) (by omega) (zbh (c := 0) (k := 0) hM (Nat.le_of_ble_eq_true rfl))
    replace hP := zl_e hP hv20
    refine wz_cI_of (zas (zcons rfl (zcons (zvi (rfl : i3 a2 = i3 a2)) rfl)) c9) ?_
    clear c9
    exact zlW hP (rfl : i3 v20 = i3 v20) ⟨(zbw (a := 0) (c := 2) hZ15I (Nat.le_of_ble_eq_true rfl)), hZ15K, hZ15U, by omega, by omega⟩
  · replace hP := zE_n hP h19
    have r21 := zH_k hZ15I 44 a0b (Z15 47 a0b a1 0) 4 (lo := 0) (hi := 40) (by decide) rfl
    refine wz_br (i3NE (zm_rd (Z := Z15) (ν := ν) (k := 44) (rfl : ((a0b : Nat) : Int) = a0b) (i3I (y := (Z15 47 a0b a1 0)) (zm_rd (Z := Z15) (ν := ν) (k := 47) (rfl : ((a0b : Nat) : Int) = a0b) (i3I (y := a1) (rfl : i3 a1 = i3 a1) (by omega) (by omega) (by omega)) (show ((0 : Nat) : Int) = 0 from rfl)) (by omega) (by omega) (by omega)) (show ((4 : Nat) : Int) = 4 from rfl)) (show (0 : Int32) = i3 0 from rfl) (by omega) (by omega) (by omega) (by omega)) (fun h22 => ?_) (fun h22 => ?_)
    · replace hP := zE_p hP h22
      obtain ⟨v23, hv23, c9, lv23, uv23⟩ := sp_43 (ν := ν) hZ15I a0b (a1 := a2) (by omega) (zbh (c := 0) (k := 0) hM (Nat.le_of_ble_eq_true rfl))
      replace hP := zl_e hP hv23
      refine wz_cI_of (zas (zcons rfl (zcons (zvi (rfl : i3 a2 = i3 a2)) rfl)) c9) ?_
      clear c9
      exact zlW hP (rfl : i3 v23 = i3 v23) ⟨(zbw (a := 0) (c := 2) hZ15I (Nat.le_of_ble_eq_true rfl)), hZ15K, hZ15U, by omega, by omega⟩
    · replace hP := zE_n hP h22
      obtain ⟨v24, hv24, c9, lv24, uv24⟩ := sp_109 (ν := ν) hZ15I a0b (a1 := (Z15 47 a0b a1 0)) (by omega) (zbh (c := 0) (k := 0) hM (Nat.le_of_ble_eq_true rfl))
      replace hP := zl_e hP hv24
      refine wz_cI_of (zas (zcons rfl (zcons (zvi (zm_rd (Z := Z15) (ν := ν) (k := 47) (rfl : ((a0b : Nat) : Int) = a0b) (i3I (y := a1) (rfl : i3 a1 = i3 a1) (by omega) (by omega) (by omega)) (show ((0 : Nat) : Int) = 0 from rfl))) rfl)) c9) ?_
      clear c9
      refine wz_br (i3NE (rfl : i3 v24 = i3 v24) (show (0 : Int32) = i3 0 from rfl) (by omega) (by omega) (by omega) (by omega)) (fun h25 => ?_) (fun h25 => ?_)
      · replace hP := zE_p hP h25
        obtain ⟨v26, hv26, c9, lv26, uv26⟩ := sp_43 (ν := ν) hZ15I a0b (a1 := a2) (by omega) (zbh (c := 0) (k := 0) hM (Nat.le_of_ble_eq_true rfl))
        replace hP := zl_e hP hv26
        refine wz_cI_of (zas (zcons rfl (zcons (zvi (rfl : i3 a2 = i3 a2)) rfl)) c9) ?_
        clear c9
        exact zlW hP (rfl : i3 v26 = i3 v26) ⟨(zbw (a := 0) (c := 2) hZ15I (Nat.le_of_ble_eq_true rfl)), hZ15K, hZ15U, by omega, by omega⟩
      · replace hP := zE_n hP h25
        obtain ⟨Z27, hZ27⟩ := zx (zu Z15 44 a0b (Z15 47 a0b a1 0) 10 2)
        replace hP := zl_e hP hZ27
        have hZ27I := zH_u hZ15I hZ27 (lo := 0) (hi := 4) (by decide) rfl (by omega) ⟨by decide, by decide⟩ (Or.inl (by decide)) rfl
        have hZ27U : zU [a0b] Z Z27 := zU_u hZ15U hZ27 (Or.inr (List.Mem.head _))
        have hZ27K : zC [43, 44, 47] Z Z27 := zC_u hZ15K hZ27 (by decide)
        intro μ9 e9
        replace e9 := e9.trans (zm_wI (Z := Z15) (ν := ν) hZ27 (rfl : ((a0b : Nat) : Int) = a0b) (i3I (y := (Z15 47 a0b a1 0)) (zm_rd (Z := Z15) (ν := ν) (k := 47) (rfl : ((a0b : Nat) : Int) = a0b) (i3I (y := a1) (rfl : i3 a1 = i3 a1) (by omega) (by omega) (by omega)) (show ((0 : Nat) : Int) = 0 from rfl)) (by omega) (by omega) (by omega)) (show ((10 : Nat) : Int) = 10 from rfl) (show (2 : Int32) = i3 2 from rfl))
        subst e9
        obtain ⟨Z28, hZ28, c9, hZ28I, kZ28, jZ28⟩ := sp_175 (ν := ν) hZ27I a0b a0b _ (i3I (y := (Z15 47 a0b a1 0)) (zm_rd (Z := Z15) (ν := ν) (k := 47) (rfl : ((a0b : Nat) : Int) = a0b) (i3I (y := a1) (rfl : i3 a1 = i3 a1) (by omega) (by omega) (by omega)) (show ((0 : Nat) : Int) = 0 from rfl)) (by omega) (by omega) (by omega)) (by omega) (a2 := (-1)) (by omega) (zbh (c := 0) (k := 2) hM (Nat.le_of_ble_eq_true rfl))
        have hZ28U : zU [a0b] Z Z28 := zU_t hZ27U jZ28 (zU_b1 (List.Mem.head _) (zU_b1 (List.Mem.head _) zU_b0))
        have hZ28K : zC [43, 44, 47] Z Z28 := zC_t hZ27K kZ28 (by decide)
        replace hP := zl_e hP hZ28
        refine wz_cV_of (zas (zcons rfl (zcons rfl (zcons (zvi (show (-1 : Int32) = i3 (-1) from rfl)) rfl))) c9) ?_
        clear c9
        obtain ⟨v29, hv29, c9, lv29, uv29⟩ := sp_43 (ν := ν) hZ28I a0b (a1 := a2) (by omega) (zbh (c := 2) (k := 0) hM (Nat.le_of_ble_eq_true rfl))
        replace hP := zl_e hP hv29
        refine wz_cI_of (zas (zcons rfl (zcons (zvi (rfl : i3 a2 = i3 a2)) rfl)) c9) ?_
        clear c9
        exact zlW hP (rfl : i3 v29 = i3 v29) ⟨hZ28I, hZ28K, hZ28U, by omega, by omega⟩
/- yX3_takeOut -/
def zl_76_1 (x0b : Int) (x1 : Int) (x2 : Int) : Nat → qz_Z → Int → (qz_Z × Int) ⊕ (qz_Z × Int)
  | 0, Z, x3 => (.inl (Z, x3))
  | m + 1, Z, x3 => (if (Z 48 x0b x2 5) ≤ x3 then (.inl (Z, x3)) else (if (Z 49 x0b (12 * x2 + x3) 0) ≠ x1 then zl_76_1 x0b x1 x2 m Z (x3 + 1) else (zlet (zu Z 44 x0b x1 10 0) (fun Z5 => (zlet (zf_69 Z5 x0b x2 x3) (fun Z8 => (.inr (Z8, (Z8 48 x0b x2 5)))))))))
theorem sl_76_1 {s : zSM} {Zs Z : qz_Z} {ν : qz_N} (hZ : zH s Z) (hM : s.2 + 0 ≤ 1000000000) (hK : zC [44, 48, 49] Zs Z) (x0b : Nat) {x1 : Int} (gx1 : 0 ≤ x1 ∧ x1 ≤ 47) {x2 : Int} (gx2 : 0 ≤ x2 ∧ x2 ≤ 1) {x3 : Int} (gx3 : 0 ≤ x3 ∧ x3 ≤ 12) (hU : zU [x0b] Zs Z) {k : wz_K} {R : wz_R} {L : qz_L} (hL : qz_fg [true, true, true, true] L = [some (.inr (.inr (some (10, x0b, 0)))), some (.inl (i3 x1)), some (.inl (i3 x2)), some (.inl (i3 x3))]) {T : (qz_Z × Int) ⊕ (qz_Z × Int)} (hP : zE T (zl_76_1 x0b x1 x2 ((12 - x3).toNat + 1) Z x3)) (hk : ∀ (L9 : qz_L) (Z9 : qz_Z) (yx3 : Int), qz_fg [true, true, true, false] L9 = [some (.inr (.inr (some (10, x0b, 0)))), some (.inl (i3 x1)), some (.inl (i3 x2)), none] → zH s Z9 → zC [44, 48, 49] Zs Z9 → zU [x0b] Zs Z9 → (0 ≤ yx3 ∧ yx3 ≤ 12) → zE T (.inl (Z9, yx3)) → k 0 (L9, [], zm Z9 ν)) (hr : ∀ (Z8 : qz_Z) (v8 : Int), zH s Z8 → zC [44, 48, 49] Zs Z8 → zU [x0b] Zs Z8 → 0 ≤ v8 → v8 ≤ 12 → zE T (.inr (Z8, v8)) → R (zm Z8 ν) (.inl (some (.inl (i3 v8))))) : wz_loop qb_76_1 65536 k R (L, [], zm Z ν) := by
  refine wz_lp sb_76_1 (fun m x => ∃ Z : qz_Z, ∃ x3 : Int, qz_fg [true, true, true, true] x.1 = [some (.inr (.inr (some (10, x0b, 0)))), some (.inl (i3 x1)), some (.inl (i3 x2)), some (.inl (i3 x3))] ∧ x.2 = ([], zm Z ν) ∧ zH s Z ∧ zC [44, 48, 49] Zs Z ∧ zU [x0b] Zs Z ∧ m = (12 - x3).toNat ∧ (0 ≤ x3 ∧ x3 ≤ 12) ∧ zE T (zl_76_1 x0b x1 x2 (m + 1) Z x3)) ?_ 65536 ((12 - x3).toNat) _ (by omega) ⟨Z, x3, hL, rfl, hZ, hK, hU, rfl, gx3, hP⟩
  clear hP gx3 hZ hK hU hL
  clear x3
  clear Z
  rintro m ⟨L, st, μ⟩ ⟨Z, x3, hL, hx, hZ, hK, hU, hm, gx3, hP⟩
  cases hx
  refine fb_76_1 x0b (i3 x1) (i3 x2) (i3 x3) _ _ _ _ hL ?_
  refine wz_i0 (i3O (n := 2) (rfl : i3 x2 = i3 x2) (by omega) (by omega) (by omega)) ?_
  have r1 := zH_k hZ 48 x0b x2 5 (lo := 0) (hi := 12) (by decide) rfl
  refine wz_br (i3Le (zm_rd (Z := Z) (ν := ν) (k := 48) (rfl : ((x0b : Nat) : Int) = x0b) (i3I (y := x2) (rfl : i3 x2 = i3 x2) (by omega) (by omega) (by omega)) (show ((5 : Nat) : Int) = 5 from rfl)) (rfl : i3 x3 = i3 x3) (by omega) (by omega) (by omega) (by omega)) (fun h2 => ?_) (fun h2 => ?_)
  · replace hP := zE_p hP h2
    exact hk _ _ _ (zconso rfl (zconso (zvo (rfl : i3 x1 = i3 x1)) (zconso (zvo (rfl : i3 x2 = i3 x2)) (zconso rfl rfl)))) hZ hK hU (by omega)  hP
  · replace hP := zE_n hP h2
    refine wz_i0 (i3O (n := 24) (i3A (i3M (rfl : i3 x2 = i3 x2) (show (12 : Int32) = i3 12 from rfl)) (rfl : i3 x3 = i3 x3)) (by omega) (by omega) (by omega)) ?_
    have r3 := zH_k hZ 49 x0b (12 * x2 + x3) 0 (lo := 0) (hi := 47) (by decide) rfl
    refine wz_br (i3NE (zm_rd (Z := Z) (ν := ν) (k := 49) (rfl : ((x0b : Nat) : Int) = x0b) (i3I (y := (12 * x2 + x3)) (i3A (i3M (rfl : i3 x2 = i3 x2) (show (12 : Int32) = i3 12 from rfl)) (rfl : i3 x3 = i3 x3)) (by omega) (by omega) (by omega)) (show ((0 : Nat) : Int) = 0 from rfl)) (rfl : i3 x1 = i3 x1) (by omega) (by omega) (by omega) (by omega)) (fun h4 => ?_) (fun h4 => ?_)
    · replace hP := zE_p hP h4
      obtain ⟨m2, rfl⟩ : ∃ m2, m = m2 + 1 := ⟨m - 1, by omega⟩
      exact wz_k1 ⟨m2, by omega, Z, (x3 + 1), (zconso rfl (zconso (zvo (rfl : i3 x1 = i3 x1)) (zconso (zvo (rfl : i3 x2 = i3 x2)) (zconso (zvo (i3A (rfl : i3 x3 = i3 x3) (show (1 : Int32) = i3 1 from rfl))) rfl)))), rfl, hZ, hK, hU, by omega, by omega,  hP⟩
    · replace hP := zE_n hP h4
      refine wz_i0 (i3O (n := 48) (rfl : i3 x1 = i3 x1) (by omega) (by omega) (by omega)) ?_
      obtain ⟨Z5, hZ5⟩ := zx (zu Z 44 x0b x1 10 0)
      replace hP := zl_e hP hZ5
      have hZ5I := zH_0 hZ hZ5 (by decide) (Or.inl (by decide))
      have hZ5U : zU [x0b] Zs Z5 := zU_u hU hZ5 (Or.inr (List.Mem.head _))
      have hZ5K : zC [44, 48, 49] Zs Z5 := zC_u hK hZ5 (by decide)
      intro μ9 e9
      replace e9 := e9.trans (zm_wI (Z := Z) (ν := ν) hZ5 (rfl : ((x0b : Nat) : Int) = x0b) (i3I (y := x1) (rfl : i3 x1 = i3 x1) (by omega) (by omega) (by omega)) (show ((10 : Nat) : Int) = 10 from rfl) (show (0 : Int32) = i3 0 from rfl))
      subst e9
      have r6 := zH_k hZ5I 48 x0b x2 5 (lo := 0) (hi := 12) (by decide) rfl
      have q7 := zu_ne (k' := 48) (b' := x0b) (i' := x2) (j' := 5) hZ5 (fun q => absurd q.1 (by decide))
      obtain ⟨Z8, hZ8, c9, hZ8I, kZ8, jZ8⟩ := sp_69 (ν := ν) hZ5I x0b (a1 := x2) (by omega) (a2 := x3) (by omega) (by omega) (zbh (c := 0) (k := 0) hM (Nat.le_of_ble_eq_true rfl))
      have hZ8U : zU [x0b] Zs Z8 := zU_t hZ5U jZ8 (zU_b1 (List.Mem.head _) zU_b0)
      have hZ8K : zC [44, 48, 49] Zs Z8 := zC_t hZ5K kZ8 (by decide)
      replace hP := zl_e hP hZ8
      refine wz_cV_of (zas (zcons rfl (zcons (zvi (rfl : i3 x2 = i3 x2)) (zcons (zvi (rfl : i3 x3 = i3 x3)) rfl))) c9) ?_
      clear c9
      refine wz_i0 (i3O (n := 2) (rfl : i3 x2 = i3 x2) (by omega) (by omega) (by omega)) ?_
      have r9 := zH_k hZ8I 48 x0b x2 5 (lo := 0) (hi := 12) (by decide) rfl
      rw [(zm_rd (Z := Z8) (ν := ν) (k := 48) (rfl : ((x0b : Nat) : Int) = x0b) (i3I (y := x2) (rfl : i3 x2 = i3 x2) (by omega) (by omega) (by omega)) (show ((5 : Nat) : Int) = 5 from rfl))]
      exact hr _ _ hZ8I hZ8K hZ8U (by omega) (by omega) hP
/- yX3_takeOut -/
def zl_76_3 (x0b : Int) (x1 : Int) : Nat → qz_Z → Int → (qz_Z × Int) ⊕ (qz_Z × Int)
  | 0, Z, x2 => (.inl (Z, x2))
  | m + 1, Z, x2 => (if (Z 11 x0b 0 7) ≤ x2 then (.inl (Z, x2)) else (zsum (zl_76_1 x0b x1 x2 13 Z 0) (fun q => zlet2 q (fun Z4 y3 => zl_76_3 x0b x1 m Z4 (x2 + 1))) (fun r => (.inr r))))
theorem sl_76_3 {s : zSM} {Zs Z : qz_Z} {ν : qz_N} (hZ : zH s Z) (hM : s.2 + 0 ≤ 1000000000) (hK : zC [44, 48, 49] Zs Z) (x0b : Nat) {x1 : Int} (gx1 : 0 ≤ x1 ∧ x1 ≤ 47) {x2 : Int} (gx2 : 0 ≤ x2 ∧ x2 ≤ 2) (hU : zU [x0b] Zs Z) {k : wz_K} {R : wz_R} {L : qz_L} (hL : qz_fg [true, true, true, false] L = [some (.inr (.inr (some (10, x0b, 0)))), some (.inl (i3 x1)), some (.inl (i3 x2)), none]) {T : (qz_Z × Int) ⊕ (qz_Z × Int)} (hP : zE T (zl_76_3 x0b x1 ((2 - x2).toNat + 1) Z x2)) (hk : ∀ (L9 : qz_L) (Z9 : qz_Z) (yx2 : Int), qz_fg [false, false, false, false] L9 = [none, none, none, none] → zH s Z9 → zC [44, 48, 49] Zs Z9 → zU [x0b] Zs Z9 → (0 ≤ yx2 ∧ yx2 ≤ 2) → zE T (.inl (Z9, yx2)) → k 0 (L9, [], zm Z9 ν)) (hr : ∀ (Z8 : qz_Z) (v8 : Int), zH s Z8 → zC [44, 48, 49] Zs Z8 → zU [x0b] Zs Z8 → 0 ≤ v8 → v8 ≤ 12 → zE T (.inr (Z8, v8)) → R (zm Z8 ν) (.inl (some (.inl (i3 v8))))) : wz_loop qb_76_3 65536 k R (L, [], zm Z ν) := by
  refine wz_lp sb_76_3 (fun m x => ∃ Z : qz_Z, ∃ x2 : Int, qz_fg [true, true, true, false] x.1 = [some (.inr (.inr (some (10, x0b, 0)))), some (.inl (i3 x1)), some (.inl (i3 x2)), none] ∧ x.2 = ([], zm Z ν) ∧ zH s Z ∧ zC [44, 48, 49] Zs Z ∧ zU [x0b] Zs Z ∧ m = (2 - x2).toNat ∧ (0 ≤ x2 ∧ x2 ≤ 2) ∧ zE T (zl_76_3 x0b x1 (m + 1) Z x2)) ?_ 65536 ((2 - x2).toNat) _ (by omega) ⟨Z, x2, hL, rfl, hZ, hK, hU, rfl, gx2, hP⟩
  clear hP gx2 hZ hK hU hL
  clear x2
  clear Z
  rintro m ⟨L, st, μ⟩ ⟨Z, x2, hL, hx, hZ, hK, hU, hm, gx2, hP⟩
  cases hx
  refine fb_76_3 x0b (i3 x1) (i3 x2) _ _ _ _ hL ?_
  have r1 := zH_k hZ 11 x0b 0 7 (lo := 0) (hi := 2) (by decide) rfl
  refine wz_br (i3Le (zm_rd (Z := Z) (ν := ν) (k := 11) (rfl : ((x0b : Nat) : Int) = x0b) (show ((0 : Nat) : Int) = 0 from rfl) (show ((7 : Nat) : Int) = 7 from rfl)) (rfl : i3 x2 = i3 x2) (by omega) (by omega) (by omega) (by omega)) (fun h2 => ?_) (fun h2 => ?_)
  · replace hP := zE_p hP h2
    exact hk _ _ _ (zconso rfl (zconso rfl (zconso rfl (zconso rfl rfl)))) hZ hK hU (by omega)  hP
  · replace hP := zE_n hP h2
    refine sl_76_1 (ν := ν) hZ (zbh (c := 0) (k := 0) hM (Nat.le_of_ble_eq_true rfl)) zC_r x0b (x1 := x1) (by omega) (x2 := x2) (by omega) (x3 := 0) (by omega) zU_r  (zconso rfl (zconso (zvo (rfl : i3 x1 = i3 x1)) (zconso (zvo (rfl : i3 x2 = i3 x2)) (zconso (zvo (show (0 : Int32) = i3 0 from rfl)) rfl)))) rfl ?_ ?_
    · intro L5 Z4 y3 hL5 hZ4I kZ4 jZ4 gy3 q9
      replace hP := zl_sl2 hP (Eq.symm q9)
      clear q9
      have hZ4U : zU [x0b] Zs Z4 := zU_t hU jZ4 (zU_b1 (List.Mem.head _) zU_b0)
      have hZ4K : zC [44, 48, 49] Zs Z4 := zC_t hK kZ4 (by decide)
      refine fc_76_2 _ (i3 x1) (i3 x2) _ _ _ _ hL5 ?_
      obtain ⟨m2, rfl⟩ : ∃ m2, m = m2 + 1 := ⟨m - 1, by omega⟩
      refine wz_kbs (n := 1) (?_)
      exact wz_k1 ⟨m2, by omega, Z4, (x2 + 1), (zconso rfl (zconso (zvo (rfl : i3 x1 = i3 x1)) (zconso (zvo (i3A (rfl : i3 x2 = i3 x2) (show (1 : Int32) = i3 1 from rfl))) (zconso rfl rfl)))), rfl, hZ4I, hZ4K, hZ4U, by omega, by omega,  hP⟩
    · intro Z8 v8 hZ8 k8 j8 l8 u8 q8
      replace hP := zl_sr hP (Eq.symm q8)
      have hU8 : zU [x0b] Zs Z8 := zU_t hU j8 (zU_b1 (List.Mem.head _) zU_b0)
      have hK8 : zC [44, 48, 49] Zs Z8 := zC_t hK k8 (by decide)
      exact hr _ _ hZ8 hK8 hU8 (by omega) (by omega) hP
/- yX3_takeOut -/
def zf_76 (Z : qz_Z) (a0b : Int) (a1 : Int) : qz_Z × Int := (zsum (zl_76_3 a0b a1 3 Z 0) (fun q => zlet2 q (fun Z2 y1 => (Z2, 0))) (fun r => r))
theorem sp_76 {s : zSM} {Z : qz_Z} {ν : qz_N} (hZ : zH s Z) (a0b : Nat) {a1 : Int} (ga1 : 0 ≤ a1 ∧ a1 ≤ 47) (hM : s.2 + 0 ≤ 1000000000) : ∃ (Z1 : qz_Z) (P : Int), (Z1, P) = zf_76 Z a0b a1 ∧ (qf_76 [.inr (.inr (some (10, a0b, 0))), .inl (i3 a1)] (zm Z ν) = some (zm Z1 ν, .inl (some (.inl (i3 P)))) ∧ zH s Z1 ∧ zC [44, 48, 49] Z Z1 ∧ zU [a0b] Z Z1 ∧ 0 ≤ P ∧ P ≤ 12) := by
  obtain ⟨P, hP⟩ := zx (zf_76 Z a0b a1)
  refine zc_W (Q := fun Z1 P => zH s Z1 ∧ zC [44, 48, 49] Z Z1 ∧ zU [a0b] Z Z1 ∧ 0 ≤ P ∧ P ≤ 12) hP (fw_76 a0b (i3 a1) _ _ ?_)
  replace hP : zE P (zf_76 Z a0b a1) := hP
  unfold zf_76 at hP
  refine sl_76_3 (ν := ν) hZ (zbh (c := 0) (k := 0) hM (Nat.le_of_ble_eq_true rfl)) zC_r a0b (x1 := a1) (by omega) (x2 := 0) (by omega) zU_r  (zconso rfl (zconso (zvo (rfl : i3 a1 = i3 a1)) (zconso (zvo (show (0 : Int32) = i3 0 from rfl)) (zconso rfl rfl)))) rfl ?_ ?_
  · intro L3 Z2 y1 hL3 hZ2I kZ2 jZ2 gy1 q9
    replace hP := zl_sl2 hP (Eq.symm q9)
    clear q9
    have hZ2U : zU [a0b] Z Z2 := zU_t zU_r jZ2 (zU_b1 (List.Mem.head _) zU_b0)
    have hZ2K : zC [44, 48, 49] Z Z2 := zC_t zC_r kZ2 (by decide)
    refine fc_76_4  _ _ _ _ hL3 ?_
    exact zlW hP (show (0 : Int32) = i3 0 from rfl) ⟨hZ2I, hZ2K, hZ2U, by omega, by omega⟩
  · intro Z8 v8 hZ8 k8 j8 l8 u8 q8
    replace hP := zl_sr hP (Eq.symm q8)
    have hU8 : zU [a0b] Z Z8 := zU_t zU_r j8 (zU_b1 (List.Mem.head _) zU_b0)
    have hK8 : zC [44, 48, 49] Z Z8 := zC_t zC_r k8 (by decide)
    exact zlW hP rfl ⟨hZ8, hK8, hU8, by omega, by omega⟩
/- yX5_least -/
def zf_100 (Z : qz_Z) (a0b : Int) (a1b : Int) (a1ij : Int) : Int := (if ((Z 41 a0b (Z 44 a1b a1ij 1) 3) - (Z 41 a0b (Z 44 a1b a1ij 1) 4)) ≤ (Z 44 a1b a1ij 7) then (if ((Z 41 a0b (Z 44 a1b a1ij 1) 3) + (Z 41 a0b (Z 44 a1b a1ij 1) 4)) < (Z 44 a1b a1ij 7) then (if ((Z 41 a0b (Z 44 a1b a1ij 1) 3) + (3 * (Z 41 a0b (Z 44 a1b a1ij 1) 4))) < (Z 44 a1b a1ij 7) then 3 else 2) else 0) else 0)
theorem sp_100 {s : zSM} {Z : qz_Z} {ν : qz_N} (hZ : zH s Z) (a0b : Nat) (a1b : Nat) (a1i : Nat) {a1ij : Int} (ea1i : (a1i : Int) = a1ij) (ga1i : 0 ≤ a1ij ∧ a1ij ≤ 47) (hM : s.2 + 0 ≤ 1000000000) : ∃ P : Int, P = zf_100 Z a0b a1b a1ij ∧ (qf_100 [.inr (.inr (some (10, a0b, 0))), .inr (.inr (some (44, a1b, a1i)))] (zm Z ν) = some (zm Z ν, .inl (some (.inl (i3 P)))) ∧ 0 ≤ P ∧ P ≤ 3) := by
  obtain ⟨P, hP⟩ := zx (zf_100 Z a0b a1b a1ij)
  refine zc_R (Q := fun P => 0 ≤ P ∧ P ≤ 3) hP (fw_100 a0b a1b a1i _ _ ?_)
  replace hP : zE P (zf_100 Z a0b a1b a1ij) := hP
  unfold zf_100 at hP
  have r1 := zH_k hZ 44 a1b a1ij 1 (lo := 0) (hi := 4) (by decide) rfl
  refine wz_i0 (i3O (n := 5) (zm_rd (Z := Z) (ν := ν) (k := 44) (rfl : ((a1b : Nat) : Int) = a1b) ea1i (show ((1 : Nat) : Int) = 1 from rfl)) (by omega) (by omega) (by omega)) ?_
  refine wz_i0 (i3O (n := 5) (zm_rd (Z := Z) (ν := ν) (k := 44) (rfl : ((a1b : Nat) : Int) = a1b) ea1i (show ((1 : Nat) : Int) = 1 from rfl)) (by omega) (by omega) (by omega)) ?_
  have r2 := zH_k hZ 41 a0b (Z 44 a1b a1ij 1) 3 (lo := 0) (hi := 600) (by decide) rfl
  have r3 := zH_k hZ 41 a0b (Z 44 a1b a1ij 1) 4 (lo := 0) (hi := 99) (by decide) rfl
  have r4 := zH_k hZ 44 a1b a1ij 7 (lo := 0) (hi := 2000) (by decide) rfl
  refine wz_br (i3Le (i3S (zm_rd (Z := Z) (ν := ν) (k := 41) (rfl : ((a0b : Nat) : Int) = a0b) (i3I (y := (Z 44 a1b a1ij 1)) (zm_rd (Z := Z) (ν := ν) (k := 44) (rfl : ((a1b : Nat) : Int) = a1b) ea1i (show ((1 : Nat) : Int) = 1 from rfl)) (by omega) (by omega) (by omega)) (show ((3 : Nat) : Int) = 3 from rfl)) (zm_rd (Z := Z) (ν := ν) (k := 41) (rfl : ((a0b : Nat) : Int) = a0b) (i3I (y := (Z 44 a1b a1ij 1)) (zm_rd (Z := Z) (ν := ν) (k := 44) (rfl : ((a1b : Nat) : Int) = a1b) ea1i (show ((1 : Nat) : Int) = 1 from rfl)) (by omega) (by omega) (by omega)) (show ((4 : Nat) : Int) = 4 from rfl))) (zm_rd (Z := Z) (ν := ν) (k := 44) (rfl : ((a1b : Nat) : Int) = a1b) ea1i (show ((7 : Nat) : Int) = 7 from rfl)) (by omega) (by omega) (by omega) (by omega)) (fun h5 => ?_) (fun h5 => ?_)
  · replace hP := zE_p hP h5
    refine wz_br (i3L (i3A (zm_rd (Z := Z) (ν := ν) (k := 41) (rfl : ((a0b : Nat) : Int) = a0b) (i3I (y := (Z 44 a1b a1ij 1)) (zm_rd (Z := Z) (ν := ν) (k := 44) (rfl : ((a1b : Nat) : Int) = a1b) ea1i (show ((1 : Nat) : Int) = 1 from rfl)) (by omega) (by omega) (by omega)) (show ((3 : Nat) : Int) = 3 from rfl)) (zm_rd (Z := Z) (ν := ν) (k := 41) (rfl : ((a0b : Nat) : Int) = a0b) (i3I (y := (Z 44 a1b a1ij 1)) (zm_rd (Z := Z) (ν := ν) (k := 44) (rfl : ((a1b : Nat) : Int) = a1b) ea1i (show ((1 : Nat) : Int) = 1 from rfl)) (by omega) (by omega) (by omega)) (show ((4 : Nat) : Int) = 4 from rfl))) (zm_rd (Z := Z) (ν := ν) (k := 44) (rfl : ((a1b : Nat) : Int) = a1b) ea1i (show ((7 : Nat) : Int) = 7 from rfl)) (by omega) (by omega) (by omega) (by omega)) (fun h6 => ?_) (fun h6 => ?_)
    · replace hP := zE_p hP h6
      refine wz_br (i3L (i3A (zm_rd (Z := Z) (ν := ν) (k := 41) (rfl : ((a0b : Nat) : Int) = a0b) (i3I (y := (Z 44 a1b a1ij 1)) (zm_rd (Z := Z) (ν := ν) (k := 44) (rfl : ((a1b : Nat) : Int) = a1b) ea1i (show ((1 : Nat) : Int) = 1 from rfl)) (by omega) (by omega) (by omega)) (show ((3 : Nat) : Int) = 3 from rfl)) (i3M (show (3 : Int32) = i3 3 from rfl) (zm_rd (Z := Z) (ν := ν) (k := 41) (rfl : ((a0b : Nat) : Int) = a0b) (i3I (y := (Z 44 a1b a1ij 1)) (zm_rd (Z := Z) (ν := ν) (k := 44) (rfl : ((a1b : Nat) : Int) = a1b) ea1i (show ((1 : Nat) : Int) = 1 from rfl)) (by omega) (by omega) (by omega)) (show ((4 : Nat) : Int) = 4 from rfl)))) (zm_rd (Z := Z) (ν := ν) (k := 44) (rfl : ((a1b : Nat) : Int) = a1b) ea1i (show ((7 : Nat) : Int) = 7 from rfl)) (by omega) (by omega) (by omega) (by omega)) (fun h7 => ?_) (fun h7 => ?_)
      · replace hP := zE_p hP h7
        exact zlR hP (show (3 : Int32) = i3 3 from rfl) ⟨by omega, by omega⟩
      · replace hP := zE_n hP h7
        exact zlR hP (show (2 : Int32) = i3 2 from rfl) ⟨by omega, by omega⟩
    · replace hP := zE_n hP h6
      exact zlR hP (show (0 : Int32) = i3 0 from rfl) ⟨by omega, by omega⟩
  · replace hP := zE_n hP h5
    exact zlR hP (show (0 : Int32) = i3 0 from rfl) ⟨by omega, by omega⟩
/- yX5_gradePallet -/
def zl_95_1 (x0b : Int) (x5ij : Int) (x1 : Int) (x2 : Int) (x3 : Int) : Nat → qz_Z → Int → Int → Int → Int → Int → Int × Int × Int × Int × Int
  | 0, Z, x6, x7, x8, x9, x10 => (x6, x7, x8, x9, x10)
  | m + 1, Z, x6, x7, x8, x9, x10 => (if x2 ≤ x10 then (x6, x7, x8, x9, x10) else (if x6 ≤ 0 then (x6, x7, x8, x9, x10) else (if x7 ≤ (((((25173 * x9) + 13849) % 65536) / 16) % x6) then zl_95_1 x0b x5ij x1 x2 x3 m Z (x6 + (-1)) x7 x8 (((25173 * x9) + 13849) % 65536) (x10 + 1) else zl_95_1 x0b x5ij x1 x2 x3 m Z (x6 + (-1)) (x7 + (-1)) (x8 + 1) (((25173 * x9) + 13849) % 65536) (x10 + 1))))
theorem sl_95_1 {s : zSM} {Z : qz_Z} {ν : qz_N} (hZ : zH s Z) (hM : s.2 + 0 ≤ 1000000000) (x0b : Nat) (x5i : Nat) {x5ij : Int} (ex5i : (x5i : Int) = x5ij) (gx5ij : 0 ≤ x5ij ∧ x5ij ≤ 47) {x1 : Int} (gx1 : 0 ≤ x1 ∧ x1 ≤ 47) {x2 : Int} (gx2 : 1 ≤ x2 ∧ x2 ≤ 20) {x3 : Int} (gx3 : 0 ≤ x3 ∧ x3 ≤ 9) {x6 : Int} (gx6 : 0 ≤ x6 ∧ x6 ≤ 40) {x7 : Int} (gx7 : 0 ≤ x7 ∧ x7 ≤ 40) {x8 : Int} (gx8 : 0 ≤ x8 ∧ x8 ≤ 20) {x9 : Int} (gx9 : 0 ≤ x9 ∧ x9 ≤ 65535) {x10 : Int} (gx10 : 0 ≤ x10 ∧ x10 ≤ 20) (gr0 : x8 ≤ x10) {k : wz_K} {R : wz_R} {L : qz_L} (hL : qz_fg [true, true, true, true, false, true, true, true, true, true, true] L = [some (.inr (.inr (some (10, x0b, 0)))), some (.inl (i3 x1)), some (.inl (i3 x2)), some (.inl (i3 x3)), none, some (.inr (.inr (some (44, x0b, x5i)))), some (.inl (i3 x6)), some (.inl (i3 x7)), some (.inl (i3 x8)), some (.inl (i3 x9)), some (.inl (i3 x10))]) {T : Int × Int × Int × Int × Int} (hP : zE T (zl_95_1 x0b x5ij x1 x2 x3 ((20 - x10).toNat + 1) Z x6 x7 x8 x9 x10)) (hk : ∀ (L9 : qz_L) (yx6 yx7 yx8 yx9 yx10 : Int), qz_fg [true, true, true, true, false, true, false, false, true, false, false] L9 = [some (.inr (.inr (some (10, x0b, 0)))), some (.inl (i3 x1)), some (.inl (i3 x2)), some (.inl (i3 x3)), none, some (.inr (.inr (some (44, x0b, x5i)))), none, none, some (.inl (i3 yx8)), none, none] → (0 ≤ yx6 ∧ yx6 ≤ 40) → (0 ≤ yx7 ∧ yx7 ≤ 40) → (0 ≤ yx8 ∧ yx8 ≤ 20) → (0 ≤ yx9 ∧ yx9 ≤ 65535) → (0 ≤ yx10 ∧ yx10 ≤ 20) → (yx8 ≤ yx10) → zE T ((yx6, yx7, yx8, yx9, yx10)) → k 0 (L9, [], zm Z ν)) : wz_loop qb_95_1 65536 k R (L, [], zm Z ν) := by
  refine wz_lp sb_95_1 (fun m x => ∃ x6 : Int, ∃ x7 : Int, ∃ x8 : Int, ∃ x9 : Int, ∃ x10 : Int, qz_fg [true, true, true, true, false, true, true, true, true, true, true] x.1 = [some (.inr (.inr (some (10, x0b, 0)))), some (.inl (i3 x1)), some (.inl (i3 x2)), some (.inl (i3 x3)), none, some (.inr (.inr (some (44, x0b, x5i)))), some (.inl (i3 x6)), some (.inl (i3 x7)), some (.inl (i3 x8)), some (.inl (i3 x9)), some (.inl (i3 x10))] ∧ x.2 = ([], zm Z ν) ∧ m = (20 - x10).toNat ∧ (0 ≤ x6 ∧ x6 ≤ 40) ∧ (0 ≤ x7 ∧ x7 ≤ 40) ∧ (0 ≤ x8 ∧ x8 ≤ 20) ∧ (0 ≤ x9 ∧ x9 ≤ 65535) ∧ (0 ≤ x10 ∧ x10 ≤ 20) ∧ (x8 ≤ x10) ∧ zE T (zl_95_1 x0b x5ij x1 x2 x3 (m + 1) Z x6 x7 x8 x9 x10)) ?_ 65536 ((20 - x10).toNat) _ (by omega) ⟨x6, x7, x8, x9, x10, hL, rfl, rfl, gx6, gx7, gx8, gx9, gx10, gr0, hP⟩
  clear hP gr0 gx6 gx7 gx8 gx9 gx10 hL
  clear x6 x7 x8 x9 x10
  rintro m ⟨L, st, μ⟩ ⟨x6, x7, x8, x9, x10, hL, hx, hm, gx6, gx7, gx8, gx9, gx10, gr0, hP⟩
  cases hx
  refine fb_95_1 x0b (i3 x1) (i3 x2) (i3 x3) x5i (i3 x6) (i3 x7) (i3 x8) (i3 x9) (i3 x10) _ _ _ _ hL ?_
  refine wz_br (i3Le (rfl : i3 x2 = i3 x2) (rfl : i3 x10 = i3 x10) (by omega) (by omega) (by omega) (by omega)) (fun h1 => ?_) (fun h1 => ?_)
  · replace hP := zE_p hP h1
    exact hk _ _ _ _ _ _ (zconso rfl (zconso (zvo (rfl : i3 x1 = i3 x1)) (zconso (zvo (rfl : i3 x2 = i3 x2)) (zconso (zvo (rfl : i3 x3 = i3 x3)) (zconso rfl (zconso rfl (zconso rfl (zconso rfl (zconso (zvo (rfl : i3 x8 = i3 x8)) (zconso rfl (zconso rfl rfl)))))))))))  (by omega) (by omega) (by omega) (by omega) (by omega) (by omega) hP
  · replace hP := zE_n hP h1
    refine wz_br (i3Le (rfl : i3 x6 = i3 x6) (show (0 : Int32) = i3 0 from rfl) (by omega) (by omega) (by omega) (by omega)) (fun h2 => ?_) (fun h2 => ?_)
    · replace hP := zE_p hP h2
      exact hk _ _ _ _ _ _ (zconso rfl (zconso (zvo (rfl : i3 x1 = i3 x1)) (zconso (zvo (rfl : i3 x2 = i3 x2)) (zconso (zvo (rfl : i3 x3 = i3 x3)) (zconso rfl (zconso rfl (zconso rfl (zconso rfl (zconso (zvo (rfl : i3 x8 = i3 x8)) (zconso rfl (zconso rfl rfl)))))))))))  (by omega) (by omega) (by omega) (by omega) (by omega) (by omega) hP
    · replace hP := zE_n hP h2
      refine wz_i0 (i3N0 (rfl : i3 x6 = i3 x6) (by omega) (by omega) (by omega)) ?_
      have r3 := z_mod ((((25173 * x9) + 13849) % 65536) / 16) (y := x6) (by omega)
      refine wz_br (i3Le (rfl : i3 x7 = i3 x7) (i3R (i3D (i3R (i3A (i3M (show (25173 : Int32) = i3 25173 from rfl) (rfl : i3 x9 = i3 x9)) (show (13849 : Int32) = i3 13849 from rfl)) (show (65536 : Int32) = i3 65536 from rfl) (by omega) (by omega) (by omega) (by omega)) (show (16 : Int32) = i3 16 from rfl) (by omega) (by omega) (by omega) (by omega)) (rfl : i3 x6 = i3 x6) (by omega) (by omega) (by omega) (by omega)) (by omega) (by omega) (by omega) (by omega)) (fun h4 => ?_) (fun h4 => ?_)
      · replace hP := zE_p hP h4
        obtain ⟨m2, rfl⟩ : ∃ m2, m = m2 + 1 := ⟨m - 1, by omega⟩
        exact wz_k1 ⟨m2, by omega, (x6 + (-1)), x7, x8, (((25173 * x9) + 13849) % 65536), (x10 + 1), (zconso rfl (zconso (zvo (rfl : i3 x1 = i3 x1)) (zconso (zvo (rfl : i3 x2 = i3 x2)) (zconso (zvo (rfl : i3 x3 = i3 x3)) (zconso rfl (zconso rfl (zconso (zvo (i3A (rfl : i3 x6 = i3 x6) (show (-1 : Int32) = i3 (-1) from rfl))) (zconso (zvo (rfl : i3 x7 = i3 x7)) (zconso (zvo (rfl : i3 x8 = i3 x8)) (zconso (zvo (i3R (i3A (i3M (show (25173 : Int32) = i3 25173 from rfl) (rfl : i3 x9 = i3 x9)) (show (13849 : Int32) = i3 13849 from rfl)) (show (65536 : Int32) = i3 65536 from rfl) (by omega) (by omega) (by omega) (by omega))) (zconso (zvo (i3A (rfl : i3 x10 = i3 x10) (show (1 : Int32) = i3 1 from rfl))) rfl))))))))))), rfl,  by omega, by omega, by omega, by omega, by omega, by omega, by omega,  hP⟩
      · replace hP := zE_n hP h4
        obtain ⟨m2, rfl⟩ : ∃ m2, m = m2 + 1 := ⟨m - 1, by omega⟩
        exact wz_k1 ⟨m2, by omega, (x6 + (-1)), (x7 + (-1)), (x8 + 1), (((25173 * x9) + 13849) % 65536), (x10 + 1), (zconso rfl (zconso (zvo (rfl : i3 x1 = i3 x1)) (zconso (zvo (rfl : i3 x2 = i3 x2)) (zconso (zvo (rfl : i3 x3 = i3 x3)) (zconso rfl (zconso rfl (zconso (zvo (i3A (rfl : i3 x6 = i3 x6) (show (-1 : Int32) = i3 (-1) from rfl))) (zconso (zvo (i3A (rfl : i3 x7 = i3 x7) (show (-1 : Int32) = i3 (-1) from rfl))) (zconso (zvo (i3A (rfl : i3 x8 = i3 x8) (show (1 : Int32) = i3 1 from rfl))) (zconso (zvo (i3R (i3A (i3M (show (25173 : Int32) = i3 25173 from rfl) (rfl : i3 x9 = i3 x9)) (show (13849 : Int32) = i3 13849 from rfl)) (show (65536 : Int32) = i3 65536 from rfl) (by omega) (by omega) (by omega) (by omega))) (zconso (zvo (i3A (rfl : i3 x10 = i3 x10) (show (1 : Int32) = i3 1 from rfl))) rfl))))))))))), rfl,  by omega, by omega, by omega, by omega, by omega, by omega, by omega,  hP⟩
