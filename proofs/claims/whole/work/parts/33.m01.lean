/- yX12_rWarms -/
def zf_490 (Z : qz_Z) (a1 : Int) : qz_Z := (if (Z 2 0 0 (1300 + ((Z 2 0 0 0) / 24))) ≤ (Z 2 0 0 (1215 + 12 * a1)) then (if (w3 ((Z 2 0 0 (1215 + 12 * a1)) - (w3 ((Z 2 0 0 (1212 + 12 * a1)) + (Z 2 0 0 (1216 + 12 * a1)))))) ≤ (Z 2 0 0 (1300 + ((Z 2 0 0 0) / 24))) then (if (Z 2 0 0 (1213 + 12 * a1)) ≤ (Z 2 0 0 (1300 + ((Z 2 0 0 0) / 24))) then (if ((Z 2 0 0 (1300 + ((Z 2 0 0 0) / 24))) - (Z 2 0 0 (1211 + 12 * a1))) ≤ (Z 2 0 0 (1213 + 12 * a1)) then (zlet (zu Z 2 0 0 (1215 + 12 * a1) (Z 2 0 0 (1213 + 12 * a1))) (fun Z14 => (if (Z 2 0 0 (1213 + 12 * a1)) = (Z 2 0 0 (1300 + ((Z 2 0 0 0) / 24))) then (zlet (zu Z14 2 0 0 (1217 + 12 * a1) ((Z14 2 0 0 (1217 + 12 * a1)) + 0)) (fun Z17 => (if (Z 2 0 0 (1213 + 12 * a1)) = (Z 2 0 0 (1300 + ((Z 2 0 0 0) / 24))) then (zlet (zu Z17 2 0 0 (1218 + 12 * a1) ((Z17 2 0 0 (1218 + 12 * a1)) + 0)) (fun Z20 => (zlet (zu Z20 2 0 0 (1216 + 12 * a1) 0) (fun Z21 => Z21)))) else (zlet (zu Z17 2 0 0 (1218 + 12 * a1) (w3 ((Z17 2 0 0 (1218 + 12 * a1)) + 1))) (fun Z24 => (zlet (zu Z24 2 0 0 (1216 + 12 * a1) 0) (fun Z25 => Z25))))))) else (zlet (zu Z14 2 0 0 (1217 + 12 * a1) (w3 ((Z14 2 0 0 (1217 + 12 * a1)) + 1))) (fun Z28 => (if (Z 2 0 0 (1213 + 12 * a1)) = (Z 2 0 0 (1300 + ((Z 2 0 0 0) / 24))) then (zlet (zu Z28 2 0 0 (1218 + 12 * a1) ((Z28 2 0 0 (1218 + 12 * a1)) + 0)) (fun Z31 => (zlet (zu Z31 2 0 0 (1216 + 12 * a1) 0) (fun Z32 => Z32)))) else (zlet (zu Z28 2 0 0 (1218 + 12 * a1) (w3 ((Z28 2 0 0 (1218 + 12 * a1)) + 1))) (fun Z35 => (zlet (zu Z35 2 0 0 (1216 + 12 * a1) 0) (fun Z36 => Z36)))))))))) else (zlet (zu Z 2 0 0 (1215 + 12 * a1) ((Z 2 0 0 (1300 + ((Z 2 0 0 0) / 24))) - (Z 2 0 0 (1211 + 12 * a1)))) (fun Z37 => (if ((Z 2 0 0 (1300 + ((Z 2 0 0 0) / 24))) - (Z 2 0 0 (1211 + 12 * a1))) = (Z 2 0 0 (1300 + ((Z 2 0 0 0) / 24))) then (zlet (zu Z37 2 0 0 (1217 + 12 * a1) ((Z37 2 0 0 (1217 + 12 * a1)) + 0)) (fun Z40 => (zlet (zu Z40 2 0 0 (1218 + 12 * a1) ((Z40 2 0 0 (1218 + 12 * a1)) + 0)) (fun Z42 => (zlet (zu Z42 2 0 0 (1216 + 12 * a1) 0) (fun Z43 => Z43)))))) else (zlet (zu Z37 2 0 0 (1217 + 12 * a1) (w3 ((Z37 2 0 0 (1217 + 12 * a1)) + 1))) (fun Z46 => (zlet (zu Z46 2 0 0 (1218 + 12 * a1) (w3 ((Z46 2 0 0 (1218 + 12 * a1)) + 1))) (fun Z49 => (zlet (zu Z49 2 0 0 (1216 + 12 * a1) 0) (fun Z50 => Z50)))))))))) else (if (Z 2 0 0 (1213 + 12 * a1)) ≤ ((Z 2 0 0 (1300 + ((Z 2 0 0 0) / 24))) + (Z 2 0 0 (1211 + 12 * a1))) then (zlet (zu Z 2 0 0 (1215 + 12 * a1) (Z 2 0 0 (1213 + 12 * a1))) (fun Z53 => (if (Z 2 0 0 (1213 + 12 * a1)) = (Z 2 0 0 (1300 + ((Z 2 0 0 0) / 24))) then (zlet (zu Z53 2 0 0 (1217 + 12 * a1) ((Z53 2 0 0 (1217 + 12 * a1)) + 0)) (fun Z56 => (if (Z 2 0 0 (1213 + 12 * a1)) = (Z 2 0 0 (1300 + ((Z 2 0 0 0) / 24))) then (zlet (zu Z56 2 0 0 (1218 + 12 * a1) ((Z56 2 0 0 (1218 + 12 * a1)) + 0)) (fun Z59 => (zlet (zu Z59 2 0 0 (1216 + 12 * a1) 0) (fun Z60 => Z60)))) else (zlet (zu Z56 2 0 0 (1218 + 12 * a1) (w3 ((Z56 2 0 0 (1218 + 12 * a1)) + 1))) (fun Z63 => (zlet (zu Z63 2 0 0 (1216 + 12 * a1) 0) (fun Z64 => Z64))))))) else (zlet (zu Z53 2 0 0 (1217 + 12 * a1) (w3 ((Z53 2 0 0 (1217 + 12 * a1)) + 1))) (fun Z67 => (if (Z 2 0 0 (1213 + 12 * a1)) = (Z 2 0 0 (1300 + ((Z 2 0 0 0) / 24))) then (zlet (zu Z67 2 0 0 (1218 + 12 * a1) ((Z67 2 0 0 (1218 + 12 * a1)) + 0)) (fun Z70 => (zlet (zu Z70 2 0 0 (1216 + 12 * a1) 0) (fun Z71 => Z71)))) else (zlet (zu Z67 2 0 0 (1218 + 12 * a1) (w3 ((Z67 2 0 0 (1218 + 12 * a1)) + 1))) (fun Z74 => (zlet (zu Z74 2 0 0 (1216 + 12 * a1) 0) (fun Z75 => Z75)))))))))) else (zlet (zu Z 2 0 0 (1215 + 12 * a1) ((Z 2 0 0 (1300 + ((Z 2 0 0 0) / 24))) + (Z 2 0 0 (1211 + 12 * a1)))) (fun Z76 => (if ((Z 2 0 0 (1300 + ((Z 2 0 0 0) / 24))) + (Z 2 0 0 (1211 + 12 * a1))) = (Z 2 0 0 (1300 + ((Z 2 0 0 0) / 24))) then (zlet (zu Z76 2 0 0 (1217 + 12 * a1) ((Z76 2 0 0 (1217 + 12 * a1)) + 0)) (fun Z79 => (zlet (zu Z79 2 0 0 (1218 + 12 * a1) ((Z79 2 0 0 (1218 + 12 * a1)) + 0)) (fun Z81 => (zlet (zu Z81 2 0 0 (1216 + 12 * a1) 0) (fun Z82 => Z82)))))) else (zlet (zu Z76 2 0 0 (1217 + 12 * a1) (w3 ((Z76 2 0 0 (1217 + 12 * a1)) + 1))) (fun Z85 => (zlet (zu Z85 2 0 0 (1218 + 12 * a1) (w3 ((Z85 2 0 0 (1218 + 12 * a1)) + 1))) (fun Z88 => (zlet (zu Z88 2 0 0 (1216 + 12 * a1) 0) (fun Z89 => Z89))))))))))) else (if (Z 2 0 0 (1213 + 12 * a1)) ≤ (w3 ((Z 2 0 0 (1215 + 12 * a1)) - (w3 ((Z 2 0 0 (1212 + 12 * a1)) + (Z 2 0 0 (1216 + 12 * a1)))))) then (if ((w3 ((Z 2 0 0 (1215 + 12 * a1)) - (w3 ((Z 2 0 0 (1212 + 12 * a1)) + (Z 2 0 0 (1216 + 12 * a1)))))) - (Z 2 0 0 (1211 + 12 * a1))) ≤ (Z 2 0 0 (1213 + 12 * a1)) then (zlet (zu Z 2 0 0 (1215 + 12 * a1) (Z 2 0 0 (1213 + 12 * a1))) (fun Z94 => (if (Z 2 0 0 (1213 + 12 * a1)) = (w3 ((Z 2 0 0 (1215 + 12 * a1)) - (w3 ((Z 2 0 0 (1212 + 12 * a1)) + (Z 2 0 0 (1216 + 12 * a1)))))) then (zlet (zu Z94 2 0 0 (1217 + 12 * a1) ((Z94 2 0 0 (1217 + 12 * a1)) + 0)) (fun Z97 => (if (Z 2 0 0 (1213 + 12 * a1)) = (w3 ((Z 2 0 0 (1215 + 12 * a1)) - (w3 ((Z 2 0 0 (1212 + 12 * a1)) + (Z 2 0 0 (1216 + 12 * a1)))))) then (zlet (zu Z97 2 0 0 (1218 + 12 * a1) ((Z97 2 0 0 (1218 + 12 * a1)) + 0)) (fun Z100 => (zlet (zu Z100 2 0 0 (1216 + 12 * a1) 0) (fun Z101 => Z101)))) else (zlet (zu Z97 2 0 0 (1218 + 12 * a1) (w3 ((Z97 2 0 0 (1218 + 12 * a1)) + 1))) (fun Z104 => (zlet (zu Z104 2 0 0 (1216 + 12 * a1) 0) (fun Z105 => Z105))))))) else (zlet (zu Z94 2 0 0 (1217 + 12 * a1) (w3 ((Z94 2 0 0 (1217 + 12 * a1)) + 1))) (fun Z108 => (if (Z 2 0 0 (1213 + 12 * a1)) = (w3 ((Z 2 0 0 (1215 + 12 * a1)) - (w3 ((Z 2 0 0 (1212 + 12 * a1)) + (Z 2 0 0 (1216 + 12 * a1)))))) then (zlet (zu Z108 2 0 0 (1218 + 12 * a1) ((Z108 2 0 0 (1218 + 12 * a1)) + 0)) (fun Z111 => (zlet (zu Z111 2 0 0 (1216 + 12 * a1) 0) (fun Z112 => Z112)))) else (zlet (zu Z108 2 0 0 (1218 + 12 * a1) (w3 ((Z108 2 0 0 (1218 + 12 * a1)) + 1))) (fun Z115 => (zlet (zu Z115 2 0 0 (1216 + 12 * a1) 0) (fun Z116 => Z116)))))))))) else (zlet (zu Z 2 0 0 (1215 + 12 * a1) ((w3 ((Z 2 0 0 (1215 + 12 * a1)) - (w3 ((Z 2 0 0 (1212 + 12 * a1)) + (Z 2 0 0 (1216 + 12 * a1)))))) - (Z 2 0 0 (1211 + 12 * a1)))) (fun Z117 => (if ((w3 ((Z 2 0 0 (1215 + 12 * a1)) - (w3 ((Z 2 0 0 (1212 + 12 * a1)) + (Z 2 0 0 (1216 + 12 * a1)))))) - (Z 2 0 0 (1211 + 12 * a1))) = (w3 ((Z 2 0 0 (1215 + 12 * a1)) - (w3 ((Z 2 0 0 (1212 + 12 * a1)) + (Z 2 0 0 (1216 + 12 * a1)))))) then (zlet (zu Z117 2 0 0 (1217 + 12 * a1) ((Z117 2 0 0 (1217 + 12 * a1)) + 0)) (fun Z120 => (zlet (zu Z120 2 0 0 (1218 + 12 * a1) ((Z120 2 0 0 (1218 + 12 * a1)) + 0)) (fun Z122 => (zlet (zu Z122 2 0 0 (1216 + 12 * a1) 0) (fun Z123 => Z123)))))) else (zlet (zu Z117 2 0 0 (1217 + 12 * a1) (w3 ((Z117 2 0 0 (1217 + 12 * a1)) + 1))) (fun Z126 => (zlet (zu Z126 2 0 0 (1218 + 12 * a1) (w3 ((Z126 2 0 0 (1218 + 12 * a1)) + 1))) (fun Z129 => (zlet (zu Z129 2 0 0 (1216 + 12 * a1) 0) (fun Z130 => Z130)))))))))) else (if (Z 2 0 0 (1213 + 12 * a1)) ≤ ((w3 ((Z 2 0 0 (1215 + 12 * a1)) - (w3 ((Z 2 0 0 (1212 + 12 * a1)) + (Z 2 0 0 (1216 + 12 * a1)))))) + (Z 2 0 0 (1211 + 12 * a1))) then (zlet (zu Z 2 0 0 (1215 + 12 * a1) (Z 2 0 0 (1213 + 12 * a1))) (fun Z133 => (if (Z 2 0 0 (1213 + 12 * a1)) = (w3 ((Z 2 0 0 (1215 + 12 * a1)) - (w3 ((Z 2 0 0 (1212 + 12 * a1)) + (Z 2 0 0 (1216 + 12 * a1)))))) then (zlet (zu Z133 2 0 0 (1217 + 12 * a1) ((Z133 2 0 0 (1217 + 12 * a1)) + 0)) (fun Z136 => (if (Z 2 0 0 (1213 + 12 * a1)) = (w3 ((Z 2 0 0 (1215 + 12 * a1)) - (w3 ((Z 2 0 0 (1212 + 12 * a1)) + (Z 2 0 0 (1216 + 12 * a1)))))) then (zlet (zu Z136 2 0 0 (1218 + 12 * a1) ((Z136 2 0 0 (1218 + 12 * a1)) + 0)) (fun Z139 => (zlet (zu Z139 2 0 0 (1216 + 12 * a1) 0) (fun Z140 => Z140)))) else (zlet (zu Z136 2 0 0 (1218 + 12 * a1) (w3 ((Z136 2 0 0 (1218 + 12 * a1)) + 1))) (fun Z143 => (zlet (zu Z143 2 0 0 (1216 + 12 * a1) 0) (fun Z144 => Z144))))))) else (zlet (zu Z133 2 0 0 (1217 + 12 * a1) (w3 ((Z133 2 0 0 (1217 + 12 * a1)) + 1))) (fun Z147 => (if (Z 2 0 0 (1213 + 12 * a1)) = (w3 ((Z 2 0 0 (1215 + 12 * a1)) - (w3 ((Z 2 0 0 (1212 + 12 * a1)) + (Z 2 0 0 (1216 + 12 * a1)))))) then (zlet (zu Z147 2 0 0 (1218 + 12 * a1) ((Z147 2 0 0 (1218 + 12 * a1)) + 0)) (fun Z150 => (zlet (zu Z150 2 0 0 (1216 + 12 * a1) 0) (fun Z151 => Z151)))) else (zlet (zu Z147 2 0 0 (1218 + 12 * a1) (w3 ((Z147 2 0 0 (1218 + 12 * a1)) + 1))) (fun Z154 => (zlet (zu Z154 2 0 0 (1216 + 12 * a1) 0) (fun Z155 => Z155)))))))))) else (zlet (zu Z 2 0 0 (1215 + 12 * a1) ((w3 ((Z 2 0 0 (1215 + 12 * a1)) - (w3 ((Z 2 0 0 (1212 + 12 * a1)) + (Z 2 0 0 (1216 + 12 * a1)))))) + (Z 2 0 0 (1211 + 12 * a1)))) (fun Z156 => (if ((w3 ((Z 2 0 0 (1215 + 12 * a1)) - (w3 ((Z 2 0 0 (1212 + 12 * a1)) + (Z 2 0 0 (1216 + 12 * a1)))))) + (Z 2 0 0 (1211 + 12 * a1))) = (w3 ((Z 2 0 0 (1215 + 12 * a1)) - (w3 ((Z 2 0 0 (1212 + 12 * a1)) + (Z 2 0 0 (1216 + 12 * a1)))))) then (zlet (zu Z156 2 0 0 (1217 + 12 * a1) ((Z156 2 0 0 (1217 + 12 * a1)) + 0)) (fun Z159 => (zlet (zu Z159 2 0 0 (1218 + 12 * a1) ((Z159 2 0 0 (1218 + 12 * a1)) + 0)) (fun Z161 => (zlet (zu Z161 2 0 0 (1216 + 12 * a1) 0) (fun Z162 => Z162)))))) else (zlet (zu Z156 2 0 0 (1217 + 12 * a1) (w3 ((Z156 2 0 0 (1217 + 12 * a1)) + 1))) (fun Z165 => (zlet (zu Z165 2 0 0 (1218 + 12 * a1) (w3 ((Z165 2 0 0 (1218 + 12 * a1)) + 1))) (fun Z168 => (zlet (zu Z168 2 0 0 (1216 + 12 * a1) 0) (fun Z169 => Z169)))))))))))) else (if (Z 2 0 0 (1300 + ((Z 2 0 0 0) / 24))) ≤ (w3 ((Z 2 0 0 (1215 + 12 * a1)) + (w3 ((Z 2 0 0 (1212 + 12 * a1)) + (Z 2 0 0 (1216 + 12 * a1)))))) then (if (Z 2 0 0 (1213 + 12 * a1)) ≤ (Z 2 0 0 (1300 + ((Z 2 0 0 0) / 24))) then (if ((Z 2 0 0 (1300 + ((Z 2 0 0 0) / 24))) - (Z 2 0 0 (1211 + 12 * a1))) ≤ (Z 2 0 0 (1213 + 12 * a1)) then (zlet (zu Z 2 0 0 (1215 + 12 * a1) (Z 2 0 0 (1213 + 12 * a1))) (fun Z179 => (if (Z 2 0 0 (1213 + 12 * a1)) = (Z 2 0 0 (1300 + ((Z 2 0 0 0) / 24))) then (zlet (zu Z179 2 0 0 (1217 + 12 * a1) ((Z179 2 0 0 (1217 + 12 * a1)) + 0)) (fun Z182 => (if (Z 2 0 0 (1213 + 12 * a1)) = (Z 2 0 0 (1300 + ((Z 2 0 0 0) / 24))) then (zlet (zu Z182 2 0 0 (1218 + 12 * a1) ((Z182 2 0 0 (1218 + 12 * a1)) + 0)) (fun Z185 => (zlet (zu Z185 2 0 0 (1216 + 12 * a1) 0) (fun Z186 => Z186)))) else (zlet (zu Z182 2 0 0 (1218 + 12 * a1) (w3 ((Z182 2 0 0 (1218 + 12 * a1)) + 1))) (fun Z189 => (zlet (zu Z189 2 0 0 (1216 + 12 * a1) 0) (fun Z190 => Z190))))))) else (zlet (zu Z179 2 0 0 (1217 + 12 * a1) (w3 ((Z179 2 0 0 (1217 + 12 * a1)) + 1))) (fun Z193 => (if (Z 2 0 0 (1213 + 12 * a1)) = (Z 2 0 0 (1300 + ((Z 2 0 0 0) / 24))) then (zlet (zu Z193 2 0 0 (1218 + 12 * a1) ((Z193 2 0 0 (1218 + 12 * a1)) + 0)) (fun Z196 => (zlet (zu Z196 2 0 0 (1216 + 12 * a1) 0) (fun Z197 => Z197)))) else (zlet (zu Z193 2 0 0 (1218 + 12 * a1) (w3 ((Z193 2 0 0 (1218 + 12 * a1)) + 1))) (fun Z200 => (zlet (zu Z200 2 0 0 (1216 + 12 * a1) 0) (fun Z201 => Z201)))))))))) else (zlet (zu Z 2 0 0 (1215 + 12 * a1) ((Z 2 0 0 (1300 + ((Z 2 0 0 0) / 24))) - (Z 2 0 0 (1211 + 12 * a1)))) (fun Z202 => (if ((Z 2 0 0 (1300 + ((Z 2 0 0 0) / 24))) - (Z 2 0 0 (1211 + 12 * a1))) = (Z 2 0 0 (1300 + ((Z 2 0 0 0) / 24))) then (zlet (zu Z202 2 0 0 (1217 + 12 * a1) ((Z202 2 0 0 (1217 + 12 * a1)) + 0)) (fun Z205 => (zlet (zu Z205 2 0 0 (1218 + 12 * a1) ((Z205 2 0 0 (1218 + 12 * a1)) + 0)) (fun Z207 => (zlet (zu Z207 2 0 0 (1216 + 12 * a1) 0) (fun Z208 => Z208)))))) else (zlet (zu Z202 2 0 0 (1217 + 12 * a1) (w3 ((Z202 2 0 0 (1217 + 12 * a1)) + 1))) (fun Z211 => (zlet (zu Z211 2 0 0 (1218 + 12 * a1) (w3 ((Z211 2 0 0 (1218 + 12 * a1)) + 1))) (fun Z214 => (zlet (zu Z214 2 0 0 (1216 + 12 * a1) 0) (fun Z215 => Z215)))))))))) else (if (Z 2 0 0 (1213 + 12 * a1)) ≤ ((Z 2 0 0 (1300 + ((Z 2 0 0 0) / 24))) + (Z 2 0 0 (1211 + 12 * a1))) then (zlet (zu Z 2 0 0 (1215 + 12 * a1) (Z 2 0 0 (1213 + 12 * a1))) (fun Z218 => (if (Z 2 0 0 (1213 + 12 * a1)) = (Z 2 0 0 (1300 + ((Z 2 0 0 0) / 24))) then (zlet (zu Z218 2 0 0 (1217 + 12 * a1) ((Z218 2 0 0 (1217 + 12 * a1)) + 0)) (fun Z221 => (if (Z 2 0 0 (1213 + 12 * a1)) = (Z 2 0 0 (1300 + ((Z 2 0 0 0) / 24))) then (zlet (zu Z221 2 0 0 (1218 + 12 * a1) ((Z221 2 0 0 (1218 + 12 * a1)) + 0)) (fun Z224 => (zlet (zu Z224 2 0 0 (1216 + 12 * a1) 0) (fun Z225 => Z225)))) else (zlet (zu Z221 2 0 0 (1218 + 12 * a1) (w3 ((Z221 2 0 0 (1218 + 12 * a1)) + 1))) (fun Z228 => (zlet (zu Z228 2 0 0 (1216 + 12 * a1) 0) (fun Z229 => Z229))))))) else (zlet (zu Z218 2 0 0 (1217 + 12 * a1) (w3 ((Z218 2 0 0 (1217 + 12 * a1)) + 1))) (fun Z232 => (if (Z 2 0 0 (1213 + 12 * a1)) = (Z 2 0 0 (1300 + ((Z 2 0 0 0) / 24))) then (zlet (zu Z232 2 0 0 (1218 + 12 * a1) ((Z232 2 0 0 (1218 + 12 * a1)) + 0)) (fun Z235 => (zlet (zu Z235 2 0 0 (1216 + 12 * a1) 0) (fun Z236 => Z236)))) else (zlet (zu Z232 2 0 0 (1218 + 12 * a1) (w3 ((Z232 2 0 0 (1218 + 12 * a1)) + 1))) (fun Z239 => (zlet (zu Z239 2 0 0 (1216 + 12 * a1) 0) (fun Z240 => Z240)))))))))) else (zlet (zu Z 2 0 0 (1215 + 12 * a1) ((Z 2 0 0 (1300 + ((Z 2 0 0 0) / 24))) + (Z 2 0 0 (1211 + 12 * a1)))) (fun Z241 => (if ((Z 2 0 0 (1300 + ((Z 2 0 0 0) / 24))) + (Z 2 0 0 (1211 + 12 * a1))) = (Z 2 0 0 (1300 + ((Z 2 0 0 0) / 24))) then (zlet (zu Z241 2 0 0 (1217 + 12 * a1) ((Z241 2 0 0 (1217 + 12 * a1)) + 0)) (fun Z244 => (zlet (zu Z244 2 0 0 (1218 + 12 * a1) ((Z244 2 0 0 (1218 + 12 * a1)) + 0)) (fun Z246 => (zlet (zu Z246 2 0 0 (1216 + 12 * a1) 0) (fun Z247 => Z247)))))) else (zlet (zu Z241 2 0 0 (1217 + 12 * a1) (w3 ((Z241 2 0 0 (1217 + 12 * a1)) + 1))) (fun Z250 => (zlet (zu Z250 2 0 0 (1218 + 12 * a1) (w3 ((Z250 2 0 0 (1218 + 12 * a1)) + 1))) (fun Z253 => (zlet (zu Z253 2 0 0 (1216 + 12 * a1) 0) (fun Z254 => Z254))))))))))) else (if (Z 2 0 0 (1213 + 12 * a1)) ≤ (w3 ((Z 2 0 0 (1215 + 12 * a1)) + (w3 ((Z 2 0 0 (1212 + 12 * a1)) + (Z 2 0 0 (1216 + 12 * a1)))))) then (if ((w3 ((Z 2 0 0 (1215 + 12 * a1)) + (w3 ((Z 2 0 0 (1212 + 12 * a1)) + (Z 2 0 0 (1216 + 12 * a1)))))) - (Z 2 0 0 (1211 + 12 * a1))) ≤ (Z 2 0 0 (1213 + 12 * a1)) then (zlet (zu Z 2 0 0 (1215 + 12 * a1) (Z 2 0 0 (1213 + 12 * a1))) (fun Z259 => (if (Z 2 0 0 (1213 + 12 * a1)) = (w3 ((Z 2 0 0 (1215 + 12 * a1)) + (w3 ((Z 2 0 0 (1212 + 12 * a1)) + (Z 2 0 0 (1216 + 12 * a1)))))) then (zlet (zu Z259 2 0 0 (1217 + 12 * a1) ((Z259 2 0 0 (1217 + 12 * a1)) + 0)) (fun Z262 => (if (Z 2 0 0 (1213 + 12 * a1)) = (w3 ((Z 2 0 0 (1215 + 12 * a1)) + (w3 ((Z 2 0 0 (1212 + 12 * a1)) + (Z 2 0 0 (1216 + 12 * a1)))))) then (zlet (zu Z262 2 0 0 (1218 + 12 * a1) ((Z262 2 0 0 (1218 + 12 * a1)) + 0)) (fun Z265 => (zlet (zu Z265 2 0 0 (1216 + 12 * a1) 0) (fun Z266 => Z266)))) else (zlet (zu Z262 2 0 0 (1218 + 12 * a1) (w3 ((Z262 2 0 0 (1218 + 12 * a1)) + 1))) (fun Z269 => (zlet (zu Z269 2 0 0 (1216 + 12 * a1) 0) (fun Z270 => Z270))))))) else (zlet (zu Z259 2 0 0 (1217 + 12 * a1) (w3 ((Z259 2 0 0 (1217 + 12 * a1)) + 1))) (fun Z273 => (if (Z 2 0 0 (1213 + 12 * a1)) = (w3 ((Z 2 0 0 (1215 + 12 * a1)) + (w3 ((Z 2 0 0 (1212 + 12 * a1)) + (Z 2 0 0 (1216 + 12 * a1)))))) then (zlet (zu Z273 2 0 0 (1218 + 12 * a1) ((Z273 2 0 0 (1218 + 12 * a1)) + 0)) (fun Z276 => (zlet (zu Z276 2 0 0 (1216 + 12 * a1) 0) (fun Z277 => Z277)))) else (zlet (zu Z273 2 0 0 (1218 + 12 * a1) (w3 ((Z273 2 0 0 (1218 + 12 * a1)) + 1))) (fun Z280 => (zlet (zu Z280 2 0 0 (1216 + 12 * a1) 0) (fun Z281 => Z281)))))))))) else (zlet (zu Z 2 0 0 (1215 + 12 * a1) ((w3 ((Z 2 0 0 (1215 + 12 * a1)) + (w3 ((Z 2 0 0 (1212 + 12 * a1)) + (Z 2 0 0 (1216 + 12 * a1)))))) - (Z 2 0 0 (1211 + 12 * a1)))) (fun Z282 => (if ((w3 ((Z 2 0 0 (1215 + 12 * a1)) + (w3 ((Z 2 0 0 (1212 + 12 * a1)) + (Z 2 0 0 (1216 + 12 * a1)))))) - (Z 2 0 0 (1211 + 12 * a1))) = (w3 ((Z 2 0 0 (1215 + 12 * a1)) + (w3 ((Z 2 0 0 (1212 + 12 * a1)) + (Z 2 0 0 (1216 + 12 * a1)))))) then (zlet (zu Z282 2 0 0 (1217 + 12 * a1) ((Z282 2 0 0 (1217 + 12 * a1)) + 0)) (fun Z285 => (zlet (zu Z285 2 0 0 (1218 + 12 * a1) ((Z285 2 0 0 (1218 + 12 * a1)) + 0)) (fun Z287 => (zlet (zu Z287 2 0 0 (1216 + 12 * a1) 0) (fun Z288 => Z288)))))) else (zlet (zu Z282 2 0 0 (1217 + 12 * a1) (w3 ((Z282 2 0 0 (1217 + 12 * a1)) + 1))) (fun Z291 => (zlet (zu Z291 2 0 0 (1218 + 12 * a1) (w3 ((Z291 2 0 0 (1218 + 12 * a1)) + 1))) (fun Z294 => (zlet (zu Z294 2 0 0 (1216 + 12 * a1) 0) (fun Z295 => Z295)))))))))) else (if (Z 2 0 0 (1213 + 12 * a1)) ≤ ((w3 ((Z 2 0 0 (1215 + 12 * a1)) + (w3 ((Z 2 0 0 (1212 + 12 * a1)) + (Z 2 0 0 (1216 + 12 * a1)))))) + (Z 2 0 0 (1211 + 12 * a1))) then (zlet (zu Z 2 0 0 (1215 + 12 * a1) (Z 2 0 0 (1213 + 12 * a1))) (fun Z298 => (if (Z 2 0 0 (1213 + 12 * a1)) = (w3 ((Z 2 0 0 (1215 + 12 * a1)) + (w3 ((Z 2 0 0 (1212 + 12 * a1)) + (Z 2 0 0 (1216 + 12 * a1)))))) then (zlet (zu Z298 2 0 0 (1217 + 12 * a1) ((Z298 2 0 0 (1217 + 12 * a1)) + 0)) (fun Z301 => (if (Z 2 0 0 (1213 + 12 * a1)) = (w3 ((Z 2 0 0 (1215 + 12 * a1)) + (w3 ((Z 2 0 0 (1212 + 12 * a1)) + (Z 2 0 0 (1216 + 12 * a1)))))) then (zlet (zu Z301 2 0 0 (1218 + 12 * a1) ((Z301 2 0 0 (1218 + 12 * a1)) + 0)) (fun Z304 => (zlet (zu Z304 2 0 0 (1216 + 12 * a1) 0) (fun Z305 => Z305)))) else (zlet (zu Z301 2 0 0 (1218 + 12 * a1) (w3 ((Z301 2 0 0 (1218 + 12 * a1)) + 1))) (fun Z308 => (zlet (zu Z308 2 0 0 (1216 + 12 * a1) 0) (fun Z309 => Z309))))))) else (zlet (zu Z298 2 0 0 (1217 + 12 * a1) (w3 ((Z298 2 0 0 (1217 + 12 * a1)) + 1))) (fun Z312 => (if (Z 2 0 0 (1213 + 12 * a1)) = (w3 ((Z 2 0 0 (1215 + 12 * a1)) + (w3 ((Z 2 0 0 (1212 + 12 * a1)) + (Z 2 0 0 (1216 + 12 * a1)))))) then (zlet (zu Z312 2 0 0 (1218 + 12 * a1) ((Z312 2 0 0 (1218 + 12 * a1)) + 0)) (fun Z315 => (zlet (zu Z315 2 0 0 (1216 + 12 * a1) 0) (fun Z316 => Z316)))) else (zlet (zu Z312 2 0 0 (1218 + 12 * a1) (w3 ((Z312 2 0 0 (1218 + 12 * a1)) + 1))) (fun Z319 => (zlet (zu Z319 2 0 0 (1216 + 12 * a1) 0) (fun Z320 => Z320)))))))))) else (zlet (zu Z 2 0 0 (1215 + 12 * a1) ((w3 ((Z 2 0 0 (1215 + 12 * a1)) + (w3 ((Z 2 0 0 (1212 + 12 * a1)) + (Z 2 0 0 (1216 + 12 * a1)))))) + (Z 2 0 0 (1211 + 12 * a1)))) (fun Z321 => (if ((w3 ((Z 2 0 0 (1215 + 12 * a1)) + (w3 ((Z 2 0 0 (1212 + 12 * a1)) + (Z 2 0 0 (1216 + 12 * a1)))))) + (Z 2 0 0 (1211 + 12 * a1))) = (w3 ((Z 2 0 0 (1215 + 12 * a1)) + (w3 ((Z 2 0 0 (1212 + 12 * a1)) + (Z 2 0 0 (1216 + 12 * a1)))))) then (zlet (zu Z321 2 0 0 (1217 + 12 * a1) ((Z321 2 0 0 (1217 + 12 * a1)) + 0)) (fun Z324 => (zlet (zu Z324 2 0 0 (1218 + 12 * a1) ((Z324 2 0 0 (1218 + 12 * a1)) + 0)) (fun Z326 => (zlet (zu Z326 2 0 0 (1216 + 12 * a1) 0) (fun Z327 => Z327)))))) else (zlet (zu Z321 2 0 0 (1217 + 12 * a1) (w3 ((Z321 2 0 0 (1217 + 12 * a1)) + 1))) (fun Z330 => (zlet (zu Z330 2 0 0 (1218 + 12 * a1) (w3 ((Z330 2 0 0 (1218 + 12 * a1)) + 1))) (fun Z333 => (zlet (zu Z333 2 0 0 (1216 + 12 * a1) 0) (fun Z334 => Z334)))))))))))))
theorem sp_490 {s : zSM} {Z : qz_Z} {ν : qz_N} (hZ : zM s Z) {a1 : Int} (ga1 : 0 ≤ a1 ∧ a1 ≤ 5) (hM : s.2 + 0 ≤ 1000000000) : ∃ P : qz_Z, P = zf_490 Z a1 ∧ (qf_490 [.inr (.inr (some (1, 0, 0))), .inl (i3 a1)] (zm Z ν) = some (zm P ν, .inl none) ∧ zM s P ∧ zC [2] Z P ∧ zU [] Z P) := by
  obtain ⟨P, hP⟩ := zx (zf_490 Z a1)
  refine zc_V (Q := fun P => zM s P ∧ zC [2] Z P ∧ zU [] Z P) hP (fw_490 (i3 a1) _ _ ?_)
  replace hP : zE P (zf_490 Z a1) := hP
  unfold zf_490 at hP
  refine wz_i0 (i3O (n := 4400) (i3A (i3A (show (1210 : Int32) = i3 1210 from rfl) (i3M (show (12 : Int32) = i3 12 from rfl) (rfl : i3 a1 = i3 a1))) (show (5 : Int32) = i3 5 from rfl)) (by omega) (by omega) (by omega)) ?_
  have r1 := zM_k hZ 2 0 0 0 (lo := 0) (hi := 671) (by decide) rfl
  refine wz_i0 (i3O (n := 4400) (i3A (show (1300 : Int32) = i3 1300 from rfl) (i3D (zm_rd (Z := Z) (ν := ν) (k := 2) (show ((0 : Nat) : Int) = 0 from rfl) (show ((0 : Nat) : Int) = 0 from rfl) (show ((0 : Nat) : Int) = 0 from rfl)) (show (24 : Int32) = i3 24 from rfl) (by omega) (by omega) (by omega) (by omega))) (by omega) (by omega) (by omega)) ?_
  refine wz_i0 (i3O (n := 4400) (i3A (i3A (show (1210 : Int32) = i3 1210 from rfl) (i3M (show (12 : Int32) = i3 12 from rfl) (rfl : i3 a1 = i3 a1))) (show (2 : Int32) = i3 2 from rfl)) (by omega) (by omega) (by omega)) ?_
  refine wz_i0 (i3O (n := 4400) (i3A (i3A (show (1210 : Int32) = i3 1210 from rfl) (i3M (show (12 : Int32) = i3 12 from rfl) (rfl : i3 a1 = i3 a1))) (show (6 : Int32) = i3 6 from rfl)) (by omega) (by omega) (by omega)) ?_
  have r2 := zM_k hZ 2 0 0 (1300 + ((Z 2 0 0 0) / 24)) (lo := 0) (hi := 40) (by decide) (zs_1300 (by omega) (by omega))
  have r3 := zM_k hZ 2 0 0 (1215 + 12 * a1) (lo := 0) (hi := 40) (by decide) (zs_1210_5 (x := a1) (by omega) (by omega) (by omega))
  refine wz_br (i3Le (zm_rd (Z := Z) (ν := ν) (k := 2) (show ((0 : Nat) : Int) = 0 from rfl) (show ((0 : Nat) : Int) = 0 from rfl) (i3I (y := (1300 + ((Z 2 0 0 0) / 24))) (i3A (show (1300 : Int32) = i3 1300 from rfl) (i3D (zm_rd (Z := Z) (ν := ν) (k := 2) (show ((0 : Nat) : Int) = 0 from rfl) (show ((0 : Nat) : Int) = 0 from rfl) (show ((0 : Nat) : Int) = 0 from rfl)) (show (24 : Int32) = i3 24 from rfl) (by omega) (by omega) (by omega) (by omega))) (by omega) (by omega) (by omega))) (zm_rd (Z := Z) (ν := ν) (k := 2) (show ((0 : Nat) : Int) = 0 from rfl) (show ((0 : Nat) : Int) = 0 from rfl) (i3I (y := (1215 + 12 * a1)) (i3A (i3A (show (1210 : Int32) = i3 1210 from rfl) (i3M (show (12 : Int32) = i3 12 from rfl) (rfl : i3 a1 = i3 a1))) (show (5 : Int32) = i3 5 from rfl)) (by omega) (by omega) (by omega))) (by omega) (by omega) (by omega) (by omega)) (fun h4 => ?_) (fun h4 => ?_)
  · replace hP := zE_p hP h4
    have r5 := zM_k hZ 2 0 0 (1212 + 12 * a1) (lo := 0) (hi := 9) (by decide) (zs_1210_2 (x := a1) (by omega) (by omega) (by omega))
    have r6 := zM_f hZ 2 0 0 (1216 + 12 * a1)
    have r7 := w3_r ((Z 2 0 0 (1212 + 12 * a1)) + (Z 2 0 0 (1216 + 12 * a1)))
    have r8 := w3_r ((Z 2 0 0 (1215 + 12 * a1)) - (w3 ((Z 2 0 0 (1212 + 12 * a1)) + (Z 2 0 0 (1216 + 12 * a1)))))
    refine wz_br (i3Le (i3W (i3S (zm_rd (Z := Z) (ν := ν) (k := 2) (show ((0 : Nat) : Int) = 0 from rfl) (show ((0 : Nat) : Int) = 0 from rfl) (i3I (y := (1215 + 12 * a1)) (i3A (i3A (show (1210 : Int32) = i3 1210 from rfl) (i3M (show (12 : Int32) = i3 12 from rfl) (rfl : i3 a1 = i3 a1))) (show (5 : Int32) = i3 5 from rfl)) (by omega) (by omega) (by omega))) (i3W (i3A (zm_rd (Z := Z) (ν := ν) (k := 2) (show ((0 : Nat) : Int) = 0 from rfl) (show ((0 : Nat) : Int) = 0 from rfl) (i3I (y := (1212 + 12 * a1)) (i3A (i3A (show (1210 : Int32) = i3 1210 from rfl) (i3M (show (12 : Int32) = i3 12 from rfl) (rfl : i3 a1 = i3 a1))) (show (2 : Int32) = i3 2 from rfl)) (by omega) (by omega) (by omega))) (zm_rd (Z := Z) (ν := ν) (k := 2) (show ((0 : Nat) : Int) = 0 from rfl) (show ((0 : Nat) : Int) = 0 from rfl) (i3I (y := (1216 + 12 * a1)) (i3A (i3A (show (1210 : Int32) = i3 1210 from rfl) (i3M (show (12 : Int32) = i3 12 from rfl) (rfl : i3 a1 = i3 a1))) (show (6 : Int32) = i3 6 from rfl)) (by omega) (by omega) (by omega))))))) (zm_rd (Z := Z) (ν := ν) (k := 2) (show ((0 : Nat) : Int) = 0 from rfl) (show ((0 : Nat) : Int) = 0 from rfl) (i3I (y := (1300 + ((Z 2 0 0 0) / 24))) (i3A (show (1300 : Int32) = i3 1300 from rfl) (i3D (zm_rd (Z := Z) (ν := ν) (k := 2) (show ((0 : Nat) : Int) = 0 from rfl) (show ((0 : Nat) : Int) = 0 from rfl) (show ((0 : Nat) : Int) = 0 from rfl)) (show (24 : Int32) = i3 24 from rfl) (by omega) (by omega) (by omega) (by omega))) (by omega) (by omega) (by omega))) (by omega) (by omega) (by omega) (by omega)) (fun h9 => ?_) (fun h9 => ?_)
    · replace hP := zE_p hP h9
      refine wz_i0 (i3O (n := 4400) (i3A (i3A (show (1210 : Int32) = i3 1210 from rfl) (i3M (show (12 : Int32) = i3 12 from rfl) (rfl : i3 a1 = i3 a1))) (show (3 : Int32) = i3 3 from rfl)) (by omega) (by omega) (by omega)) ?_
      refine wz_i0 (i3O (n := 4400) (i3A (i3A (show (1210 : Int32) = i3 1210 from rfl) (i3M (show (12 : Int32) = i3 12 from rfl) (rfl : i3 a1 = i3 a1))) (show (1 : Int32) = i3 1 from rfl)) (by omega) (by omega) (by omega)) ?_
      have r10 := zM_k hZ 2 0 0 (1213 + 12 * a1) (lo := 0) (hi := 40) (by decide) (zs_1210_3 (x := a1) (by omega) (by omega) (by omega))
      refine wz_br (i3Le (zm_rd (Z := Z) (ν := ν) (k := 2) (show ((0 : Nat) : Int) = 0 from rfl) (show ((0 : Nat) : Int) = 0 from rfl) (i3I (y := (1213 + 12 * a1)) (i3A (i3A (show (1210 : Int32) = i3 1210 from rfl) (i3M (show (12 : Int32) = i3 12 from rfl) (rfl : i3 a1 = i3 a1))) (show (3 : Int32) = i3 3 from rfl)) (by omega) (by omega) (by omega))) (zm_rd (Z := Z) (ν := ν) (k := 2) (show ((0 : Nat) : Int) = 0 from rfl) (show ((0 : Nat) : Int) = 0 from rfl) (i3I (y := (1300 + ((Z 2 0 0 0) / 24))) (i3A (show (1300 : Int32) = i3 1300 from rfl) (i3D (zm_rd (Z := Z) (ν := ν) (k := 2) (show ((0 : Nat) : Int) = 0 from rfl) (show ((0 : Nat) : Int) = 0 from rfl) (show ((0 : Nat) : Int) = 0 from rfl)) (show (24 : Int32) = i3 24 from rfl) (by omega) (by omega) (by omega) (by omega))) (by omega) (by omega) (by omega))) (by omega) (by omega) (by omega) (by omega)) (fun h11 => ?_) (fun h11 => ?_)
      · replace hP := zE_p hP h11
        have r12 := zM_k hZ 2 0 0 (1211 + 12 * a1) (lo := 0) (hi := 9) (by decide) (zs_1210_1 (x := a1) (by omega) (by omega) (by omega))
        refine wz_br (i3Le (i3S (zm_rd (Z := Z) (ν := ν) (k := 2) (show ((0 : Nat) : Int) = 0 from rfl) (show ((0 : Nat) : Int) = 0 from rfl) (i3I (y := (1300 + ((Z 2 0 0 0) / 24))) (i3A (show (1300 : Int32) = i3 1300 from rfl) (i3D (zm_rd (Z := Z) (ν := ν) (k := 2) (show ((0 : Nat) : Int) = 0 from rfl) (show ((0 : Nat) : Int) = 0 from rfl) (show ((0 : Nat) : Int) = 0 from rfl)) (show (24 : Int32) = i3 24 from rfl) (by omega) (by omega) (by omega) (by omega))) (by omega) (by omega) (by omega))) (zm_rd (Z := Z) (ν := ν) (k := 2) (show ((0 : Nat) : Int) = 0 from rfl) (show ((0 : Nat) : Int) = 0 from rfl) (i3I (y := (1211 + 12 * a1)) (i3A (i3A (show (1210 : Int32) = i3 1210 from rfl) (i3M (show (12 : Int32) = i3 12 from rfl) (rfl : i3 a1 = i3 a1))) (show (1 : Int32) = i3 1 from rfl)) (by omega) (by omega) (by omega)))) (zm_rd (Z := Z) (ν := ν) (k := 2) (show ((0 : Nat) : Int) = 0 from rfl) (show ((0 : Nat) : Int) = 0 from rfl) (i3I (y := (1213 + 12 * a1)) (i3A (i3A (show (1210 : Int32) = i3 1210 from rfl) (i3M (show (12 : Int32) = i3 12 from rfl) (rfl : i3 a1 = i3 a1))) (show (3 : Int32) = i3 3 from rfl)) (by omega) (by omega) (by omega))) (by omega) (by omega) (by omega) (by omega)) (fun h13 => ?_) (fun h13 => ?_)
        · replace hP := zE_p hP h13
          refine wz_i0 (i3O (n := 4400) (i3A (i3A (show (1210 : Int32) = i3 1210 from rfl) (i3M (show (12 : Int32) = i3 12 from rfl) (rfl : i3 a1 = i3 a1))) (show (5 : Int32) = i3 5 from rfl)) (by omega) (by omega) (by omega)) ?_
          obtain ⟨Z14, hZ14⟩ := zx (zu Z 2 0 0 (1215 + 12 * a1) (Z 2 0 0 (1213 + 12 * a1)))
          replace hP := zl_e hP hZ14
          have hZ14I := zM_u2 hZ hZ14 (lo := 0) (hi := 40) (zs_1210_5 (x := a1) (by omega) (by omega) (by omega)) (by omega) ⟨by decide, by decide⟩ (by simp only [zsp]; omega)
          have hZ14U : zU [] Z Z14 := zU_u zU_r hZ14 (Or.inl rfl)
          have hZ14K : zC [2] Z Z14 := zC_u zC_r hZ14 (zcl_2w (by omega) rfl)
          intro μ9 e9
          replace e9 := e9.trans (zm_wI (Z := Z) (ν := ν) hZ14 (show ((0 : Nat) : Int) = 0 from rfl) (show ((0 : Nat) : Int) = 0 from rfl) (i3I (y := (1215 + 12 * a1)) (i3A (i3A (show (1210 : Int32) = i3 1210 from rfl) (i3M (show (12 : Int32) = i3 12 from rfl) (rfl : i3 a1 = i3 a1))) (show (5 : Int32) = i3 5 from rfl)) (by omega) (by omega) (by omega)) (zm_rd (Z := Z) (ν := ν) (k := 2) (show ((0 : Nat) : Int) = 0 from rfl) (show ((0 : Nat) : Int) = 0 from rfl) (i3I (y := (1213 + 12 * a1)) (i3A (i3A (show (1210 : Int32) = i3 1210 from rfl) (i3M (show (12 : Int32) = i3 12 from rfl) (rfl : i3 a1 = i3 a1))) (show (3 : Int32) = i3 3 from rfl)) (by omega) (by omega) (by omega))))
          subst e9
          refine wz_i0 (i3O (n := 4400) (i3A (i3A (show (1210 : Int32) = i3 1210 from rfl) (i3M (show (12 : Int32) = i3 12 from rfl) (rfl : i3 a1 = i3 a1))) (show (7 : Int32) = i3 7 from rfl)) (by omega) (by omega) (by omega)) ?_
          refine wz_br (i3E (zm_rd (Z := Z) (ν := ν) (k := 2) (show ((0 : Nat) : Int) = 0 from rfl) (show ((0 : Nat) : Int) = 0 from rfl) (i3I (y := (1213 + 12 * a1)) (i3A (i3A (show (1210 : Int32) = i3 1210 from rfl) (i3M (show (12 : Int32) = i3 12 from rfl) (rfl : i3 a1 = i3 a1))) (show (3 : Int32) = i3 3 from rfl)) (by omega) (by omega) (by omega))) (zm_rd (Z := Z) (ν := ν) (k := 2) (show ((0 : Nat) : Int) = 0 from rfl) (show ((0 : Nat) : Int) = 0 from rfl) (i3I (y := (1300 + ((Z 2 0 0 0) / 24))) (i3A (show (1300 : Int32) = i3 1300 from rfl) (i3D (zm_rd (Z := Z) (ν := ν) (k := 2) (show ((0 : Nat) : Int) = 0 from rfl) (show ((0 : Nat) : Int) = 0 from rfl) (show ((0 : Nat) : Int) = 0 from rfl)) (show (24 : Int32) = i3 24 from rfl) (by omega) (by omega) (by omega) (by omega))) (by omega) (by omega) (by omega))) (by omega) (by omega) (by omega) (by omega)) (fun h15 => ?_) (fun h15 => ?_)
          · replace hP := zE_p hP h15
            refine wz_i0 (i3O (n := 4400) (i3A (i3A (show (1210 : Int32) = i3 1210 from rfl) (i3M (show (12 : Int32) = i3 12 from rfl) (rfl : i3 a1 = i3 a1))) (show (7 : Int32) = i3 7 from rfl)) (by omega) (by omega) (by omega)) ?_
            have r16 := zM_f hZ14I 2 0 0 (1217 + 12 * a1)
            obtain ⟨Z17, hZ17⟩ := zx (zu Z14 2 0 0 (1217 + 12 * a1) ((Z14 2 0 0 (1217 + 12 * a1)) + 0))
            replace hP := zl_e hP hZ17
            have hZ17I := zM_u2 hZ14I hZ17 (lo := -2147483648) (hi := 2147483647) (zs_1210_7 (x := a1) (by omega) (by omega) (by omega)) (by omega) ⟨by decide, by decide⟩ (by simp only [zsp]; omega)
            have hZ17U : zU [] Z Z17 := zU_u hZ14U hZ17 (Or.inl rfl)
            have hZ17K : zC [2] Z Z17 := zC_u hZ14K hZ17 (zcl_2w (by omega) rfl)
            intro μ9 e9
            replace e9 := e9.trans (zm_wI (Z := Z14) (ν := ν) hZ17 (show ((0 : Nat) : Int) = 0 from rfl) (show ((0 : Nat) : Int) = 0 from rfl) (i3I (y := (1217 + 12 * a1)) (i3A (i3A (show (1210 : Int32) = i3 1210 from rfl) (i3M (show (12 : Int32) = i3 12 from rfl) (rfl : i3 a1 = i3 a1))) (show (7 : Int32) = i3 7 from rfl)) (by omega) (by omega) (by omega)) (i3A (zm_rd (Z := Z14) (ν := ν) (k := 2) (show ((0 : Nat) : Int) = 0 from rfl) (show ((0 : Nat) : Int) = 0 from rfl) (i3I (y := (1217 + 12 * a1)) (i3A (i3A (show (1210 : Int32) = i3 1210 from rfl) (i3M (show (12 : Int32) = i3 12 from rfl) (rfl : i3 a1 = i3 a1))) (show (7 : Int32) = i3 7 from rfl)) (by omega) (by omega) (by omega))) (show (0 : Int32) = i3 0 from rfl)))
            subst e9
            refine wz_i0 (i3O (n := 4400) (i3A (i3A (show (1210 : Int32) = i3 1210 from rfl) (i3M (show (12 : Int32) = i3 12 from rfl) (rfl : i3 a1 = i3 a1))) (show (8 : Int32) = i3 8 from rfl)) (by omega) (by omega) (by omega)) ?_
            refine wz_br (i3E (zm_rd (Z := Z) (ν := ν) (k := 2) (show ((0 : Nat) : Int) = 0 from rfl) (show ((0 : Nat) : Int) = 0 from rfl) (i3I (y := (1213 + 12 * a1)) (i3A (i3A (show (1210 : Int32) = i3 1210 from rfl) (i3M (show (12 : Int32) = i3 12 from rfl) (rfl : i3 a1 = i3 a1))) (show (3 : Int32) = i3 3 from rfl)) (by omega) (by omega) (by omega))) (zm_rd (Z := Z) (ν := ν) (k := 2) (show ((0 : Nat) : Int) = 0 from rfl) (show ((0 : Nat) : Int) = 0 from rfl) (i3I (y := (1300 + ((Z 2 0 0 0) / 24))) (i3A (show (1300 : Int32) = i3 1300 from rfl) (i3D (zm_rd (Z := Z) (ν := ν) (k := 2) (show ((0 : Nat) : Int) = 0 from rfl) (show ((0 : Nat) : Int) = 0 from rfl) (show ((0 : Nat) : Int) = 0 from rfl)) (show (24 : Int32) = i3 24 from rfl) (by omega) (by omega) (by omega) (by omega))) (by omega) (by omega) (by omega))) (by omega) (by omega) (by omega) (by omega)) (fun h18 => ?_) (fun h18 => ?_)
            · replace hP := zE_p hP h18
              refine wz_i0 (i3O (n := 4400) (i3A (i3A (show (1210 : Int32) = i3 1210 from rfl) (i3M (show (12 : Int32) = i3 12 from rfl) (rfl : i3 a1 = i3 a1))) (show (8 : Int32) = i3 8 from rfl)) (by omega) (by omega) (by omega)) ?_
              have r19 := zM_f hZ17I 2 0 0 (1218 + 12 * a1)
              obtain ⟨Z20, hZ20⟩ := zx (zu Z17 2 0 0 (1218 + 12 * a1) ((Z17 2 0 0 (1218 + 12 * a1)) + 0))
              replace hP := zl_e hP hZ20
              have hZ20I := zM_u2 hZ17I hZ20 (lo := -2147483648) (hi := 2147483647) (zs_1210_8 (x := a1) (by omega) (by omega) (by omega)) (by omega) ⟨by decide, by decide⟩ (by simp only [zsp]; omega)
              have hZ20U : zU [] Z Z20 := zU_u hZ17U hZ20 (Or.inl rfl)
              have hZ20K : zC [2] Z Z20 := zC_u hZ17K hZ20 (zcl_2w (by omega) rfl)
              intro μ9 e9
              replace e9 := e9.trans (zm_wI (Z := Z17) (ν := ν) hZ20 (show ((0 : Nat) : Int) = 0 from rfl) (show ((0 : Nat) : Int) = 0 from rfl) (i3I (y := (1218 + 12 * a1)) (i3A (i3A (show (1210 : Int32) = i3 1210 from rfl) (i3M (show (12 : Int32) = i3 12 from rfl) (rfl : i3 a1 = i3 a1))) (show (8 : Int32) = i3 8 from rfl)) (by omega) (by omega) (by omega)) (i3A (zm_rd (Z := Z17) (ν := ν) (k := 2) (show ((0 : Nat) : Int) = 0 from rfl) (show ((0 : Nat) : Int) = 0 from rfl) (i3I (y := (1218 + 12 * a1)) (i3A (i3A (show (1210 : Int32) = i3 1210 from rfl) (i3M (show (12 : Int32) = i3 12 from rfl) (rfl : i3 a1 = i3 a1))) (show (8 : Int32) = i3 8 from rfl)) (by omega) (by omega) (by omega))) (show (0 : Int32) = i3 0 from rfl)))
              subst e9
              refine wz_i0 (i3O (n := 4400) (i3A (i3A (show (1210 : Int32) = i3 1210 from rfl) (i3M (show (12 : Int32) = i3 12 from rfl) (rfl : i3 a1 = i3 a1))) (show (6 : Int32) = i3 6 from rfl)) (by omega) (by omega) (by omega)) ?_
              obtain ⟨Z21, hZ21⟩ := zx (zu Z20 2 0 0 (1216 + 12 * a1) 0)
              replace hP := zl_e hP hZ21
              have hZ21I := zM_02 hZ20I hZ21 (by simp only [zsp]; omega)
              have hZ21U : zU [] Z Z21 := zU_u hZ20U hZ21 (Or.inl rfl)
              have hZ21K : zC [2] Z Z21 := zC_u hZ20K hZ21 (zcl_2w (by omega) rfl)
              intro μ9 e9
              replace e9 := e9.trans (zm_wI (Z := Z20) (ν := ν) hZ21 (show ((0 : Nat) : Int) = 0 from rfl) (show ((0 : Nat) : Int) = 0 from rfl) (i3I (y := (1216 + 12 * a1)) (i3A (i3A (show (1210 : Int32) = i3 1210 from rfl) (i3M (show (12 : Int32) = i3 12 from rfl) (rfl : i3 a1 = i3 a1))) (show (6 : Int32) = i3 6 from rfl)) (by omega) (by omega) (by omega)) (show (0 : Int32) = i3 0 from rfl))
              subst e9
              exact zlV hP ⟨hZ21I, hZ21K, hZ21U⟩
            · replace hP := zE_n hP h18
              refine wz_i0 (i3O (n := 4400) (i3A (i3A (show (1210 : Int32) = i3 1210 from rfl) (i3M (show (12 : Int32) = i3 12 from rfl) (rfl : i3 a1 = i3 a1))) (show (8 : Int32) = i3 8 from rfl)) (by omega) (by omega) (by omega)) ?_
              have r22 := zM_f hZ17I 2 0 0 (1218 + 12 * a1)
              have r23 := w3_r ((Z17 2 0 0 (1218 + 12 * a1)) + 1)
              obtain ⟨Z24, hZ24⟩ := zx (zu Z17 2 0 0 (1218 + 12 * a1) (w3 ((Z17 2 0 0 (1218 + 12 * a1)) + 1)))
              replace hP := zl_e hP hZ24
              have hZ24I := zM_u2 hZ17I hZ24 (lo := -2147483648) (hi := 2147483647) (zs_1210_8 (x := a1) (by omega) (by omega) (by omega)) (by omega) ⟨by decide, by decide⟩ (by simp only [zsp]; omega)
              have hZ24U : zU [] Z Z24 := zU_u hZ17U hZ24 (Or.inl rfl)
              have hZ24K : zC [2] Z Z24 := zC_u hZ17K hZ24 (zcl_2w (by omega) rfl)
              intro μ9 e9
              replace e9 := e9.trans (zm_wI (Z := Z17) (ν := ν) hZ24 (show ((0 : Nat) : Int) = 0 from rfl) (show ((0 : Nat) : Int) = 0 from rfl) (i3I (y := (1218 + 12 * a1)) (i3A (i3A (show (1210 : Int32) = i3 1210 from rfl) (i3M (show (12 : Int32) = i3 12 from rfl) (rfl : i3 a1 = i3 a1))) (show (8 : Int32) = i3 8 from rfl)) (by omega) (by omega) (by omega)) (i3W (i3A (zm_rd (Z := Z17) (ν := ν) (k := 2) (show ((0 : Nat) : Int) = 0 from rfl) (show ((0 : Nat) : Int) = 0 from rfl) (i3I (y := (1218 + 12 * a1)) (i3A (i3A (show (1210 : Int32) = i3 1210 from rfl) (i3M (show (12 : Int32) = i3 12 from rfl) (rfl : i3 a1 = i3 a1))) (show (8 : Int32) = i3 8 from rfl)) (by omega) (by omega) (by omega))) (show (1 : Int32) = i3 1 from rfl))))
              subst e9
              refine wz_i0 (i3O (n := 4400) (i3A (i3A (show (1210 : Int32) = i3 1210 from rfl) (i3M (show (12 : Int32) = i3 12 from rfl) (rfl : i3 a1 = i3 a1))) (show (6 : Int32) = i3 6 from rfl)) (by omega) (by omega) (by omega)) ?_
              obtain ⟨Z25, hZ25⟩ := zx (zu Z24 2 0 0 (1216 + 12 * a1) 0)
              replace hP := zl_e hP hZ25
              have hZ25I := zM_02 hZ24I hZ25 (by simp only [zsp]; omega)
              have hZ25U : zU [] Z Z25 := zU_u hZ24U hZ25 (Or.inl rfl)
              have hZ25K : zC [2] Z Z25 := zC_u hZ24K hZ25 (zcl_2w (by omega) rfl)
              intro μ9 e9
              replace e9 := e9.trans (zm_wI (Z := Z24) (ν := ν) hZ25 (show ((0 : Nat) : Int) = 0 from rfl) (show ((0 : Nat) : Int) = 0 from rfl) (i3I (y := (1216 + 12 * a1)) (i3A (i3A (show (1210 : Int32) = i3 1210 from rfl) (i3M (show (12 : Int32) = i3 12 from rfl) (rfl : i3 a1 = i3 a1))) (show (6 : Int32) = i3 6 from rfl)) (by omega) (by omega) (by omega)) (show (0 : Int32) = i3 0 from rfl))
              subst e9
              exact zlV hP ⟨hZ25I, hZ25K, hZ25U⟩
          · replace hP := zE_n hP h15
            refine wz_i0 (i3O (n := 4400) (i3A (i3A (show (1210 : Int32) = i3 1210 from rfl) (i3M (show (12 : Int32) = i3 12 from rfl) (rfl : i3 a1 = i3 a1))) (show (7 : Int32) = i3 7 from rfl)) (by omega) (by omega) (by omega)) ?_
            have r26 := zM_f hZ14I 2 0 0 (1217 + 12 * a1)
            have r27 := w3_r ((Z14 2 0 0 (1217 + 12 * a1)) + 1)
            obtain ⟨Z28, hZ28⟩ := zx (zu Z14 2 0 0 (1217 + 12 * a1) (w3 ((Z14 2 0 0 (1217 + 12 * a1)) + 1)))
            replace hP := zl_e hP hZ28
            have hZ28I := zM_u2 hZ14I hZ28 (lo := -2147483648) (hi := 2147483647) (zs_1210_7 (x := a1) (by omega) (by omega) (by omega)) (by omega) ⟨by decide, by decide⟩ (by simp only [zsp]; omega)
            have hZ28U : zU [] Z Z28 := zU_u hZ14U hZ28 (Or.inl rfl)
            have hZ28K : zC [2] Z Z28 := zC_u hZ14K hZ28 (zcl_2w (by omega) rfl)
            intro μ9 e9
            replace e9 := e9.trans (zm_wI (Z := Z14) (ν := ν) hZ28 (show ((0 : Nat) : Int) = 0 from rfl) (show ((0 : Nat) : Int) = 0 from rfl) (i3I (y := (1217 + 12 * a1)) (i3A (i3A (show (1210 : Int32) = i3 1210 from rfl) (i3M (show (12 : Int32) = i3 12 from rfl) (rfl : i3 a1 = i3 a1))) (show (7 : Int32) = i3 7 from rfl)) (by omega) (by omega) (by omega)) (i3W (i3A (zm_rd (Z := Z14) (ν := ν) (k := 2) (show ((0 : Nat) : Int) = 0 from rfl) (show ((0 : Nat) : Int) = 0 from rfl) (i3I (y := (1217 + 12 * a1)) (i3A (i3A (show (1210 : Int32) = i3 1210 from rfl) (i3M (show (12 : Int32) = i3 12 from rfl) (rfl : i3 a1 = i3 a1))) (show (7 : Int32) = i3 7 from rfl)) (by omega) (by omega) (by omega))) (show (1 : Int32) = i3 1 from rfl))))
            subst e9
            refine wz_i0 (i3O (n := 4400) (i3A (i3A (show (1210 : Int32) = i3 1210 from rfl) (i3M (show (12 : Int32) = i3 12 from rfl) (rfl : i3 a1 = i3 a1))) (show (8 : Int32) = i3 8 from rfl)) (by omega) (by omega) (by omega)) ?_
            refine wz_br (i3E (zm_rd (Z := Z) (ν := ν) (k := 2) (show ((0 : Nat) : Int) = 0 from rfl) (show ((0 : Nat) : Int) = 0 from rfl) (i3I (y := (1213 + 12 * a1)) (i3A (i3A (show (1210 : Int32) = i3 1210 from rfl) (i3M (show (12 : Int32) = i3 12 from rfl) (rfl : i3 a1 = i3 a1))) (show (3 : Int32) = i3 3 from rfl)) (by omega) (by omega) (by omega))) (zm_rd (Z := Z) (ν := ν) (k := 2) (show ((0 : Nat) : Int) = 0 from rfl) (show ((0 : Nat) : Int) = 0 from rfl) (i3I (y := (1300 + ((Z 2 0 0 0) / 24))) (i3A (show (1300 : Int32) = i3 1300 from rfl) (i3D (zm_rd (Z := Z) (ν := ν) (k := 2) (show ((0 : Nat) : Int) = 0 from rfl) (show ((0 : Nat) : Int) = 0 from rfl) (show ((0 : Nat) : Int) = 0 from rfl)) (show (24 : Int32) = i3 24 from rfl) (by omega) (by omega) (by omega) (by omega))) (by omega) (by omega) (by omega))) (by omega) (by omega) (by omega) (by omega)) (fun h29 => ?_) (fun h29 => ?_)
            · replace hP := zE_p hP h29
              refine wz_i0 (i3O (n := 4400) (i3A (i3A (show (1210 : Int32) = i3 1210 from rfl) (i3M (show (12 : Int32) = i3 12 from rfl) (rfl : i3 a1 = i3 a1))) (show (8 : Int32) = i3 8 from rfl)) (by omega) (by omega) (by omega)) ?_
              have r30 := zM_f hZ28I 2 0 0 (1218 + 12 * a1)
              obtain ⟨Z31, hZ31⟩ := zx (zu Z28 2 0 0 (1218 + 12 * a1) ((Z28 2 0 0 (1218 + 12 * a1)) + 0))
              replace hP := zl_e hP hZ31
              have hZ31I := zM_u2 hZ28I hZ31 (lo := -2147483648) (hi := 2147483647) (zs_1210_8 (x := a1) (by omega) (by omega) (by omega)) (by omega) ⟨by decide, by decide⟩ (by simp only [zsp]; omega)
              have hZ31U : zU [] Z Z31 := zU_u hZ28U hZ31 (Or.inl rfl)
              have hZ31K : zC [2] Z Z31 := zC_u hZ28K hZ31 (zcl_2w (by omega) rfl)
              intro μ9 e9
              replace e9 := e9.trans (zm_wI (Z := Z28) (ν := ν) hZ31 (show ((0 : Nat) : Int) = 0 from rfl) (show ((0 : Nat) : Int) = 0 from rfl) (i3I (y := (1218 + 12 * a1)) (i3A (i3A (show (1210 : Int32) = i3 1210 from rfl) (i3M (show (12 : Int32) = i3 12 from rfl) (rfl : i3 a1 = i3 a1))) (show (8 : Int32) = i3 8 from rfl)) (by omega) (by omega) (by omega)) (i3A (zm_rd (Z := Z28) (ν := ν) (k := 2) (show ((0 : Nat) : Int) = 0 from rfl) (show ((0 : Nat) : Int) = 0 from rfl) (i3I (y := (1218 + 12 * a1)) (i3A (i3A (show (1210 : Int32) = i3 1210 from rfl) (i3M (show (12 : Int32) = i3 12 from rfl) (rfl : i3 a1 = i3 a1))) (show (8 : Int32) = i3 8 from rfl)) (by omega) (by omega) (by omega))) (show (0 : Int32) = i3 0 from rfl)))
              subst e9
              refine wz_i0 (i3O (n := 4400) (i3A (i3A (show (1210 : Int32) = i3 1210 from rfl) (i3M (show (12 : Int32) = i3 12 from rfl) (rfl : i3 a1 = i3 a1))) (show (6 : Int32) = i3 6 from rfl)) (by omega) (by omega) (by omega)) ?_
              obtain ⟨Z32, hZ32⟩ := zx (zu Z31 2 0 0 (1216 + 12 * a1) 0)
              replace hP := zl_e hP hZ32
              have hZ32I := zM_02 hZ31I hZ32 (by simp only [zsp]; omega)
              have hZ32U : zU [] Z Z32 := zU_u hZ31U hZ32 (Or.inl rfl)
              have hZ32K : zC [2] Z Z32 := zC_u hZ31K hZ32 (zcl_2w (by omega) rfl)
              intro μ9 e9
              replace e9 := e9.trans (zm_wI (Z := Z31) (ν := ν) hZ32 (show ((0 : Nat) : Int) = 0 from rfl) (show ((0 : Nat) : Int) = 0 from rfl) (i3I (y := (1216 + 12 * a1)) (i3A (i3A (show (1210 : Int32) = i3 1210 from rfl) (i3M (show (12 : Int32) = i3 12 from rfl) (rfl : i3 a1 = i3 a1))) (show (6 : Int32) = i3 6 from rfl)) (by omega) (by omega) (by omega)) (show (0 : Int32) = i3 0 from rfl))
              subst e9
              exact zlV hP ⟨hZ32I, hZ32K, hZ32U⟩
            · replace hP := zE_n hP h29
              refine wz_i0 (i3O (n := 4400) (i3A (i3A (show (1210 : Int32) = i3 1210 from rfl) (i3M (show (12 : Int32) = i3 12 from rfl) (rfl : i3 a1 = i3 a1))) (show (8 : Int32) = i3 8 from rfl)) (by omega) (by omega) (by omega)) ?_
              have r33 := zM_f hZ28I 2 0 0 (1218 + 12 * a1)
              have r34 := w3_r ((Z28 2 0 0 (1218 + 12 * a1)) + 1)
              obtain ⟨Z35, hZ35⟩ := zx (zu Z28 2 0 0 (1218 + 12 * a1) (w3 ((Z28 2 0 0 (1218 + 12 * a1)) + 1)))
              replace hP := zl_e hP hZ35
              have hZ35I := zM_u2 hZ28I hZ35 (lo := -2147483648) (hi := 2147483647) (zs_1210_8 (x := a1) (by omega) (by omega) (by omega)) (by omega) ⟨by decide, by decide⟩ (by simp only [zsp]; omega)
              have hZ35U : zU [] Z Z35 := zU_u hZ28U hZ35 (Or.inl rfl)
              have hZ35K : zC [2] Z Z35 := zC_u hZ28K hZ35 (zcl_2w (by omega) rfl)
              intro μ9 e9
              replace e9 := e9.trans (zm_wI (Z := Z28) (ν := ν) hZ35 (show ((0 : Nat) : Int) = 0 from rfl) (show ((0 : Nat) : Int) = 0 from rfl) (i3I (y := (1218 + 12 * a1)) (i3A (i3A (show (1210 : Int32) = i3 1210 from rfl) (i3M (show (12 : Int32) = i3 12 from rfl) (rfl : i3 a1 = i3 a1))) (show (8 : Int32) = i3 8 from rfl)) (by omega) (by omega) (by omega)) (i3W (i3A (zm_rd (Z := Z28) (ν := ν) (k := 2) (show ((0 : Nat) : Int) = 0 from rfl) (show ((0 : Nat) : Int) = 0 from rfl) (i3I (y := (1218 + 12 * a1)) (i3A (i3A (show (1210 : Int32) = i3 1210 from rfl) (i3M (show (12 : Int32) = i3 12 from rfl) (rfl : i3 a1 = i3 a1))) (show (8 : Int32) = i3 8 from rfl)) (by omega) (by omega) (by omega))) (show (1 : Int32) = i3 1 from rfl))))
              subst e9
              refine wz_i0 (i3O (n := 4400) (i3A (i3A (show (1210 : Int32) = i3 1210 from rfl) (i3M (show (12 : Int32) = i3 12 from rfl) (rfl : i3 a1 = i3 a1))) (show (6 : Int32) = i3 6 from rfl)) (by omega) (by omega) (by omega)) ?_
              obtain ⟨Z36, hZ36⟩ := zx (zu Z35 2 0 0 (1216 + 12 * a1) 0)
              replace hP := zl_e hP hZ36
              have hZ36I := zM_02 hZ35I hZ36 (by simp only [zsp]; omega)
              have hZ36U : zU [] Z Z36 := zU_u hZ35U hZ36 (Or.inl rfl)
              have hZ36K : zC [2] Z Z36 := zC_u hZ35K hZ36 (zcl_2w (by omega) rfl)
              intro μ9 e9
              replace e9 := e9.trans (zm_wI (Z := Z35) (ν := ν) hZ36 (show ((0 : Nat) : Int) = 0 from rfl) (show ((0 : Nat) : Int) = 0 from rfl) (i3I (y := (1216 + 12 * a1)) (i3A (i3A (show (1210 : Int32) = i3 1210 from rfl) (i3M (show (12 : Int32) = i3 12 from rfl) (rfl : i3 a1 = i3 a1))) (show (6 : Int32) = i3 6 from rfl)) (by omega) (by omega) (by omega)) (show (0 : Int32) = i3 0 from rfl))
              subst e9
              exact zlV hP ⟨hZ36I, hZ36K, hZ36U⟩
        · replace hP := zE_n hP h13
          refine wz_i0 (i3O (n := 4400) (i3A (i3A (show (1210 : Int32) = i3 1210 from rfl) (i3M (show (12 : Int32) = i3 12 from rfl) (rfl : i3 a1 = i3 a1))) (show (5 : Int32) = i3 5 from rfl)) (by omega) (by omega) (by omega)) ?_
          obtain ⟨Z37, hZ37⟩ := zx (zu Z 2 0 0 (1215 + 12 * a1) ((Z 2 0 0 (1300 + ((Z 2 0 0 0) / 24))) - (Z 2 0 0 (1211 + 12 * a1))))
          replace hP := zl_e hP hZ37
          have hZ37I := zM_u2 hZ hZ37 (lo := 0) (hi := 40) (zs_1210_5 (x := a1) (by omega) (by omega) (by omega)) (by omega) ⟨by decide, by decide⟩ (by simp only [zsp]; omega)
          have hZ37U : zU [] Z Z37 := zU_u zU_r hZ37 (Or.inl rfl)
          have hZ37K : zC [2] Z Z37 := zC_u zC_r hZ37 (zcl_2w (by omega) rfl)
          intro μ9 e9
          replace e9 := e9.trans (zm_wI (Z := Z) (ν := ν) hZ37 (show ((0 : Nat) : Int) = 0 from rfl) (show ((0 : Nat) : Int) = 0 from rfl) (i3I (y := (1215 + 12 * a1)) (i3A (i3A (show (1210 : Int32) = i3 1210 from rfl) (i3M (show (12 : Int32) = i3 12 from rfl) (rfl : i3 a1 = i3 a1))) (show (5 : Int32) = i3 5 from rfl)) (by omega) (by omega) (by omega)) (i3S (zm_rd (Z := Z) (ν := ν) (k := 2) (show ((0 : Nat) : Int) = 0 from rfl) (show ((0 : Nat) : Int) = 0 from rfl) (i3I (y := (1300 + ((Z 2 0 0 0) / 24))) (i3A (show (1300 : Int32) = i3 1300 from rfl) (i3D (zm_rd (Z := Z) (ν := ν) (k := 2) (show ((0 : Nat) : Int) = 0 from rfl) (show ((0 : Nat) : Int) = 0 from rfl) (show ((0 : Nat) : Int) = 0 from rfl)) (show (24 : Int32) = i3 24 from rfl) (by omega) (by omega) (by omega) (by omega))) (by omega) (by omega) (by omega))) (zm_rd (Z := Z) (ν := ν) (k := 2) (show ((0 : Nat) : Int) = 0 from rfl) (show ((0 : Nat) : Int) = 0 from rfl) (i3I (y := (1211 + 12 * a1)) (i3A (i3A (show (1210 : Int32) = i3 1210 from rfl) (i3M (show (12 : Int32) = i3 12 from rfl) (rfl : i3 a1 = i3 a1))) (show (1 : Int32) = i3 1 from rfl)) (by omega) (by omega) (by omega)))))
          subst e9
          refine wz_i0 (i3O (n := 4400) (i3A (i3A (show (1210 : Int32) = i3 1210 from rfl) (i3M (show (12 : Int32) = i3 12 from rfl) (rfl : i3 a1 = i3 a1))) (show (7 : Int32) = i3 7 from rfl)) (by omega) (by omega) (by omega)) ?_
          refine wz_br (i3E (i3S (zm_rd (Z := Z) (ν := ν) (k := 2) (show ((0 : Nat) : Int) = 0 from rfl) (show ((0 : Nat) : Int) = 0 from rfl) (i3I (y := (1300 + ((Z 2 0 0 0) / 24))) (i3A (show (1300 : Int32) = i3 1300 from rfl) (i3D (zm_rd (Z := Z) (ν := ν) (k := 2) (show ((0 : Nat) : Int) = 0 from rfl) (show ((0 : Nat) : Int) = 0 from rfl) (show ((0 : Nat) : Int) = 0 from rfl)) (show (24 : Int32) = i3 24 from rfl) (by omega) (by omega) (by omega) (by omega))) (by omega) (by omega) (by omega))) (zm_rd (Z := Z) (ν := ν) (k := 2) (show ((0 : Nat) : Int) = 0 from rfl) (show ((0 : Nat) : Int) = 0 from rfl) (i3I (y := (1211 + 12 * a1)) (i3A (i3A (show (1210 : Int32) = i3 1210 from rfl) (i3M (show (12 : Int32) = i3 12 from rfl) (rfl : i3 a1 = i3 a1))) (show (1 : Int32) = i3 1 from rfl)) (by omega) (by omega) (by omega)))) (zm_rd (Z := Z) (ν := ν) (k := 2) (show ((0 : Nat) : Int) = 0 from rfl) (show ((0 : Nat) : Int) = 0 from rfl) (i3I (y := (1300 + ((Z 2 0 0 0) / 24))) (i3A (show (1300 : Int32) = i3 1300 from rfl) (i3D (zm_rd (Z := Z) (ν := ν) (k := 2) (show ((0 : Nat) : Int) = 0 from rfl) (show ((0 : Nat) : Int) = 0 from rfl) (show ((0 : Nat) : Int) = 0 from rfl)) (show (24 : Int32) = i3 24 from rfl) (by omega) (by omega) (by omega) (by omega))) (by omega) (by omega) (by omega))) (by omega) (by omega) (by omega) (by omega)) (fun h38 => ?_) (fun h38 => ?_)
          · replace hP := zE_p hP h38
            refine wz_i0 (i3O (n := 4400) (i3A (i3A (show (1210 : Int32) = i3 1210 from rfl) (i3M (show (12 : Int32) = i3 12 from rfl) (rfl : i3 a1 = i3 a1))) (show (7 : Int32) = i3 7 from rfl)) (by omega) (by omega) (by omega)) ?_
            have r39 := zM_f hZ37I 2 0 0 (1217 + 12 * a1)
            obtain ⟨Z40, hZ40⟩ := zx (zu Z37 2 0 0 (1217 + 12 * a1) ((Z37 2 0 0 (1217 + 12 * a1)) + 0))
            replace hP := zl_e hP hZ40
            have hZ40I := zM_u2 hZ37I hZ40 (lo := -2147483648) (hi := 2147483647) (zs_1210_7 (x := a1) (by omega) (by omega) (by omega)) (by omega) ⟨by decide, by decide⟩ (by simp only [zsp]; omega)
            have hZ40U : zU [] Z Z40 := zU_u hZ37U hZ40 (Or.inl rfl)
            have hZ40K : zC [2] Z Z40 := zC_u hZ37K hZ40 (zcl_2w (by omega) rfl)
            intro μ9 e9
            replace e9 := e9.trans (zm_wI (Z := Z37) (ν := ν) hZ40 (show ((0 : Nat) : Int) = 0 from rfl) (show ((0 : Nat) : Int) = 0 from rfl) (i3I (y := (1217 + 12 * a1)) (i3A (i3A (show (1210 : Int32) = i3 1210 from rfl) (i3M (show (12 : Int32) = i3 12 from rfl) (rfl : i3 a1 = i3 a1))) (show (7 : Int32) = i3 7 from rfl)) (by omega) (by omega) (by omega)) (i3A (zm_rd (Z := Z37) (ν := ν) (k := 2) (show ((0 : Nat) : Int) = 0 from rfl) (show ((0 : Nat) : Int) = 0 from rfl) (i3I (y := (1217 + 12 * a1)) (i3A (i3A (show (1210 : Int32) = i3 1210 from rfl) (i3M (show (12 : Int32) = i3 12 from rfl) (rfl : i3 a1 = i3 a1))) (show (7 : Int32) = i3 7 from rfl)) (by omega) (by omega) (by omega))) (show (0 : Int32) = i3 0 from rfl)))
            subst e9
            refine wz_i0 (i3O (n := 4400) (i3A (i3A (show (1210 : Int32) = i3 1210 from rfl) (i3M (show (12 : Int32) = i3 12 from rfl) (rfl : i3 a1 = i3 a1))) (show (8 : Int32) = i3 8 from rfl)) (by omega) (by omega) (by omega)) ?_
            refine wz_i1 (Eq.trans (i3E (i3S (zm_rd (Z := Z) (ν := ν) (k := 2) (show ((0 : Nat) : Int) = 0 from rfl) (show ((0 : Nat) : Int) = 0 from rfl) (i3I (y := (1300 + ((Z 2 0 0 0) / 24))) (i3A (show (1300 : Int32) = i3 1300 from rfl) (i3D (zm_rd (Z := Z) (ν := ν) (k := 2) (show ((0 : Nat) : Int) = 0 from rfl) (show ((0 : Nat) : Int) = 0 from rfl) (show ((0 : Nat) : Int) = 0 from rfl)) (show (24 : Int32) = i3 24 from rfl) (by omega) (by omega) (by omega) (by omega))) (by omega) (by omega) (by omega))) (zm_rd (Z := Z) (ν := ν) (k := 2) (show ((0 : Nat) : Int) = 0 from rfl) (show ((0 : Nat) : Int) = 0 from rfl) (i3I (y := (1211 + 12 * a1)) (i3A (i3A (show (1210 : Int32) = i3 1210 from rfl) (i3M (show (12 : Int32) = i3 12 from rfl) (rfl : i3 a1 = i3 a1))) (show (1 : Int32) = i3 1 from rfl)) (by omega) (by omega) (by omega)))) (zm_rd (Z := Z) (ν := ν) (k := 2) (show ((0 : Nat) : Int) = 0 from rfl) (show ((0 : Nat) : Int) = 0 from rfl) (i3I (y := (1300 + ((Z 2 0 0 0) / 24))) (i3A (show (1300 : Int32) = i3 1300 from rfl) (i3D (zm_rd (Z := Z) (ν := ν) (k := 2) (show ((0 : Nat) : Int) = 0 from rfl) (show ((0 : Nat) : Int) = 0 from rfl) (show ((0 : Nat) : Int) = 0 from rfl)) (show (24 : Int32) = i3 24 from rfl) (by omega) (by omega) (by omega) (by omega))) (by omega) (by omega) (by omega))) (by omega) (by omega) (by omega) (by omega)) (decide_eq_true (by omega))) ?_
            refine wz_i0 (i3O (n := 4400) (i3A (i3A (show (1210 : Int32) = i3 1210 from rfl) (i3M (show (12 : Int32) = i3 12 from rfl) (rfl : i3 a1 = i3 a1))) (show (8 : Int32) = i3 8 from rfl)) (by omega) (by omega) (by omega)) ?_
            have r41 := zM_f hZ40I 2 0 0 (1218 + 12 * a1)
            obtain ⟨Z42, hZ42⟩ := zx (zu Z40 2 0 0 (1218 + 12 * a1) ((Z40 2 0 0 (1218 + 12 * a1)) + 0))
            replace hP := zl_e hP hZ42
            have hZ42I := zM_u2 hZ40I hZ42 (lo := -2147483648) (hi := 2147483647) (zs_1210_8 (x := a1) (by omega) (by omega) (by omega)) (by omega) ⟨by decide, by decide⟩ (by simp only [zsp]; omega)
            have hZ42U : zU [] Z Z42 := zU_u hZ40U hZ42 (Or.inl rfl)
            have hZ42K : zC [2] Z Z42 := zC_u hZ40K hZ42 (zcl_2w (by omega) rfl)
            intro μ9 e9
            replace e9 := e9.trans (zm_wI (Z := Z40) (ν := ν) hZ42 (show ((0 : Nat) : Int) = 0 from rfl) (show ((0 : Nat) : Int) = 0 from rfl) (i3I (y := (1218 + 12 * a1)) (i3A (i3A (show (1210 : Int32) = i3 1210 from rfl) (i3M (show (12 : Int32) = i3 12 from rfl) (rfl : i3 a1 = i3 a1))) (show (8 : Int32) = i3 8 from rfl)) (by omega) (by omega) (by omega)) (i3A (zm_rd (Z := Z40) (ν := ν) (k := 2) (show ((0 : Nat) : Int) = 0 from rfl) (show ((0 : Nat) : Int) = 0 from rfl) (i3I (y := (1218 + 12 * a1)) (i3A (i3A (show (1210 : Int32) = i3 1210 from rfl) (i3M (show (12 : Int32) = i3 12 from rfl) (rfl : i3 a1 = i3 a1))) (show (8 : Int32) = i3 8 from rfl)) (by omega) (by omega) (by omega))) (show (0 : Int32) = i3 0 from rfl)))
            subst e9
            refine wz_i0 (i3O (n := 4400) (i3A (i3A (show (1210 : Int32) = i3 1210 from rfl) (i3M (show (12 : Int32) = i3 12 from rfl) (rfl : i3 a1 = i3 a1))) (show (6 : Int32) = i3 6 from rfl)) (by omega) (by omega) (by omega)) ?_
            obtain ⟨Z43, hZ43⟩ := zx (zu Z42 2 0 0 (1216 + 12 * a1) 0)
            replace hP := zl_e hP hZ43
            have hZ43I := zM_02 hZ42I hZ43 (by simp only [zsp]; omega)
            have hZ43U : zU [] Z Z43 := zU_u hZ42U hZ43 (Or.inl rfl)
            have hZ43K : zC [2] Z Z43 := zC_u hZ42K hZ43 (zcl_2w (by omega) rfl)
            intro μ9 e9
            replace e9 := e9.trans (zm_wI (Z := Z42) (ν := ν) hZ43 (show ((0 : Nat) : Int) = 0 from rfl) (show ((0 : Nat) : Int) = 0 from rfl) (i3I (y := (1216 + 12 * a1)) (i3A (i3A (show (1210 : Int32) = i3 1210 from rfl) (i3M (show (12 : Int32) = i3 12 from rfl) (rfl : i3 a1 = i3 a1))) (show (6 : Int32) = i3 6 from rfl)) (by omega) (by omega) (by omega)) (show (0 : Int32) = i3 0 from rfl))
            subst e9
            exact zlV hP ⟨hZ43I, hZ43K, hZ43U⟩
          · replace hP := zE_n hP h38
            refine wz_i0 (i3O (n := 4400) (i3A (i3A (show (1210 : Int32) = i3 1210 from rfl) (i3M (show (12 : Int32) = i3 12 from rfl) (rfl : i3 a1 = i3 a1))) (show (7 : Int32) = i3 7 from rfl)) (by omega) (by omega) (by omega)) ?_
            have r44 := zM_f hZ37I 2 0 0 (1217 + 12 * a1)
            have r45 := w3_r ((Z37 2 0 0 (1217 + 12 * a1)) + 1)
            obtain ⟨Z46, hZ46⟩ := zx (zu Z37 2 0 0 (1217 + 12 * a1) (w3 ((Z37 2 0 0 (1217 + 12 * a1)) + 1)))
            replace hP := zl_e hP hZ46
            have hZ46I := zM_u2 hZ37I hZ46 (lo := -2147483648) (hi := 2147483647) (zs_1210_7 (x := a1) (by omega) (by omega) (by omega)) (by omega) ⟨by decide, by decide⟩ (by simp only [zsp]; omega)
            have hZ46U : zU [] Z Z46 := zU_u hZ37U hZ46 (Or.inl rfl)
            have hZ46K : zC [2] Z Z46 := zC_u hZ37K hZ46 (zcl_2w (by omega) rfl)
            intro μ9 e9
            replace e9 := e9.trans (zm_wI (Z := Z37) (ν := ν) hZ46 (show ((0 : Nat) : Int) = 0 from rfl) (show ((0 : Nat) : Int) = 0 from rfl) (i3I (y := (1217 + 12 * a1)) (i3A (i3A (show (1210 : Int32) = i3 1210 from rfl) (i3M (show (12 : Int32) = i3 12 from rfl) (rfl : i3 a1 = i3 a1))) (show (7 : Int32) = i3 7 from rfl)) (by omega) (by omega) (by omega)) (i3W (i3A (zm_rd (Z := Z37) (ν := ν) (k := 2) (show ((0 : Nat) : Int) = 0 from rfl) (show ((0 : Nat) : Int) = 0 from rfl) (i3I (y := (1217 + 12 * a1)) (i3A (i3A (show (1210 : Int32) = i3 1210 from rfl) (i3M (show (12 : Int32) = i3 12 from rfl) (rfl : i3 a1 = i3 a1))) (show (7 : Int32) = i3 7 from rfl)) (by omega) (by omega) (by omega))) (show (1 : Int32) = i3 1 from rfl))))
            subst e9
            refine wz_i0 (i3O (n := 4400) (i3A (i3A (show (1210 : Int32) = i3 1210 from rfl) (i3M (show (12 : Int32) = i3 12 from rfl) (rfl : i3 a1 = i3 a1))) (show (8 : Int32) = i3 8 from rfl)) (by omega) (by omega) (by omega)) ?_
            refine wz_i0 (Eq.trans (i3E (i3S (zm_rd (Z := Z) (ν := ν) (k := 2) (show ((0 : Nat) : Int) = 0 from rfl) (show ((0 : Nat) : Int) = 0 from rfl) (i3I (y := (1300 + ((Z 2 0 0 0) / 24))) (i3A (show (1300 : Int32) = i3 1300 from rfl) (i3D (zm_rd (Z := Z) (ν := ν) (k := 2) (show ((0 : Nat) : Int) = 0 from rfl) (show ((0 : Nat) : Int) = 0 from rfl) (show ((0 : Nat) : Int) = 0 from rfl)) (show (24 : Int32) = i3 24 from rfl) (by omega) (by omega) (by omega) (by omega))) (by omega) (by omega) (by omega))) (zm_rd (Z := Z) (ν := ν) (k := 2) (show ((0 : Nat) : Int) = 0 from rfl) (show ((0 : Nat) : Int) = 0 from rfl) (i3I (y := (1211 + 12 * a1)) (i3A (i3A (show (1210 : Int32) = i3 1210 from rfl) (i3M (show (12 : Int32) = i3 12 from rfl) (rfl : i3 a1 = i3 a1))) (show (1 : Int32) = i3 1 from rfl)) (by omega) (by omega) (by omega)))) (zm_rd (Z := Z) (ν := ν) (k := 2) (show ((0 : Nat) : Int) = 0 from rfl) (show ((0 : Nat) : Int) = 0 from rfl) (i3I (y := (1300 + ((Z 2 0 0 0) / 24))) (i3A (show (1300 : Int32) = i3 1300 from rfl) (i3D (zm_rd (Z := Z) (ν := ν) (k := 2) (show ((0 : Nat) : Int) = 0 from rfl) (show ((0 : Nat) : Int) = 0 from rfl) (show ((0 : Nat) : Int) = 0 from rfl)) (show (24 : Int32) = i3 24 from rfl) (by omega) (by omega) (by omega) (by omega))) (by omega) (by omega) (by omega))) (by omega) (by omega) (by omega) (by omega)) (decide_eq_false (by omega))) ?_
            refine wz_i0 (i3O (n := 4400) (i3A (i3A (show (1210 : Int32) = i3 1210 from rfl) (i3M (show (12 : Int32) = i3 12 from rfl) (rfl : i3 a1 = i3 a1))) (show (8 : Int32) = i3 8 from rfl)) (by omega) (by omega) (by omega)) ?_
            have r47 := zM_f hZ46I 2 0 0 (1218 + 12 * a1)
            have r48 := w3_r ((Z46 2 0 0 (1218 + 12 * a1)) + 1)
            obtain ⟨Z49, hZ49⟩ := zx (zu Z46 2 0 0 (1218 + 12 * a1) (w3 ((Z46 2 0 0 (1218 + 12 * a1)) + 1)))
            replace hP := zl_e hP hZ49
            have hZ49I := zM_u2 hZ46I hZ49 (lo := -2147483648) (hi := 2147483647) (zs_1210_8 (x := a1) (by omega) (by omega) (by omega)) (by omega) ⟨by decide, by decide⟩ (by simp only [zsp]; omega)
            have hZ49U : zU [] Z Z49 := zU_u hZ46U hZ49 (Or.inl rfl)
            have hZ49K : zC [2] Z Z49 := zC_u hZ46K hZ49 (zcl_2w (by omega) rfl)
            intro μ9 e9
            replace e9 := e9.trans (zm_wI (Z := Z46) (ν := ν) hZ49 (show ((0 : Nat) : Int) = 0 from rfl) (show ((0 : Nat) : Int) = 0 from rfl) (i3I (y := (1218 + 12 * a1)) (i3A (i3A (show (1210 : Int32) = i3 1210 from rfl) (i3M (show (12 : Int32) = i3 12 from rfl) (rfl : i3 a1 = i3 a1))) (show (8 : Int32) = i3 8 from rfl)) (by omega) (by omega) (by omega)) (i3W (i3A (zm_rd (Z := Z46) (ν := ν) (k := 2) (show ((0 : Nat) : Int) = 0 from rfl) (show ((0 : Nat) : Int) = 0 from rfl) (i3I (y := (1218 + 12 * a1)) (i3A (i3A (show (1210 : Int32) = i3 1210 from rfl) (i3M (show (12 : Int32) = i3 12 from rfl) (rfl : i3 a1 = i3 a1))) (show (8 : Int32) = i3 8 from rfl)) (by omega) (by omega) (by omega))) (show (1 : Int32) = i3 1 from rfl))))
            subst e9
            refine wz_i0 (i3O (n := 4400) (i3A (i3A (show (1210 : Int32) = i3 1210 from rfl) (i3M (show (12 : Int32) = i3 12 from rfl) (rfl : i3 a1 = i3 a1))) (show (6 : Int32) = i3 6 from rfl)) (by omega) (by omega) (by omega)) ?_
            obtain ⟨Z50, hZ50⟩ := zx (zu Z49 2 0 0 (1216 + 12 * a1) 0)
            replace hP := zl_e hP hZ50
            have hZ50I := zM_02 hZ49I hZ50 (by simp only [zsp]; omega)
            have hZ50U : zU [] Z Z50 := zU_u hZ49U hZ50 (Or.inl rfl)
            have hZ50K : zC [2] Z Z50 := zC_u hZ49K hZ50 (zcl_2w (by omega) rfl)
            intro μ9 e9
            replace e9 := e9.trans (zm_wI (Z := Z49) (ν := ν) hZ50 (show ((0 : Nat) : Int) = 0 from rfl) (show ((0 : Nat) : Int) = 0 from rfl) (i3I (y := (1216 + 12 * a1)) (i3A (i3A (show (1210 : Int32) = i3 1210 from rfl) (i3M (show (12 : Int32) = i3 12 from rfl) (rfl : i3 a1 = i3 a1))) (show (6 : Int32) = i3 6 from rfl)) (by omega) (by omega) (by omega)) (show (0 : Int32) = i3 0 from rfl))
            subst e9
            exact zlV hP ⟨hZ50I, hZ50K, hZ50U⟩
      · replace hP := zE_n hP h11
        have r51 := zM_k hZ 2 0 0 (1211 + 12 * a1) (lo := 0) (hi := 9) (by decide) (zs_1210_1 (x := a1) (by omega) (by omega) (by omega))
        refine wz_br (i3Le (zm_rd (Z := Z) (ν := ν) (k := 2) (show ((0 : Nat) : Int) = 0 from rfl) (show ((0 : Nat) : Int) = 0 from rfl) (i3I (y := (1213 + 12 * a1)) (i3A (i3A (show (1210 : Int32) = i3 1210 from rfl) (i3M (show (12 : Int32) = i3 12 from rfl) (rfl : i3 a1 = i3 a1))) (show (3 : Int32) = i3 3 from rfl)) (by omega) (by omega) (by omega))) (i3A (zm_rd (Z := Z) (ν := ν) (k := 2) (show ((0 : Nat) : Int) = 0 from rfl) (show ((0 : Nat) : Int) = 0 from rfl) (i3I (y := (1300 + ((Z 2 0 0 0) / 24))) (i3A (show (1300 : Int32) = i3 1300 from rfl) (i3D (zm_rd (Z := Z) (ν := ν) (k := 2) (show ((0 : Nat) : Int) = 0 from rfl) (show ((0 : Nat) : Int) = 0 from rfl) (show ((0 : Nat) : Int) = 0 from rfl)) (show (24 : Int32) = i3 24 from rfl) (by omega) (by omega) (by omega) (by omega))) (by omega) (by omega) (by omega))) (zm_rd (Z := Z) (ν := ν) (k := 2) (show ((0 : Nat) : Int) = 0 from rfl) (show ((0 : Nat) : Int) = 0 from rfl) (i3I (y := (1211 + 12 * a1)) (i3A (i3A (show (1210 : Int32) = i3 1210 from rfl) (i3M (show (12 : Int32) = i3 12 from rfl) (rfl : i3 a1 = i3 a1))) (show (1 : Int32) = i3 1 from rfl)) (by omega) (by omega) (by omega)))) (by omega) (by omega) (by omega) (by omega)) (fun h52 => ?_) (fun h52 => ?_)
        · replace hP := zE_p hP h52
          refine wz_i0 (i3O (n := 4400) (i3A (i3A (show (1210 : Int32) = i3 1210 from rfl) (i3M (show (12 : Int32) = i3 12 from rfl) (rfl : i3 a1 = i3 a1))) (show (5 : Int32) = i3 5 from rfl)) (by omega) (by omega) (by omega)) ?_
          obtain ⟨Z53, hZ53⟩ := zx (zu Z 2 0 0 (1215 + 12 * a1) (Z 2 0 0 (1213 + 12 * a1)))
          replace hP := zl_e hP hZ53
          have hZ53I := zM_u2 hZ hZ53 (lo := 0) (hi := 40) (zs_1210_5 (x := a1) (by omega) (by omega) (by omega)) (by omega) ⟨by decide, by decide⟩ (by simp only [zsp]; omega)
          have hZ53U : zU [] Z Z53 := zU_u zU_r hZ53 (Or.inl rfl)
          have hZ53K : zC [2] Z Z53 := zC_u zC_r hZ53 (zcl_2w (by omega) rfl)
          intro μ9 e9
          replace e9 := e9.trans (zm_wI (Z := Z) (ν := ν) hZ53 (show ((0 : Nat) : Int) = 0 from rfl) (show ((0 : Nat) : Int) = 0 from rfl) (i3I (y := (1215 + 12 * a1)) (i3A (i3A (show (1210 : Int32) = i3 1210 from rfl) (i3M (show (12 : Int32) = i3 12 from rfl) (rfl : i3 a1 = i3 a1))) (show (5 : Int32) = i3 5 from rfl)) (by omega) (by omega) (by omega)) (zm_rd (Z := Z) (ν := ν) (k := 2) (show ((0 : Nat) : Int) = 0 from rfl) (show ((0 : Nat) : Int) = 0 from rfl) (i3I (y := (1213 + 12 * a1)) (i3A (i3A (show (1210 : Int32) = i3 1210 from rfl) (i3M (show (12 : Int32) = i3 12 from rfl) (rfl : i3 a1 = i3 a1))) (show (3 : Int32) = i3 3 from rfl)) (by omega) (by omega) (by omega))))
          subst e9
          refine wz_i0 (i3O (n := 4400) (i3A (i3A (show (1210 : Int32) = i3 1210 from rfl) (i3M (show (12 : Int32) = i3 12 from rfl) (rfl : i3 a1 = i3 a1))) (show (7 : Int32) = i3 7 from rfl)) (by omega) (by omega) (by omega)) ?_
          refine wz_br (i3E (zm_rd (Z := Z) (ν := ν) (k := 2) (show ((0 : Nat) : Int) = 0 from rfl) (show ((0 : Nat) : Int) = 0 from rfl) (i3I (y := (1213 + 12 * a1)) (i3A (i3A (show (1210 : Int32) = i3 1210 from rfl) (i3M (show (12 : Int32) = i3 12 from rfl) (rfl : i3 a1 = i3 a1))) (show (3 : Int32) = i3 3 from rfl)) (by omega) (by omega) (by omega))) (zm_rd (Z := Z) (ν := ν) (k := 2) (show ((0 : Nat) : Int) = 0 from rfl) (show ((0 : Nat) : Int) = 0 from rfl) (i3I (y := (1300 + ((Z 2 0 0 0) / 24))) (i3A (show (1300 : Int32) = i3 1300 from rfl) (i3D (zm_rd (Z := Z) (ν := ν) (k := 2) (show ((0 : Nat) : Int) = 0 from rfl) (show ((0 : Nat) : Int) = 0 from rfl) (show ((0 : Nat) : Int) = 0 from rfl)) (show (24 : Int32) = i3 24 from rfl) (by omega) (by omega) (by omega) (by omega))) (by omega) (by omega) (by omega))) (by omega) (by omega) (by omega) (by omega)) (fun h54 => ?_) (fun h54 => ?_)
          · replace hP := zE_p hP h54
            refine wz_i0 (i3O (n := 4400) (i3A (i3A (show (1210 : Int32) = i3 1210 from rfl) (i3M (show (12 : Int32) = i3 12 from rfl) (rfl : i3 a1 = i3 a1))) (show (7 : Int32) = i3 7 from rfl)) (by omega) (by omega) (by omega)) ?_
            have r55 := zM_f hZ53I 2 0 0 (1217 + 12 * a1)
            obtain ⟨Z56, hZ56⟩ := zx (zu Z53 2 0 0 (1217 + 12 * a1) ((Z53 2 0 0 (1217 + 12 * a1)) + 0))
            replace hP := zl_e hP hZ56
            have hZ56I := zM_u2 hZ53I hZ56 (lo := -2147483648) (hi := 2147483647) (zs_1210_7 (x := a1) (by omega) (by omega) (by omega)) (by omega) ⟨by decide, by decide⟩ (by simp only [zsp]; omega)
            have hZ56U : zU [] Z Z56 := zU_u hZ53U hZ56 (Or.inl rfl)
            have hZ56K : zC [2] Z Z56 := zC_u hZ53K hZ56 (zcl_2w (by omega) rfl)
            intro μ9 e9
            replace e9 := e9.trans (zm_wI (Z := Z53) (ν := ν) hZ56 (show ((0 : Nat) : Int) = 0 from rfl) (show ((0 : Nat) : Int) = 0 from rfl) (i3I (y := (1217 + 12 * a1)) (i3A (i3A (show (1210 : Int32) = i3 1210 from rfl) (i3M (show (12 : Int32) = i3 12 from rfl) (rfl : i3 a1 = i3 a1))) (show (7 : Int32) = i3 7 from rfl)) (by omega) (by omega) (by omega)) (i3A (zm_rd (Z := Z53) (ν := ν) (k := 2) (show ((0 : Nat) : Int) = 0 from rfl) (show ((0 : Nat) : Int) = 0 from rfl) (i3I (y := (1217 + 12 * a1)) (i3A (i3A (show (1210 : Int32) = i3 1210 from rfl) (i3M (show (12 : Int32) = i3 12 from rfl) (rfl : i3 a1 = i3 a1))) (show (7 : Int32) = i3 7 from rfl)) (by omega) (by omega) (by omega))) (show (0 : Int32) = i3 0 from rfl)))
            subst e9
            refine wz_i0 (i3O (n := 4400) (i3A (i3A (show (1210 : Int32) = i3 1210 from rfl) (i3M (show (12 : Int32) = i3 12 from rfl) (rfl : i3 a1 = i3 a1))) (show (8 : Int32) = i3 8 from rfl)) (by omega) (by omega) (by omega)) ?_
            refine wz_br (i3E (zm_rd (Z := Z) (ν := ν) (k := 2) (show ((0 : Nat) : Int) = 0 from rfl) (show ((0 : Nat) : Int) = 0 from rfl) (i3I (y := (1213 + 12 * a1)) (i3A (i3A (show (1210 : Int32) = i3 1210 from rfl) (i3M (show (12 : Int32) = i3 12 from rfl) (rfl : i3 a1 = i3 a1))) (show (3 : Int32) = i3 3 from rfl)) (by omega) (by omega) (by omega))) (zm_rd (Z := Z) (ν := ν) (k := 2) (show ((0 : Nat) : Int) = 0 from rfl) (show ((0 : Nat) : Int) = 0 from rfl) (i3I (y := (1300 + ((Z 2 0 0 0) / 24))) (i3A (show (1300 : Int32) = i3 1300 from rfl) (i3D (zm_rd (Z := Z) (ν := ν) (k := 2) (show ((0 : Nat) : Int) = 0 from rfl) (show ((0 : Nat) : Int) = 0 from rfl) (show ((0 : Nat) : Int) = 0 from rfl)) (show (24 : Int32) = i3 24 from rfl) (by omega) (by omega) (by omega) (by omega))) (by omega) (by omega) (by omega))) (by omega) (by omega) (by omega) (by omega)) (fun h57 => ?_) (fun h57 => ?_)
            · replace hP := zE_p hP h57
              refine wz_i0 (i3O (n := 4400) (i3A (i3A (show (1210 : Int32) = i3 1210 from rfl) (i3M (show (12 : Int32) = i3 12 from rfl) (rfl : i3 a1 = i3 a1))) (show (8 : Int32) = i3 8 from rfl)) (by omega) (by omega) (by omega)) ?_
              have r58 := zM_f hZ56I 2 0 0 (1218 + 12 * a1)
              obtain ⟨Z59, hZ59⟩ := zx (zu Z56 2 0 0 (1218 + 12 * a1) ((Z56 2 0 0 (1218 + 12 * a1)) + 0))
              replace hP := zl_e hP hZ59
              have hZ59I := zM_u2 hZ56I hZ59 (lo := -2147483648) (hi := 2147483647) (zs_1210_8 (x := a1) (by omega) (by omega) (by omega)) (by omega) ⟨by decide, by decide⟩ (by simp only [zsp]; omega)
              have hZ59U : zU [] Z Z59 := zU_u hZ56U hZ59 (Or.inl rfl)
              have hZ59K : zC [2] Z Z59 := zC_u hZ56K hZ59 (zcl_2w (by omega) rfl)
              intro μ9 e9
              replace e9 := e9.trans (zm_wI (Z := Z56) (ν := ν) hZ59 (show ((0 : Nat) : Int) = 0 from rfl) (show ((0 : Nat) : Int) = 0 from rfl) (i3I (y := (1218 + 12 * a1)) (i3A (i3A (show (1210 : Int32) = i3 1210 from rfl) (i3M (show (12 : Int32) = i3 12 from rfl) (rfl : i3 a1 = i3 a1))) (show (8 : Int32) = i3 8 from rfl)) (by omega) (by omega) (by omega)) (i3A (zm_rd (Z := Z56) (ν := ν) (k := 2) (show ((0 : Nat) : Int) = 0 from rfl) (show ((0 : Nat) : Int) = 0 from rfl) (i3I (y := (1218 + 12 * a1)) (i3A (i3A (show (1210 : Int32) = i3 1210 from rfl) (i3M (show (12 : Int32) = i3 12 from rfl) (rfl : i3 a1 = i3 a1))) (show (8 : Int32) = i3 8 from rfl)) (by omega) (by omega) (by omega))) (show (0 : Int32) = i3 0 from rfl)))
              subst e9
              refine wz_i0 (i3O (n := 4400) (i3A (i3A (show (1210 : Int32) = i3 1210 from rfl) (i3M (show (12 : Int32) = i3 12 from rfl) (rfl : i3 a1 = i3 a1))) (show (6 : Int32) = i3 6 from rfl)) (by omega) (by omega) (by omega)) ?_
              obtain ⟨Z60, hZ60⟩ := zx (zu Z59 2 0 0 (1216 + 12 * a1) 0)
              replace hP := zl_e hP hZ60
              have hZ60I := zM_02 hZ59I hZ60 (by simp only [zsp]; omega)
              have hZ60U : zU [] Z Z60 := zU_u hZ59U hZ60 (Or.inl rfl)
              have hZ60K : zC [2] Z Z60 := zC_u hZ59K hZ60 (zcl_2w (by omega) rfl)
              intro μ9 e9
              replace e9 := e9.trans (zm_wI (Z := Z59) (ν := ν) hZ60 (show ((0 : Nat) : Int) = 0 from rfl) (show ((0 : Nat) : Int) = 0 from rfl) (i3I (y := (1216 + 12 * a1)) (i3A (i3A (show (1210 : Int32) = i3 1210 from rfl) (i3M (show (12 : Int32) = i3 12 from rfl) (rfl : i3 a1 = i3 a1))) (show (6 : Int32) = i3 6 from rfl)) (by omega) (by omega) (by omega)) (show (0 : Int32) = i3 0 from rfl))
              subst e9
              exact zlV hP ⟨hZ60I, hZ60K, hZ60U⟩
            · replace hP := zE_n hP h57
              refine wz_i0 (i3O (n := 4400) (i3A (i3A (show (1210 : Int32) = i3 1210 from rfl) (i3M (show (12 : Int32) = i3 12 from rfl) (rfl : i3 a1 = i3 a1))) (show (8 : Int32) = i3 8 from rfl)) (by omega) (by omega) (by omega)) ?_
              have r61 := zM_f hZ56I 2 0 0 (1218 + 12 * a1)
              have r62 := w3_r ((Z56 2 0 0 (1218 + 12 * a1)) + 1)
              obtain ⟨Z63, hZ63⟩ := zx (zu Z56 2 0 0 (1218 + 12 * a1) (w3 ((Z56 2 0 0 (1218 + 12 * a1)) + 1)))
              replace hP := zl_e hP hZ63
              have hZ63I := zM_u2 hZ56I hZ63 (lo := -2147483648) (hi := 2147483647) (zs_1210_8 (x := a1) (by omega) (by omega) (by omega)) (by omega) ⟨by decide, by decide⟩ (by simp only [zsp]; omega)
              have hZ63U : zU [] Z Z63 := zU_u hZ56U hZ63 (Or.inl rfl)
              have hZ63K : zC [2] Z Z63 := zC_u hZ56K hZ63 (zcl_2w (by omega) rfl)
              intro μ9 e9
              replace e9 := e9.trans (zm_wI (Z := Z56) (ν := ν) hZ63 (show ((0 : Nat) : Int) = 0 from rfl) (show ((0 : Nat) : Int) = 0 from rfl) (i3I (y := (1218 + 12 * a1)) (i3A (i3A (show (1210 : Int32) = i3 1210 from rfl) (i3M (show (12 : Int32) = i3 12 from rfl) (rfl : i3 a1 = i3 a1))) (show (8 : Int32) = i3 8 from rfl)) (by omega) (by omega) (by omega)) (i3W (i3A (zm_rd (Z := Z56) (ν := ν) (k := 2) (show ((0 : Nat) : Int) = 0 from rfl) (show ((0 : Nat) : Int) = 0 from rfl) (i3I (y := (1218 + 12 * a1)) (i3A (i3A (show (1210 : Int32) = i3 1210 from rfl) (i3M (show (12 : Int32) = i3 12 from rfl) (rfl : i3 a1 = i3 a1))) (show (8 : Int32) = i3 8 from rfl)) (by omega) (by omega) (by omega))) (show (1 : Int32) = i3 1 from rfl))))
              subst e9
              refine wz_i0 (i3O (n := 4400) (i3A (i3A (show (1210 : Int32) = i3 1210 from rfl) (i3M (show (12 : Int32) = i3 12 from rfl) (rfl : i3 a1 = i3 a1))) (show (6 : Int32) = i3 6 from rfl)) (by omega) (by omega) (by omega)) ?_
              obtain ⟨Z64, hZ64⟩ := zx (zu Z63 2 0 0 (1216 + 12 * a1) 0)
              replace hP := zl_e hP hZ64
              have hZ64I := zM_02 hZ63I hZ64 (by simp only [zsp]; omega)
              have hZ64U : zU [] Z Z64 := zU_u hZ63U hZ64 (Or.inl rfl)
              have hZ64K : zC [2] Z Z64 := zC_u hZ63K hZ64 (zcl_2w (by omega) rfl)
              intro μ9 e9
              replace e9 := e9.trans (zm_wI (Z := Z63) (ν := ν) hZ64 (show ((0 : Nat) : Int) = 0 from rfl) (show ((0 : Nat) : Int) = 0 from rfl) (i3I (y := (1216 + 12 * a1)) (i3A (i3A (show (1210 : Int32) = i3 1210 from rfl) (i3M (show (12 : Int32) = i3 12 from rfl) (rfl : i3 a1 = i3 a1))) (show (6 : Int32) = i3 6 from rfl)) (by omega) (by omega) (by omega)) (show (0 : Int32) = i3 0 from rfl))
              subst e9
              exact zlV hP ⟨hZ64I, hZ64K, hZ64U⟩
          · replace hP := zE_n hP h54
            refine wz_i0 (i3O (n := 4400) (i3A (i3A (show (1210 : Int32) = i3 1210 from rfl) (i3M (show (12 : Int32) = i3 12 from rfl) (rfl : i3 a1 = i3 a1))) (show (7 : Int32) = i3 7 from rfl)) (by omega) (by omega) (by omega)) ?_
            have r65 := zM_f hZ53I 2 0 0 (1217 + 12 * a1)
            have r66 := w3_r ((Z53 2 0 0 (1217 + 12 * a1)) + 1)
            obtain ⟨Z67, hZ67⟩ := zx (zu Z53 2 0 0 (1217 + 12 * a1) (w3 ((Z53 2 0 0 (1217 + 12 * a1)) + 1)))
            replace hP := zl_e hP hZ67
            have hZ67I := zM_u2 hZ53I hZ67 (lo := -2147483648) (hi := 2147483647) (zs_1210_7 (x := a1) (by omega) (by omega) (by omega)) (by omega) ⟨by decide, by decide⟩ (by simp only [zsp]; omega)
            have hZ67U : zU [] Z Z67 := zU_u hZ53U hZ67 (Or.inl rfl)
            have hZ67K : zC [2] Z Z67 := zC_u hZ53K hZ67 (zcl_2w (by omega) rfl)
            intro μ9 e9
            replace e9 := e9.trans (zm_wI (Z := Z53) (ν := ν) hZ67 (show ((0 : Nat) : Int) = 0 from rfl) (show ((0 : Nat) : Int) = 0 from rfl) (i3I (y := (1217 + 12 * a1)) (i3A (i3A (show (1210 : Int32) = i3 1210 from rfl) (i3M (show (12 : Int32) = i3 12 from rfl) (rfl : i3 a1 = i3 a1))) (show (7 : Int32) = i3 7 from rfl)) (by omega) (by omega) (by omega)) (i3W (i3A (zm_rd (Z := Z53) (ν := ν) (k := 2) (show ((0 : Nat) : Int) = 0 from rfl) (show ((0 : Nat) : Int) = 0 from rfl) (i3I (y := (1217 + 12 * a1)) (i3A (i3A (show (1210 : Int32) = i3 1210 from rfl) (i3M (show (12 : Int32) = i3 12 from rfl) (rfl : i3 a1 = i3 a1))) (show (7 : Int32) = i3 7 from rfl)) (by omega) (by omega) (by omega))) (show (1 : Int32) = i3 1 from rfl))))
            subst e9
            refine wz_i0 (i3O (n := 4400) (i3A (i3A (show (1210 : Int32) = i3 1210 from rfl) (i3M (show (12 : Int32) = i3 12 from rfl) (rfl : i3 a1 = i3 a1))) (show (8 : Int32) = i3 8 from rfl)) (by omega) (by omega) (by omega)) ?_
            refine wz_br (i3E (zm_rd (Z := Z) (ν := ν) (k := 2) (show ((0 : Nat) : Int) = 0 from rfl) (show ((0 : Nat) : Int) = 0 from rfl) (i3I (y := (1213 + 12 * a1)) (i3A (i3A (show (1210 : Int32) = i3 1210 from rfl) (i3M (show (12 : Int32) = i3 12 from rfl) (rfl : i3 a1 = i3 a1))) (show (3 : Int32) = i3 3 from rfl)) (by omega) (by omega) (by omega))) (zm_rd (Z := Z) (ν := ν) (k := 2) (show ((0 : Nat) : Int) = 0 from rfl) (show ((0 : Nat) : Int) = 0 from rfl) (i3I (y := (1300 + ((Z 2 0 0 0) / 24))) (i3A (show (1300 : Int32) = i3 1300 from rfl) (i3D (zm_rd (Z := Z) (ν := ν) (k := 2) (show ((0 : Nat) : Int) = 0 from rfl) (show ((0 : Nat) : Int) = 0 from rfl) (show ((0 : Nat) : Int) = 0 from rfl)) (show (24 : Int32) = i3 24 from rfl) (by omega) (by omega) (by omega) (by omega))) (by omega) (by omega) (by omega))) (by omega) (by omega) (by omega) (by omega)) (fun h68 => ?_) (fun h68 => ?_)
            · replace hP := zE_p hP h68
              refine wz_i0 (i3O (n := 4400) (i3A (i3A (show (1210 : Int32) = i3 1210 from rfl) (i3M (show (12 : Int32) = i3 12 from rfl) (rfl : i3 a1 = i3 a1))) (show (8 : Int32) = i3 8 from rfl)) (by omega) (by omega) (by omega)) ?_
              have r69 := zM_f hZ67I 2 0 0 (1218 + 12 * a1)
              obtain ⟨Z70, hZ70⟩ := zx (zu Z67 2 0 0 (1218 + 12 * a1) ((Z67 2 0 0 (1218 + 12 * a1)) + 0))
              replace hP := zl_e hP hZ70
              have hZ70I := zM_u2 hZ67I hZ70 (lo := -2147483648) (hi := 2147483647) (zs_1210_8 (x := a1) (by omega) (by omega) (by omega)) (by omega) ⟨by decide, by decide⟩ (by simp only [zsp]; omega)
              have hZ70U : zU [] Z Z70 := zU_u hZ67U hZ70 (Or.inl rfl)
              have hZ70K : zC [2] Z Z70 := zC_u hZ67K hZ70 (zcl_2w (by omega) rfl)
              intro μ9 e9
              replace e9 := e9.trans (zm_wI (Z := Z67) (ν := ν) hZ70 (show ((0 : Nat) : Int) = 0 from rfl) (show ((0 : Nat) : Int) = 0 from rfl) (i3I (y := (1218 + 12 * a1)) (i3A (i3A (show (1210 : Int32) = i3 1210 from rfl) (i3M (show (12 : Int32) = i3 12 from rfl) (rfl : i3 a1 = i3 a1))) (show (8 : Int32) = i3 8 from rfl)) (by omega) (by omega) (by omega)) (i3A (zm_rd (Z := Z67) (ν := ν) (k := 2) (show ((0 : Nat) : Int) = 0 from rfl) (show ((0 : Nat) : Int) = 0 from rfl) (i3I (y := (1218 + 12 * a1)) (i3A (i3A (show (1210 : Int32) = i3 1210 from rfl) (i3M (show (12 : Int32) = i3 12 from rfl) (rfl : i3 a1 = i3 a1))) (show (8 : Int32) = i3 8 from rfl)) (by omega) (by omega) (by omega))) (show (0 : Int32) = i3 0 from rfl)))
              subst e9
              refine wz_i0 (i3O (n := 4400) (i3A (i3A (show (1210 : Int32) = i3 1210 from rfl) (i3M (show (12 : Int32) = i3 12 from rfl) (rfl : i3 a1 = i3 a1))) (show (6 : Int32) = i3 6 from rfl)) (by omega) (by omega) (by omega)) ?_
              obtain ⟨Z71, hZ71⟩ := zx (zu Z70 2 0 0 (1216 + 12 * a1) 0)
              replace hP := zl_e hP hZ71
              have hZ71I := zM_02 hZ70I hZ71 (by simp only [zsp]; omega)
              have hZ71U : zU [] Z Z71 := zU_u hZ70U hZ71 (Or.inl rfl)
              have hZ71K : zC [2] Z Z71 := zC_u hZ70K hZ71 (zcl_2w (by omega) rfl)
              intro μ9 e9
              replace e9 := e9.trans (zm_wI (Z := Z70) (ν := ν) hZ71 (show ((0 : Nat) : Int) = 0 from rfl) (show ((0 : Nat) : Int) = 0 from rfl) (i3I (y := (1216 + 12 * a1)) (i3A (i3A (show (1210 : Int32) = i3 1210 from rfl) (i3M (show (12 : Int32) = i3 12 from rfl) (rfl : i3 a1 = i3 a1))) (show (6 : Int32) = i3 6 from rfl)) (by omega) (by omega) (by omega)) (show (0 : Int32) = i3 0 from rfl))
              subst e9
              exact zlV hP ⟨hZ71I, hZ71K, hZ71U⟩
            · replace hP := zE_n hP h68
              refine wz_i0 (i3O (n := 4400) (i3A (i3A (show (1210 : Int32) = i3 1210 from rfl) (i3M (show (12 : Int32) = i3 12 from rfl) (rfl : i3 a1 = i3 a1))) (show (8 : Int32) = i3 8 from rfl)) (by omega) (by omega) (by omega)) ?_
              have r72 := zM_f hZ67I 2 0 0 (1218 + 12 * a1)
              have r73 := w3_r ((Z67 2 0 0 (1218 + 12 * a1)) + 1)
              obtain ⟨Z74, hZ74⟩ := zx (zu Z67 2 0 0 (1218 + 12 * a1) (w3 ((Z67 2 0 0 (1218 + 12 * a1)) + 1)))
              replace hP := zl_e hP hZ74
              have hZ74I := zM_u2 hZ67I hZ74 (lo := -2147483648) (hi := 2147483647) (zs_1210_8 (x := a1) (by omega) (by omega) (by omega)) (by omega) ⟨by decide, by decide⟩ (by simp only [zsp]; omega)
              have hZ74U : zU [] Z Z74 := zU_u hZ67U hZ74 (Or.inl rfl)
              have hZ74K : zC [2] Z Z74 := zC_u hZ67K hZ74 (zcl_2w (by omega) rfl)
              intro μ9 e9
              replace e9 := e9.trans (zm_wI (Z := Z67) (ν := ν) hZ74 (show ((0 : Nat) : Int) = 0 from rfl) (show ((0 : Nat) : Int) = 0 from rfl) (i3I (y := (1218 + 12 * a1)) (i3A (i3A (show (1210 : Int32) = i3 1210 from rfl) (i3M (show (12 : Int32) = i3 12 from rfl) (rfl : i3 a1 = i3 a1))) (show (8 : Int32) = i3 8 from rfl)) (by omega) (by omega) (by omega)) (i3W (i3A (zm_rd (Z := Z67) (ν := ν) (k := 2) (show ((0 : Nat) : Int) = 0 from rfl) (show ((0 : Nat) : Int) = 0 from rfl) (i3I (y := (1218 + 12 * a1)) (i3A (i3A (show (1210 : Int32) = i3 1210 from rfl) (i3M (show (12 : Int32) = i3 12 from rfl) (rfl : i3 a1 = i3 a1))) (show (8 : Int32) = i3 8 from rfl)) (by omega) (by omega) (by omega))) (show (1 : Int32) = i3 1 from rfl))))
              subst e9
              refine wz_i0 (i3O (n := 4400) (i3A (i3A (show (1210 : Int32) = i3 1210 from rfl) (i3M (show (12 : Int32) = i3 12 from rfl) (rfl : i3 a1 = i3 a1))) (show (6 : Int32) = i3 6 from rfl)) (by omega) (by omega) (by omega)) ?_
              obtain ⟨Z75, hZ75⟩ := zx (zu Z74 2 0 0 (1216 + 12 * a1) 0)
              replace hP := zl_e hP hZ75
              have hZ75I := zM_02 hZ74I hZ75 (by simp only [zsp]; omega)
              have hZ75U : zU [] Z Z75 := zU_u hZ74U hZ75 (Or.inl rfl)
              have hZ75K : zC [2] Z Z75 := zC_u hZ74K hZ75 (zcl_2w (by omega) rfl)
              intro μ9 e9
              replace e9 := e9.trans (zm_wI (Z := Z74) (ν := ν) hZ75 (show ((0 : Nat) : Int) = 0 from rfl) (show ((0 : Nat) : Int) = 0 from rfl) (i3I (y := (1216 + 12 * a1)) (i3A (i3A (show (1210 : Int32) = i3 1210 from rfl) (i3M (show (12 : Int32) = i3 12 from rfl) (rfl : i3 a1 = i3 a1))) (show (6 : Int32) = i3 6 from rfl)) (by omega) (by omega) (by omega)) (show (0 : Int32) = i3 0 from rfl))
              subst e9
              exact zlV hP ⟨hZ75I, hZ75K, hZ75U⟩
        · replace hP := zE_n hP h52
          refine wz_i0 (i3O (n := 4400) (i3A (i3A (show (1210 : Int32) = i3 1210 from rfl) (i3M (show (12 : Int32) = i3 12 from rfl) (rfl : i3 a1 = i3 a1))) (show (5 : Int32) = i3 5 from rfl)) (by omega) (by omega) (by omega)) ?_
          obtain ⟨Z76, hZ76⟩ := zx (zu Z 2 0 0 (1215 + 12 * a1) ((Z 2 0 0 (1300 + ((Z 2 0 0 0) / 24))) + (Z 2 0 0 (1211 + 12 * a1))))
          replace hP := zl_e hP hZ76
          have hZ76I := zM_u2 hZ hZ76 (lo := 0) (hi := 40) (zs_1210_5 (x := a1) (by omega) (by omega) (by omega)) (by omega) ⟨by decide, by decide⟩ (by simp only [zsp]; omega)
          have hZ76U : zU [] Z Z76 := zU_u zU_r hZ76 (Or.inl rfl)
          have hZ76K : zC [2] Z Z76 := zC_u zC_r hZ76 (zcl_2w (by omega) rfl)
          intro μ9 e9
          replace e9 := e9.trans (zm_wI (Z := Z) (ν := ν) hZ76 (show ((0 : Nat) : Int) = 0 from rfl) (show ((0 : Nat) : Int) = 0 from rfl) (i3I (y := (1215 + 12 * a1)) (i3A (i3A (show (1210 : Int32) = i3 1210 from rfl) (i3M (show (12 : Int32) = i3 12 from rfl) (rfl : i3 a1 = i3 a1))) (show (5 : Int32) = i3 5 from rfl)) (by omega) (by omega) (by omega)) (i3A (zm_rd (Z := Z) (ν := ν) (k := 2) (show ((0 : Nat) : Int) = 0 from rfl) (show ((0 : Nat) : Int) = 0 from rfl) (i3I (y := (1300 + ((Z 2 0 0 0) / 24))) (i3A (show (1300 : Int32) = i3 1300 from rfl) (i3D (zm_rd (Z := Z) (ν := ν) (k := 2) (show ((0 : Nat) : Int) = 0 from rfl) (show ((0 : Nat) : Int) = 0 from rfl) (show ((0 : Nat) : Int) = 0 from rfl)) (show (24 : Int32) = i3 24 from rfl) (by omega) (by omega) (by omega) (by omega))) (by omega) (by omega) (by omega))) (zm_rd (Z := Z) (ν := ν) (k := 2) (show ((0 : Nat) : Int) = 0 from rfl) (show ((0 : Nat) : Int) = 0 from rfl) (i3I (y := (1211 + 12 * a1)) (i3A (i3A (show (1210 : Int32) = i3 1210 from rfl) (i3M (show (12 : Int32) = i3 12 from rfl) (rfl : i3 a1 = i3 a1))) (show (1 : Int32) = i3 1 from rfl)) (by omega) (by omega) (by omega)))))
          subst e9
          refine wz_i0 (i3O (n := 4400) (i3A (i3A (show (1210 : Int32) = i3 1210 from rfl) (i3M (show (12 : Int32) = i3 12 from rfl) (rfl : i3 a1 = i3 a1))) (show (7 : Int32) = i3 7 from rfl)) (by omega) (by omega) (by omega)) ?_
          refine wz_br (i3E (i3A (zm_rd (Z := Z) (ν := ν) (k := 2) (show ((0 : Nat) : Int) = 0 from rfl) (show ((0 : Nat) : Int) = 0 from rfl) (i3I (y := (1300 + ((Z 2 0 0 0) / 24))) (i3A (show (1300 : Int32) = i3 1300 from rfl) (i3D (zm_rd (Z := Z) (ν := ν) (k := 2) (show ((0 : Nat) : Int) = 0 from rfl) (show ((0 : Nat) : Int) = 0 from rfl) (show ((0 : Nat) : Int) = 0 from rfl)) (show (24 : Int32) = i3 24 from rfl) (by omega) (by omega) (by omega) (by omega))) (by omega) (by omega) (by omega))) (zm_rd (Z := Z) (ν := ν) (k := 2) (show ((0 : Nat) : Int) = 0 from rfl) (show ((0 : Nat) : Int) = 0 from rfl) (i3I (y := (1211 + 12 * a1)) (i3A (i3A (show (1210 : Int32) = i3 1210 from rfl) (i3M (show (12 : Int32) = i3 12 from rfl) (rfl : i3 a1 = i3 a1))) (show (1 : Int32) = i3 1 from rfl)) (by omega) (by omega) (by omega)))) (zm_rd (Z := Z) (ν := ν) (k := 2) (show ((0 : Nat) : Int) = 0 from rfl) (show ((0 : Nat) : Int) = 0 from rfl) (i3I (y := (1300 + ((Z 2 0 0 0) / 24))) (i3A (show (1300 : Int32) = i3 1300 from rfl) (i3D (zm_rd (Z := Z) (ν := ν) (k := 2) (show ((0 : Nat) : Int) = 0 from rfl) (show ((0 : Nat) : Int) = 0 from rfl) (show ((0 : Nat) : Int) = 0 from rfl)) (show (24 : Int32) = i3 24 from rfl) (by omega) (by omega) (by omega) (by omega))) (by omega) (by omega) (by omega))) (by omega) (by omega) (by omega) (by omega)) (fun h77 => ?_) (fun h77 => ?_)
          · replace hP := zE_p hP h77
            refine wz_i0 (i3O (n := 4400) (i3A (i3A (show (1210 : Int32) = i3 1210 from rfl) (i3M (show (12 : Int32) = i3 12 from rfl) (rfl : i3 a1 = i3 a1))) (show (7 : Int32) = i3 7 from rfl)) (by omega) (by omega) (by omega)) ?_
            have r78 := zM_f hZ76I 2 0 0 (1217 + 12 * a1)
            obtain ⟨Z79, hZ79⟩ := zx (zu Z76 2 0 0 (1217 + 12 * a1) ((Z76 2 0 0 (1217 + 12 * a1)) + 0))
            replace hP := zl_e hP hZ79
            have hZ79I := zM_u2 hZ76I hZ79 (lo := -2147483648) (hi := 2147483647) (zs_1210_7 (x := a1) (by omega) (by omega) (by omega)) (by omega) ⟨by decide, by decide⟩ (by simp only [zsp]; omega)
            have hZ79U : zU [] Z Z79 := zU_u hZ76U hZ79 (Or.inl rfl)
            have hZ79K : zC [2] Z Z79 := zC_u hZ76K hZ79 (zcl_2w (by omega) rfl)
            intro μ9 e9
            replace e9 := e9.trans (zm_wI (Z := Z76) (ν := ν) hZ79 (show ((0 : Nat) : Int) = 0 from rfl) (show ((0 : Nat) : Int) = 0 from rfl) (i3I (y := (1217 + 12 * a1)) (i3A (i3A (show (1210 : Int32) = i3 1210 from rfl) (i3M (show (12 : Int32) = i3 12 from rfl) (rfl : i3 a1 = i3 a1))) (show (7 : Int32) = i3 7 from rfl)) (by omega) (by omega) (by omega)) (i3A (zm_rd (Z := Z76) (ν := ν) (k := 2) (show ((0 : Nat) : Int) = 0 from rfl) (show ((0 : Nat) : Int) = 0 from rfl) (i3I (y := (1217 + 12 * a1)) (i3A (i3A (show (1210 : Int32) = i3 1210 from rfl) (i3M (show (12 : Int32) = i3 12 from rfl) (rfl : i3 a1 = i3 a1))) (show (7 : Int32) = i3 7 from rfl)) (by omega) (by omega) (by omega))) (show (0 : Int32) = i3 0 from rfl)))
            subst e9
            refine wz_i0 (i3O (n := 4400) (i3A (i3A (show (1210 : Int32) = i3 1210 from rfl) (i3M (show (12 : Int32) = i3 12 from rfl) (rfl : i3 a1 = i3 a1))) (show (8 : Int32) = i3 8 from rfl)) (by omega) (by omega) (by omega)) ?_
            refine wz_i1 (Eq.trans (i3E (i3A (zm_rd (Z := Z) (ν := ν) (k := 2) (show ((0 : Nat) : Int) = 0 from rfl) (show ((0 : Nat) : Int) = 0 from rfl) (i3I (y := (1300 + ((Z 2 0 0 0) / 24))) (i3A (show (1300 : Int32) = i3 1300 from rfl) (i3D (zm_rd (Z := Z) (ν := ν) (k := 2) (show ((0 : Nat) : Int) = 0 from rfl) (show ((0 : Nat) : Int) = 0 from rfl) (show ((0 : Nat) : Int) = 0 from rfl)) (show (24 : Int32) = i3 24 from rfl) (by omega) (by omega) (by omega) (by omega))) (by omega) (by omega) (by omega))) (zm_rd (Z := Z) (ν := ν) (k := 2) (show ((0 : Nat) : Int) = 0 from rfl) (show ((0 : Nat) : Int) = 0 from rfl) (i3I (y := (1211 + 12 * a1)) (i3A (i3A (show (1210 : Int32) = i3 1210 from rfl) (i3M (show (12 : Int32) = i3 12 from rfl) (rfl : i3 a1 = i3 a1))) (show (1 : Int32) = i3 1 from rfl)) (by omega) (by omega) (by omega)))) (zm_rd (Z := Z) (ν := ν) (k := 2) (show ((0 : Nat) : Int) = 0 from rfl) (show ((0 : Nat) : Int) = 0 from rfl) (i3I (y := (1300 + ((Z 2 0 0 0) / 24))) (i3A (show (1300 : Int32) = i3 1300 from rfl) (i3D (zm_rd (Z := Z) (ν := ν) (k := 2) (show ((0 : Nat) : Int) = 0 from rfl) (show ((0 : Nat) : Int) = 0 from rfl) (show ((0 : Nat) : Int) = 0 from rfl)) (show (24 : Int32) = i3 24 from rfl) (by omega) (by omega) (by omega) (by omega))) (by omega) (by omega) (by omega))) (by omega) (by omega) (by omega) (by omega)) (decide_eq_true (by omega))) ?_
            refine wz_i0 (i3O (n := 4400) (i3A (i3A (show (1210 : Int32) = i3 1210 from rfl) (i3M (show (12 : Int32) = i3 12 from rfl) (rfl : i3 a1 = i3 a1))) (show (8 : Int32) = i3 8 from rfl)) (by omega) (by omega) (by omega)) ?_
            have r80 := zM_f hZ79I 2 0 0 (1218 + 12 * a1)
            obtain ⟨Z81, hZ81⟩ := zx (zu Z79 2 0 0 (1218 + 12 * a1) ((Z79 2 0 0 (1218 + 12 * a1)) + 0))
            replace hP := zl_e hP hZ81
            have hZ81I := zM_u2 hZ79I hZ81 (lo := -2147483648) (hi := 2147483647) (zs_1210_8 (x := a1) (by omega) (by omega) (by omega)) (by omega) ⟨by decide, by decide⟩ (by simp only [zsp]; omega)
            have hZ81U : zU [] Z Z81 := zU_u hZ79U hZ81 (Or.inl rfl)
            have hZ81K : zC [2] Z Z81 := zC_u hZ79K hZ81 (zcl_2w (by omega) rfl)
            intro μ9 e9
            replace e9 := e9.trans (zm_wI (Z := Z79) (ν := ν) hZ81 (show ((0 : Nat) : Int) = 0 from rfl) (show ((0 : Nat) : Int) = 0 from rfl) (i3I (y := (1218 + 12 * a1)) (i3A (i3A (show (1210 : Int32) = i3 1210 from rfl) (i3M (show (12 : Int32) = i3 12 from rfl) (rfl : i3 a1 = i3 a1))) (show (8 : Int32) = i3 8 from rfl)) (by omega) (by omega) (by omega)) (i3A (zm_rd (Z := Z79) (ν := ν) (k := 2) (show ((0 : Nat) : Int) = 0 from rfl) (show ((0 : Nat) : Int) = 0 from rfl) (i3I (y := (1218 + 12 * a1)) (i3A (i3A (show (1210 : Int32) = i3 1210 from rfl) (i3M (show (12 : Int32) = i3 12 from rfl) (rfl : i3 a1 = i3 a1))) (show (8 : Int32) = i3 8 from rfl)) (by omega) (by omega) (by omega))) (show (0 : Int32) = i3 0 from rfl)))
            subst e9
            refine wz_i0 (i3O (n := 4400) (i3A (i3A (show (1210 : Int32) = i3 1210 from rfl) (i3M (show (12 : Int32) = i3 12 from rfl) (rfl : i3 a1 = i3 a1))) (show (6 : Int32) = i3 6 from rfl)) (by omega) (by omega) (by omega)) ?_
            obtain ⟨Z82, hZ82⟩ := zx (zu Z81 2 0 0 (1216 + 12 * a1) 0)
            replace hP := zl_e hP hZ82
            have hZ82I := zM_02 hZ81I hZ82 (by simp only [zsp]; omega)
            have hZ82U : zU [] Z Z82 := zU_u hZ81U hZ82 (Or.inl rfl)
            have hZ82K : zC [2] Z Z82 := zC_u hZ81K hZ82 (zcl_2w (by omega) rfl)
            intro μ9 e9
            replace e9 := e9.trans (zm_wI (Z := Z81) (ν := ν) hZ82 (show ((0 : Nat) : Int) = 0 from rfl) (show ((0 : Nat) : Int) = 0 from rfl) (i3I (y := (1216 + 12 * a1)) (i3A (i3A (show (1210 : Int32) = i3 1210 from rfl) (i3M (show (12 : Int32) = i3 12 from rfl) (rfl : i3 a1 = i3 a1))) (show (6 : Int32) = i3 6 from rfl)) (by omega) (by omega) (by omega)) (show (0 : Int32) = i3 0 from rfl))
            subst e9
            exact zlV hP ⟨hZ82I, hZ82K, hZ82U⟩
          · replace hP := zE_n hP h77
            refine wz_i0 (i3O (n := 4400) (i3A (i3A (show (1210 : Int32) = i3 1210 from rfl) (i3M (show (12 : Int32) = i3 12 from rfl) (rfl : i3 a1 = i3 a1))) (show (7 : Int32) = i3 7 from rfl)) (by omega) (by omega) (by omega)) ?_
            have r83 := zM_f hZ76I 2 0 0 (1217 + 12 * a1)
            have r84 := w3_r ((Z76 2 0 0 (1217 + 12 * a1)) + 1)
            obtain ⟨Z85, hZ85⟩ := zx (zu Z76 2 0 0 (1217 + 12 * a1) (w3 ((Z76 2 0 0 (1217 + 12 * a1)) + 1)))
            replace hP := zl_e hP hZ85
            have hZ85I := zM_u2 hZ76I hZ85 (lo := -2147483648) (hi := 2147483647) (zs_1210_7 (x := a1) (by omega) (by omega) (by omega)) (by omega) ⟨by decide, by decide⟩ (by simp only [zsp]; omega)
            have hZ85U : zU [] Z Z85 := zU_u hZ76U hZ85 (Or.inl rfl)
            have hZ85K : zC [2] Z Z85 := zC_u hZ76K hZ85 (zcl_2w (by omega) rfl)
            intro μ9 e9
            replace e9 := e9.trans (zm_wI (Z := Z76) (ν := ν) hZ85 (show ((0 : Nat) : Int) = 0 from rfl) (show ((0 : Nat) : Int) = 0 from rfl) (i3I (y := (1217 + 12 * a1)) (i3A (i3A (show (1210 : Int32) = i3 1210 from rfl) (i3M (show (12 : Int32) = i3 12 from rfl) (rfl : i3 a1 = i3 a1))) (show (7 : Int32) = i3 7 from rfl)) (by omega) (by omega) (by omega)) (i3W (i3A (zm_rd (Z := Z76) (ν := ν) (k := 2) (show ((0 : Nat) : Int) = 0 from rfl) (show ((0 : Nat) : Int) = 0 from rfl) (i3I (y := (1217 + 12 * a1)) (i3A (i3A (show (1210 : Int32) = i3 1210 from rfl) (i3M (show (12 : Int32) = i3 12 from rfl) (rfl : i3 a1 = i3 a1))) (show (7 : Int32) = i3 7 from rfl)) (by omega) (by omega) (by omega))) (show (1 : Int32) = i3 1 from rfl))))
            subst e9
            refine wz_i0 (i3O (n := 4400) (i3A (i3A (show (1210 : Int32) = i3 1210 from rfl) (i3M (show (12 : Int32) = i3 12 from rfl) (rfl : i3 a1 = i3 a1))) (show (8 : Int32) = i3 8 from rfl)) (by omega) (by omega) (by omega)) ?_
            refine wz_i0 (Eq.trans (i3E (i3A (zm_rd (Z := Z) (ν := ν) (k := 2) (show ((0 : Nat) : Int) = 0 from rfl) (show ((0 : Nat) : Int) = 0 from rfl) (i3I (y := (1300 + ((Z 2 0 0 0) / 24))) (i3A (show (1300 : Int32) = i3 1300 from rfl) (i3D (zm_rd (Z := Z) (ν := ν) (k := 2) (show ((0 : Nat) : Int) = 0 from rfl) (show ((0 : Nat) : Int) = 0 from rfl) (show ((0 : Nat) : Int) = 0 from rfl)) (show (24 : Int32) = i3 24 from rfl) (by omega) (by omega) (by omega) (by omega))) (by omega) (by omega) (by omega))) (zm_rd (Z := Z) (ν := ν) (k := 2) (show ((0 : Nat) : Int) = 0 from rfl) (show ((0 : Nat) : Int) = 0 from rfl) (i3I (y := (1211 + 12 * a1)) (i3A (i3A (show (1210 : Int32) = i3 1210 from rfl) (i3M (show (12 : Int32) = i3 12 from rfl) (rfl : i3 a1 = i3 a1))) (show (1 : Int32) = i3 1 from rfl)) (by omega) (by omega) (by omega)))) (zm_rd (Z := Z) (ν := ν) (k := 2) (show ((0 : Nat) : Int) = 0 from rfl) (show ((0 : Nat) : Int) = 0 from rfl) (i3I (y := (1300 + ((Z 2 0 0 0) / 24))) (i3A (show (1300 : Int32) = i3 1300 from rfl) (i3D (zm_rd (Z := Z) (ν := ν) (k := 2) (show ((0 : Nat) : Int) = 0 from rfl) (show ((0 : Nat) : Int) = 0 from rfl) (show ((0 : Nat) : Int) = 0 from rfl)) (show (24 : Int32) = i3 24 from rfl) (by omega) (by omega) (by omega) (by omega))) (by omega) (by omega) (by omega))) (by omega) (by omega) (by omega) (by omega)) (decide_eq_false (by omega))) ?_
            refine wz_i0 (i3O (n := 4400) (i3A (i3A (show (1210 : Int32) = i3 1210 from rfl) (i3M (show (12 : Int32) = i3 12 from rfl) (rfl : i3 a1 = i3 a1))) (show (8 : Int32) = i3 8 from rfl)) (by omega) (by omega) (by omega)) ?_
            have r86 := zM_f hZ85I 2 0 0 (1218 + 12 * a1)
            have r87 := w3_r ((Z85 2 0 0 (1218 + 12 * a1)) + 1)
            obtain ⟨Z88, hZ88⟩ := zx (zu Z85 2 0 0 (1218 + 12 * a1) (w3 ((Z85 2 0 0 (1218 + 12 * a1)) + 1)))
            replace hP := zl_e hP hZ88
            have hZ88I := zM_u2 hZ85I hZ88 (lo := -2147483648) (hi := 2147483647) (zs_1210_8 (x := a1) (by omega) (by omega) (by omega)) (by omega) ⟨by decide, by decide⟩ (by simp only [zsp]; omega)
            have hZ88U : zU [] Z Z88 := zU_u hZ85U hZ88 (Or.inl rfl)
            have hZ88K : zC [2] Z Z88 := zC_u hZ85K hZ88 (zcl_2w (by omega) rfl)
            intro μ9 e9
            replace e9 := e9.trans (zm_wI (Z := Z85) (ν := ν) hZ88 (show ((0 : Nat) : Int) = 0 from rfl) (show ((0 : Nat) : Int) = 0 from rfl) (i3I (y := (1218 + 12 * a1)) (i3A (i3A (show (1210 : Int32) = i3 1210 from rfl) (i3M (show (12 : Int32) = i3 12 from rfl) (rfl : i3 a1 = i3 a1))) (show (8 : Int32) = i3 8 from rfl)) (by omega) (by omega) (by omega)) (i3W (i3A (zm_rd (Z := Z85) (ν := ν) (k := 2) (show ((0 : Nat) : Int) = 0 from rfl) (show ((0 : Nat) : Int) = 0 from rfl) (i3I (y := (1218 + 12 * a1)) (i3A (i3A (show (1210 : Int32) = i3 1210 from rfl) (i3M (show (12 : Int32) = i3 12 from rfl) (rfl : i3 a1 = i3 a1))) (show (8 : Int32) = i3 8 from rfl)) (by omega) (by omega) (by omega))) (show (1 : Int32) = i3 1 from rfl))))
            subst e9
            refine wz_i0 (i3O (n := 4400) (i3A (i3A (show (1210 : Int32) = i3 1210 from rfl) (i3M (show (12 : Int32) = i3 12 from rfl) (rfl : i3 a1 = i3 a1))) (show (6 : Int32) = i3 6 from rfl)) (by omega) (by omega) (by omega)) ?_
            obtain ⟨Z89, hZ89⟩ := zx (zu Z88 2 0 0 (1216 + 12 * a1) 0)
            replace hP := zl_e hP hZ89
            have hZ89I := zM_02 hZ88I hZ89 (by simp only [zsp]; omega)
            have hZ89U : zU [] Z Z89 := zU_u hZ88U hZ89 (Or.inl rfl)
            have hZ89K : zC [2] Z Z89 := zC_u hZ88K hZ89 (zcl_2w (by omega) rfl)
            intro μ9 e9
            replace e9 := e9.trans (zm_wI (Z := Z88) (ν := ν) hZ89 (show ((0 : Nat) : Int) = 0 from rfl) (show ((0 : Nat) : Int) = 0 from rfl) (i3I (y := (1216 + 12 * a1)) (i3A (i3A (show (1210 : Int32) = i3 1210 from rfl) (i3M (show (12 : Int32) = i3 12 from rfl) (rfl : i3 a1 = i3 a1))) (show (6 : Int32) = i3 6 from rfl)) (by omega) (by omega) (by omega)) (show (0 : Int32) = i3 0 from rfl))
            subst e9
            exact zlV hP ⟨hZ89I, hZ89K, hZ89U⟩
    · replace hP := zE_n hP h9
      refine wz_i0 (i3O (n := 4400) (i3A (i3A (show (1210 : Int32) = i3 1210 from rfl) (i3M (show (12 : Int32) = i3 12 from rfl) (rfl : i3 a1 = i3 a1))) (show (3 : Int32) = i3 3 from rfl)) (by omega) (by omega) (by omega)) ?_
      refine wz_i0 (i3O (n := 4400) (i3A (i3A (show (1210 : Int32) = i3 1210 from rfl) (i3M (show (12 : Int32) = i3 12 from rfl) (rfl : i3 a1 = i3 a1))) (show (1 : Int32) = i3 1 from rfl)) (by omega) (by omega) (by omega)) ?_
      have r90 := zM_k hZ 2 0 0 (1213 + 12 * a1) (lo := 0) (hi := 40) (by decide) (zs_1210_3 (x := a1) (by omega) (by omega) (by omega))
      refine wz_br (i3Le (zm_rd (Z := Z) (ν := ν) (k := 2) (show ((0 : Nat) : Int) = 0 from rfl) (show ((0 : Nat) : Int) = 0 from rfl) (i3I (y := (1213 + 12 * a1)) (i3A (i3A (show (1210 : Int32) = i3 1210 from rfl) (i3M (show (12 : Int32) = i3 12 from rfl) (rfl : i3 a1 = i3 a1))) (show (3 : Int32) = i3 3 from rfl)) (by omega) (by omega) (by omega))) (i3W (i3S (zm_rd (Z := Z) (ν := ν) (k := 2) (show ((0 : Nat) : Int) = 0 from rfl) (show ((0 : Nat) : Int) = 0 from rfl) (i3I (y := (1215 + 12 * a1)) (i3A (i3A (show (1210 : Int32) = i3 1210 from rfl) (i3M (show (12 : Int32) = i3 12 from rfl) (rfl : i3 a1 = i3 a1))) (show (5 : Int32) = i3 5 from rfl)) (by omega) (by omega) (by omega))) (i3W (i3A (zm_rd (Z := Z) (ν := ν) (k := 2) (show ((0 : Nat) : Int) = 0 from rfl) (show ((0 : Nat) : Int) = 0 from rfl) (i3I (y := (1212 + 12 * a1)) (i3A (i3A (show (1210 : Int32) = i3 1210 from rfl) (i3M (show (12 : Int32) = i3 12 from rfl) (rfl : i3 a1 = i3 a1))) (show (2 : Int32) = i3 2 from rfl)) (by omega) (by omega) (by omega))) (zm_rd (Z := Z) (ν := ν) (k := 2) (show ((0 : Nat) : Int) = 0 from rfl) (show ((0 : Nat) : Int) = 0 from rfl) (i3I (y := (1216 + 12 * a1)) (i3A (i3A (show (1210 : Int32) = i3 1210 from rfl) (i3M (show (12 : Int32) = i3 12 from rfl) (rfl : i3 a1 = i3 a1))) (show (6 : Int32) = i3 6 from rfl)) (by omega) (by omega) (by omega))))))) (by omega) (by omega) (by omega) (by omega)) (fun h91 => ?_) (fun h91 => ?_)
      · replace hP := zE_p hP h91
        have r92 := zM_k hZ 2 0 0 (1211 + 12 * a1) (lo := 0) (hi := 9) (by decide) (zs_1210_1 (x := a1) (by omega) (by omega) (by omega))
        refine wz_br (i3Le (i3S (i3W (i3S (zm_rd (Z := Z) (ν := ν) (k := 2) (show ((0 : Nat) : Int) = 0 from rfl) (show ((0 : Nat) : Int) = 0 from rfl) (i3I (y := (1215 + 12 * a1)) (i3A (i3A (show (1210 : Int32) = i3 1210 from rfl) (i3M (show (12 : Int32) = i3 12 from rfl) (rfl : i3 a1 = i3 a1))) (show (5 : Int32) = i3 5 from rfl)) (by omega) (by omega) (by omega))) (i3W (i3A (zm_rd (Z := Z) (ν := ν) (k := 2) (show ((0 : Nat) : Int) = 0 from rfl) (show ((0 : Nat) : Int) = 0 from rfl) (i3I (y := (1212 + 12 * a1)) (i3A (i3A (show (1210 : Int32) = i3 1210 from rfl) (i3M (show (12 : Int32) = i3 12 from rfl) (rfl : i3 a1 = i3 a1))) (show (2 : Int32) = i3 2 from rfl)) (by omega) (by omega) (by omega))) (zm_rd (Z := Z) (ν := ν) (k := 2) (show ((0 : Nat) : Int) = 0 from rfl) (show ((0 : Nat) : Int) = 0 from rfl) (i3I (y := (1216 + 12 * a1)) (i3A (i3A (show (1210 : Int32) = i3 1210 from rfl) (i3M (show (12 : Int32) = i3 12 from rfl) (rfl : i3 a1 = i3 a1))) (show (6 : Int32) = i3 6 from rfl)) (by omega) (by omega) (by omega))))))) (zm_rd (Z := Z) (ν := ν) (k := 2) (show ((0 : Nat) : Int) = 0 from rfl) (show ((0 : Nat) : Int) = 0 from rfl) (i3I (y := (1211 + 12 * a1)) (i3A (i3A (show (1210 : Int32) = i3 1210 from rfl) (i3M (show (12 : Int32) = i3 12 from rfl) (rfl : i3 a1 = i3 a1))) (show (1 : Int32) = i3 1 from rfl)) (by omega) (by omega) (by omega)))) (zm_rd (Z := Z) (ν := ν) (k := 2) (show ((0 : Nat) : Int) = 0 from rfl) (show ((0 : Nat) : Int) = 0 from rfl) (i3I (y := (1213 + 12 * a1)) (i3A (i3A (show (1210 : Int32) = i3 1210 from rfl) (i3M (show (12 : Int32) = i3 12 from rfl) (rfl : i3 a1 = i3 a1))) (show (3 : Int32) = i3 3 from rfl)) (by omega) (by omega) (by omega))) (by omega) (by omega) (by omega) (by omega)) (fun h93 => ?_) (fun h93 => ?_)
        · replace hP := zE_p hP h93
          refine wz_i0 (i3O (n := 4400) (i3A (i3A (show (1210 : Int32) = i3 1210 from rfl) (i3M (show (12 : Int32) = i3 12 from rfl) (rfl : i3 a1 = i3 a1))) (show (5 : Int32) = i3 5 from rfl)) (by omega) (by omega) (by omega)) ?_
          obtain ⟨Z94, hZ94⟩ := zx (zu Z 2 0 0 (1215 + 12 * a1) (Z 2 0 0 (1213 + 12 * a1)))
          replace hP := zl_e hP hZ94
          have hZ94I := zM_u2 hZ hZ94 (lo := 0) (hi := 40) (zs_1210_5 (x := a1) (by omega) (by omega) (by omega)) (by omega) ⟨by decide, by decide⟩ (by simp only [zsp]; omega)
          have hZ94U : zU [] Z Z94 := zU_u zU_r hZ94 (Or.inl rfl)
          have hZ94K : zC [2] Z Z94 := zC_u zC_r hZ94 (zcl_2w (by omega) rfl)
          intro μ9 e9
          replace e9 := e9.trans (zm_wI (Z := Z) (ν := ν) hZ94 (show ((0 : Nat) : Int) = 0 from rfl) (show ((0 : Nat) : Int) = 0 from rfl) (i3I (y := (1215 + 12 * a1)) (i3A (i3A (show (1210 : Int32) = i3 1210 from rfl) (i3M (show (12 : Int32) = i3 12 from rfl) (rfl : i3 a1 = i3 a1))) (show (5 : Int32) = i3 5 from rfl)) (by omega) (by omega) (by omega)) (zm_rd (Z := Z) (ν := ν) (k := 2) (show ((0 : Nat) : Int) = 0 from rfl) (show ((0 : Nat) : Int) = 0 from rfl) (i3I (y := (1213 + 12 * a1)) (i3A (i3A (show (1210 : Int32) = i3 1210 from rfl) (i3M (show (12 : Int32) = i3 12 from rfl) (rfl : i3 a1 = i3 a1))) (show (3 : Int32) = i3 3 from rfl)) (by omega) (by omega) (by omega))))
          subst e9
          refine wz_i0 (i3O (n := 4400) (i3A (i3A (show (1210 : Int32) = i3 1210 from rfl) (i3M (show (12 : Int32) = i3 12 from rfl) (rfl : i3 a1 = i3 a1))) (show (7 : Int32) = i3 7 from rfl)) (by omega) (by omega) (by omega)) ?_
          refine wz_br (i3E (zm_rd (Z := Z) (ν := ν) (k := 2) (show ((0 : Nat) : Int) = 0 from rfl) (show ((0 : Nat) : Int) = 0 from rfl) (i3I (y := (1213 + 12 * a1)) (i3A (i3A (show (1210 : Int32) = i3 1210 from rfl) (i3M (show (12 : Int32) = i3 12 from rfl) (rfl : i3 a1 = i3 a1))) (show (3 : Int32) = i3 3 from rfl)) (by omega) (by omega) (by omega))) (i3W (i3S (zm_rd (Z := Z) (ν := ν) (k := 2) (show ((0 : Nat) : Int) = 0 from rfl) (show ((0 : Nat) : Int) = 0 from rfl) (i3I (y := (1215 + 12 * a1)) (i3A (i3A (show (1210 : Int32) = i3 1210 from rfl) (i3M (show (12 : Int32) = i3 12 from rfl) (rfl : i3 a1 = i3 a1))) (show (5 : Int32) = i3 5 from rfl)) (by omega) (by omega) (by omega))) (i3W (i3A (zm_rd (Z := Z) (ν := ν) (k := 2) (show ((0 : Nat) : Int) = 0 from rfl) (show ((0 : Nat) : Int) = 0 from rfl) (i3I (y := (1212 + 12 * a1)) (i3A (i3A (show (1210 : Int32) = i3 1210 from rfl) (i3M (show (12 : Int32) = i3 12 from rfl) (rfl : i3 a1 = i3 a1))) (show (2 : Int32) = i3 2 from rfl)) (by omega) (by omega) (by omega))) (zm_rd (Z := Z) (ν := ν) (k := 2) (show ((0 : Nat) : Int) = 0 from rfl) (show ((0 : Nat) : Int) = 0 from rfl) (i3I (y := (1216 + 12 * a1)) (i3A (i3A (show (1210 : Int32) = i3 1210 from rfl) (i3M (show (12 : Int32) = i3 12 from rfl) (rfl : i3 a1 = i3 a1))) (show (6 : Int32) = i3 6 from rfl)) (by omega) (by omega) (by omega))))))) (by omega) (by omega) (by omega) (by omega)) (fun h95 => ?_) (fun h95 => ?_)
          · replace hP := zE_p hP h95
            refine wz_i0 (i3O (n := 4400) (i3A (i3A (show (1210 : Int32) = i3 1210 from rfl) (i3M (show (12 : Int32) = i3 12 from rfl) (rfl : i3 a1 = i3 a1))) (show (7 : Int32) = i3 7 from rfl)) (by omega) (by omega) (by omega)) ?_
            have r96 := zM_f hZ94I 2 0 0 (1217 + 12 * a1)
            obtain ⟨Z97, hZ97⟩ := zx (zu Z94 2 0 0 (1217 + 12 * a1) ((Z94 2 0 0 (1217 + 12 * a1)) + 0))
            replace hP := zl_e hP hZ97
            have hZ97I := zM_u2 hZ94I hZ97 (lo := -2147483648) (hi := 2147483647) (zs_1210_7 (x := a1) (by omega) (by omega) (by omega)) (by omega) ⟨by decide, by decide⟩ (by simp only [zsp]; omega)
            have hZ97U : zU [] Z Z97 := zU_u hZ94U hZ97 (Or.inl rfl)
            have hZ97K : zC [2] Z Z97 := zC_u hZ94K hZ97 (zcl_2w (by omega) rfl)
            intro μ9 e9
            replace e9 := e9.trans (zm_wI (Z := Z94) (ν := ν) hZ97 (show ((0 : Nat) : Int) = 0 from rfl) (show ((0 : Nat) : Int) = 0 from rfl) (i3I (y := (1217 + 12 * a1)) (i3A (i3A (show (1210 : Int32) = i3 1210 from rfl) (i3M (show (12 : Int32) = i3 12 from rfl) (rfl : i3 a1 = i3 a1))) (show (7 : Int32) = i3 7 from rfl)) (by omega) (by omega) (by omega)) (i3A (zm_rd (Z := Z94) (ν := ν) (k := 2) (show ((0 : Nat) : Int) = 0 from rfl) (show ((0 : Nat) : Int) = 0 from rfl) (i3I (y := (1217 + 12 * a1)) (i3A (i3A (show (1210 : Int32) = i3 1210 from rfl) (i3M (show (12 : Int32) = i3 12 from rfl) (rfl : i3 a1 = i3 a1))) (show (7 : Int32) = i3 7 from rfl)) (by omega) (by omega) (by omega))) (show (0 : Int32) = i3 0 from rfl)))
            subst e9
            refine wz_i0 (i3O (n := 4400) (i3A (i3A (show (1210 : Int32) = i3 1210 from rfl) (i3M (show (12 : Int32) = i3 12 from rfl) (rfl : i3 a1 = i3 a1))) (show (8 : Int32) = i3 8 from rfl)) (by omega) (by omega) (by omega)) ?_
            refine wz_br (i3E (zm_rd (Z := Z) (ν := ν) (k := 2) (show ((0 : Nat) : Int) = 0 from rfl) (show ((0 : Nat) : Int) = 0 from rfl) (i3I (y := (1213 + 12 * a1)) (i3A (i3A (show (1210 : Int32) = i3 1210 from rfl) (i3M (show (12 : Int32) = i3 12 from rfl) (rfl : i3 a1 = i3 a1))) (show (3 : Int32) = i3 3 from rfl)) (by omega) (by omega) (by omega))) (i3W (i3S (zm_rd (Z := Z) (ν := ν) (k := 2) (show ((0 : Nat) : Int) = 0 from rfl) (show ((0 : Nat) : Int) = 0 from rfl) (i3I (y := (1215 + 12 * a1)) (i3A (i3A (show (1210 : Int32) = i3 1210 from rfl) (i3M (show (12 : Int32) = i3 12 from rfl) (rfl : i3 a1 = i3 a1))) (show (5 : Int32) = i3 5 from rfl)) (by omega) (by omega) (by omega))) (i3W (i3A (zm_rd (Z := Z) (ν := ν) (k := 2) (show ((0 : Nat) : Int) = 0 from rfl) (show ((0 : Nat) : Int) = 0 from rfl) (i3I (y := (1212 + 12 * a1)) (i3A (i3A (show (1210 : Int32) = i3 1210 from rfl) (i3M (show (12 : Int32) = i3 12 from rfl) (rfl : i3 a1 = i3 a1))) (show (2 : Int32) = i3 2 from rfl)) (by omega) (by omega) (by omega))) (zm_rd (Z := Z) (ν := ν) (k := 2) (show ((0 : Nat) : Int) = 0 from rfl) (show ((0 : Nat) : Int) = 0 from rfl) (i3I (y := (1216 + 12 * a1)) (i3A (i3A (show (1210 : Int32) = i3 1210 from rfl) (i3M (show (12 : Int32) = i3 12 from rfl) (rfl : i3 a1 = i3 a1))) (show (6 : Int32) = i3 6 from rfl)) (by omega) (by omega) (by omega))))))) (by omega) (by omega) (by omega) (by omega)) (fun h98 => ?_) (fun h98 => ?_)
            · replace hP := zE_p hP h98
              refine wz_i0 (i3O (n := 4400) (i3A (i3A (show (1210 : Int32) = i3 1210 from rfl) (i3M (show (12 : Int32) = i3 12 from rfl) (rfl : i3 a1 = i3 a1))) (show (8 : Int32) = i3 8 from rfl)) (by omega) (by omega) (by omega)) ?_
              have r99 := zM_f hZ97I 2 0 0 (1218 + 12 * a1)
              obtain ⟨Z100, hZ100⟩ := zx (zu Z97 2 0 0 (1218 + 12 * a1) ((Z97 2 0 0 (1218 + 12 * a1)) + 0))
              replace hP := zl_e hP hZ100
              have hZ100I := zM_u2 hZ97I hZ100 (lo := -2147483648) (hi := 2147483647) (zs_1210_8 (x := a1) (by omega) (by omega) (by omega)) (by omega) ⟨by decide, by decide⟩ (by simp only [zsp]; omega)
              have hZ100U : zU [] Z Z100 := zU_u hZ97U hZ100 (Or.inl rfl)
              have hZ100K : zC [2] Z Z100 := zC_u hZ97K hZ100 (zcl_2w (by omega) rfl)
              intro μ9 e9
              replace e9 := e9.trans (zm_wI (Z := Z97) (ν := ν) hZ100 (show ((0 : Nat) : Int) = 0 from rfl) (show ((0 : Nat) : Int) = 0 from rfl) (i3I (y := (1218 + 12 * a1)) (i3A (i3A (show (1210 : Int32) = i3 1210 from rfl) (i3M (show (12 : Int32) = i3 12 from rfl) (rfl : i3 a1 = i3 a1))) (show (8 : Int32) = i3 8 from rfl)) (by omega) (by omega) (by omega)) (i3A (zm_rd (Z := Z97) (ν := ν) (k := 2) (show ((0 : Nat) : Int) = 0 from rfl) (show ((0 : Nat) : Int) = 0 from rfl) (i3I (y := (1218 + 12 * a1)) (i3A (i3A (show (1210 : Int32) = i3 1210 from rfl) (i3M (show (12 : Int32) = i3 12 from rfl) (rfl : i3 a1 = i3 a1))) (show (8 : Int32) = i3 8 from rfl)) (by omega) (by omega) (by omega))) (show (0 : Int32) = i3 0 from rfl)))
              subst e9
              refine wz_i0 (i3O (n := 4400) (i3A (i3A (show (1210 : Int32) = i3 1210 from rfl) (i3M (show (12 : Int32) = i3 12 from rfl) (rfl : i3 a1 = i3 a1))) (show (6 : Int32) = i3 6 from rfl)) (by omega) (by omega) (by omega)) ?_
              obtain ⟨Z101, hZ101⟩ := zx (zu Z100 2 0 0 (1216 + 12 * a1) 0)
              replace hP := zl_e hP hZ101
              have hZ101I := zM_02 hZ100I hZ101 (by simp only [zsp]; omega)
              have hZ101U : zU [] Z Z101 := zU_u hZ100U hZ101 (Or.inl rfl)
              have hZ101K : zC [2] Z Z101 := zC_u hZ100K hZ101 (zcl_2w (by omega) rfl)
              intro μ9 e9
              replace e9 := e9.trans (zm_wI (Z := Z100) (ν := ν) hZ101 (show ((0 : Nat) : Int) = 0 from rfl) (show ((0 : Nat) : Int) = 0 from rfl) (i3I (y := (1216 + 12 * a1)) (i3A (i3A (show (1210 : Int32) = i3 1210 from rfl) (i3M (show (12 : Int32) = i3 12 from rfl) (rfl : i3 a1 = i3 a1))) (show (6 : Int32) = i3 6 from rfl)) (by omega) (by omega) (by omega)) (show (0 : Int32) = i3 0 from rfl))
              subst e9
              exact zlV hP ⟨hZ101I, hZ101K, hZ101U⟩
            · replace hP := zE_n hP h98
              refine wz_i0 (i3O (n := 4400) (i3A (i3A (show (1210 : Int32) = i3 1210 from rfl) (i3M (show (12 : Int32) = i3 12 from rfl) (rfl : i3 a1 = i3 a1))) (show (8 : Int32) = i3 8 from rfl)) (by omega) (by omega) (by omega)) ?_
              have r102 := zM_f hZ97I 2 0 0 (1218 + 12 * a1)
              have r103 := w3_r ((Z97 2 0 0 (1218 + 12 * a1)) + 1)
              obtain ⟨Z104, hZ104⟩ := zx (zu Z97 2 0 0 (1218 + 12 * a1) (w3 ((Z97 2 0 0 (1218 + 12 * a1)) + 1)))
              replace hP := zl_e hP hZ104
              have hZ104I := zM_u2 hZ97I hZ104 (lo := -2147483648) (hi := 2147483647) (zs_1210_8 (x := a1) (by omega) (by omega) (by omega)) (by omega) ⟨by decide, by decide⟩ (by simp only [zsp]; omega)
              have hZ104U : zU [] Z Z104 := zU_u hZ97U hZ104 (Or.inl rfl)
              have hZ104K : zC [2] Z Z104 := zC_u hZ97K hZ104 (zcl_2w (by omega) rfl)
              intro μ9 e9
              replace e9 := e9.trans (zm_wI (Z := Z97) (ν := ν) hZ104 (show ((0 : Nat) : Int) = 0 from rfl) (show ((0 : Nat) : Int) = 0 from rfl) (i3I (y := (1218 + 12 * a1)) (i3A (i3A (show (1210 : Int32) = i3 1210 from rfl) (i3M (show (12 : Int32) = i3 12 from rfl) (rfl : i3 a1 = i3 a1))) (show (8 : Int32) = i3 8 from rfl)) (by omega) (by omega) (by omega)) (i3W (i3A (zm_rd (Z := Z97) (ν := ν) (k := 2) (show ((0 : Nat) : Int) = 0 from rfl) (show ((0 : Nat) : Int) = 0 from rfl) (i3I (y := (1218 + 12 * a1)) (i3A (i3A (show (1210 : Int32) = i3 1210 from rfl) (i3M (show (12 : Int32) = i3 12 from rfl) (rfl : i3 a1 = i3 a1))) (show (8 : Int32) = i3 8 from rfl)) (by omega) (by omega) (by omega))) (show (1 : Int32) = i3 1 from rfl))))
              subst e9
              refine wz_i0 (i3O (n := 4400) (i3A (i3A (show (1210 : Int32) = i3 1210 from rfl) (i3M (show (12 : Int32) = i3 12 from rfl) (rfl : i3 a1 = i3 a1))) (show (6 : Int32) = i3 6 from rfl)) (by omega) (by omega) (by omega)) ?_
              obtain ⟨Z105, hZ105⟩ := zx (zu Z104 2 0 0 (1216 + 12 * a1) 0)
              replace hP := zl_e hP hZ105
              have hZ105I := zM_02 hZ104I hZ105 (by simp only [zsp]; omega)
              have hZ105U : zU [] Z Z105 := zU_u hZ104U hZ105 (Or.inl rfl)
              have hZ105K : zC [2] Z Z105 := zC_u hZ104K hZ105 (zcl_2w (by omega) rfl)
              intro μ9 e9
              replace e9 := e9.trans (zm_wI (Z := Z104) (ν := ν) hZ105 (show ((0 : Nat) : Int) = 0 from rfl) (show ((0 : Nat) : Int) = 0 from rfl) (i3I (y := (1216 + 12 * a1)) (i3A (i3A (show (1210 : Int32) = i3 1210 from rfl) (i3M (show (12 : Int32) = i3 12 from rfl) (rfl : i3 a1 = i3 a1))) (show (6 : Int32) = i3 6 from rfl)) (by omega) (by omega) (by omega)) (show (0 : Int32) = i3 0 from rfl))
              subst e9
              exact zlV hP ⟨hZ105I, hZ105K, hZ105U⟩
          · replace hP := zE_n hP h95
            refine wz_i0 (i3O (n := 4400) (i3A (i3A (show (1210 : Int32) = i3 1210 from rfl) (i3M (show (12 : Int32) = i3 12 from rfl) (rfl : i3 a1 = i3 a1))) (show (7 : Int32) = i3 7 from rfl)) (by omega) (by omega) (by omega)) ?_
            have r106 := zM_f hZ94I 2 0 0 (1217 + 12 * a1)
            have r107 := w3_r ((Z94 2 0 0 (1217 + 12 * a1)) + 1)
            obtain ⟨Z108, hZ108⟩ := zx (zu Z94 2 0 0 (1217 + 12 * a1) (w3 ((Z94 2 0 0 (1217 + 12 * a1)) + 1)))
            replace hP := zl_e hP hZ108
            have hZ108I := zM_u2 hZ94I hZ108 (lo := -2147483648) (hi := 2147483647) (zs_1210_7 (x := a1) (by omega) (by omega) (by omega)) (by omega) ⟨by decide, by decide⟩ (by simp only [zsp]; omega)
            have hZ108U : zU [] Z Z108 := zU_u hZ94U hZ108 (Or.inl rfl)
            have hZ108K : zC [2] Z Z108 := zC_u hZ94K hZ108 (zcl_2w (by omega) rfl)
            intro μ9 e9
            replace e9 := e9.trans (zm_wI (Z := Z94) (ν := ν) hZ108 (show ((0 : Nat) : Int) = 0 from rfl) (show ((0 : Nat) : Int) = 0 from rfl) (i3I (y := (1217 + 12 * a1)) (i3A (i3A (show (1210 : Int32) = i3 1210 from rfl) (i3M (show (12 : Int32) = i3 12 from rfl) (rfl : i3 a1 = i3 a1))) (show (7 : Int32) = i3 7 from rfl)) (by omega) (by omega) (by omega)) (i3W (i3A (zm_rd (Z := Z94) (ν := ν) (k := 2) (show ((0 : Nat) : Int) = 0 from rfl) (show ((0 : Nat) : Int) = 0 from rfl) (i3I (y := (1217 + 12 * a1)) (i3A (i3A (show (1210 : Int32) = i3 1210 from rfl) (i3M (show (12 : Int32) = i3 12 from rfl) (rfl : i3 a1 = i3 a1))) (show (7 : Int32) = i3 7 from rfl)) (by omega) (by omega) (by omega))) (show (1 : Int32) = i3 1 from rfl))))
            subst e9
            refine wz_i0 (i3O (n := 4400) (i3A (i3A (show (1210 : Int32) = i3 1210 from rfl) (i3M (show (12 : Int32) = i3 12 from rfl) (rfl : i3 a1 = i3 a1))) (show (8 : Int32) = i3 8 from rfl)) (by omega) (by omega) (by omega)) ?_
            refine wz_br (i3E (zm_rd (Z := Z) (ν := ν) (k := 2) (show ((0 : Nat) : Int) = 0 from rfl) (show ((0 : Nat) : Int) = 0 from rfl) (i3I (y := (1213 + 12 * a1)) (i3A (i3A (show (1210 : Int32) = i3 1210 from rfl) (i3M (show (12 : Int32) = i3 12 from rfl) (rfl : i3 a1 = i3 a1))) (show (3 : Int32) = i3 3 from rfl)) (by omega) (by omega) (by omega))) (i3W (i3S (zm_rd (Z := Z) (ν := ν) (k := 2) (show ((0 : Nat) : Int) = 0 from rfl) (show ((0 : Nat) : Int) = 0 from rfl) (i3I (y := (1215 + 12 * a1)) (i3A (i3A (show (1210 : Int32) = i3 1210 from rfl) (i3M (show (12 : Int32) = i3 12 from rfl) (rfl : i3 a1 = i3 a1))) (show (5 : Int32) = i3 5 from rfl)) (by omega) (by omega) (by omega))) (i3W (i3A (zm_rd (Z := Z) (ν := ν) (k := 2) (show ((0 : Nat) : Int) = 0 from rfl) (show ((0 : Nat) : Int) = 0 from rfl) (i3I (y := (1212 + 12 * a1)) (i3A (i3A (show (1210 : Int32) = i3 1210 from rfl) (i3M (show (12 : Int32) = i3 12 from rfl) (rfl : i3 a1 = i3 a1))) (show (2 : Int32) = i3 2 from rfl)) (by omega) (by omega) (by omega))) (zm_rd (Z := Z) (ν := ν) (k := 2) (show ((0 : Nat) : Int) = 0 from rfl) (show ((0 : Nat) : Int) = 0 from rfl) (i3I (y := (1216 + 12 * a1)) (i3A (i3A (show (1210 : Int32) = i3 1210 from rfl) (i3M (show (12 : Int32) = i3 12 from rfl) (rfl : i3 a1 = i3 a1))) (show (6 : Int32) = i3 6 from rfl)) (by omega) (by omega) (by omega))))))) (by omega) (by omega) (by omega) (by omega)) (fun h109 => ?_) (fun h109 => ?_)
            · replace hP := zE_p hP h109
              refine wz_i0 (i3O (n := 4400) (i3A (i3A (show (1210 : Int32) = i3 1210 from rfl) (i3M (show (12 : Int32) = i3 12 from rfl) (rfl : i3 a1 = i3 a1))) (show (8 : Int32) = i3 8 from rfl)) (by omega) (by omega) (by omega)) ?_
              have r110 := zM_f hZ108I 2 0 0 (1218 + 12 * a1)
              obtain ⟨Z111, hZ111⟩ := zx (zu Z108 2 0 0 (1218 + 12 * a1) ((Z108 2 0 0 (1218 + 12 * a1)) + 0))
              replace hP := zl_e hP hZ111
              have hZ111I := zM_u2 hZ108I hZ111 (lo := -2147483648) (hi := 2147483647) (zs_1210_8 (x := a1) (by omega) (by omega) (by omega)) (by omega) ⟨by decide, by decide⟩ (by simp only [zsp]; omega)
              have hZ111U : zU [] Z Z111 := zU_u hZ108U hZ111 (Or.inl rfl)
              have hZ111K : zC [2] Z Z111 := zC_u hZ108K hZ111 (zcl_2w (by omega) rfl)
              intro μ9 e9
              replace e9 := e9.trans (zm_wI (Z := Z108) (ν := ν) hZ111 (show ((0 : Nat) : Int) = 0 from rfl) (show ((0 : Nat) : Int) = 0 from rfl) (i3I (y := (1218 + 12 * a1)) (i3A (i3A (show (1210 : Int32) = i3 1210 from rfl) (i3M (show (12 : Int32) = i3 12 from rfl) (rfl : i3 a1 = i3 a1))) (show (8 : Int32) = i3 8 from rfl)) (by omega) (by omega) (by omega)) (i3A (zm_rd (Z := Z108) (ν := ν) (k := 2) (show ((0 : Nat) : Int) = 0 from rfl) (show ((0 : Nat) : Int) = 0 from rfl) (i3I (y := (1218 + 12 * a1)) (i3A (i3A (show (1210 : Int32) = i3 1210 from rfl) (i3M (show (12 : Int32) = i3 12 from rfl) (rfl : i3 a1 = i3 a1))) (show (8 : Int32) = i3 8 from rfl)) (by omega) (by omega) (by omega))) (show (0 : Int32) = i3 0 from rfl)))
              subst e9
              refine wz_i0 (i3O (n := 4400) (i3A (i3A (show (1210 : Int32) = i3 1210 from rfl) (i3M (show (12 : Int32) = i3 12 from rfl) (rfl : i3 a1 = i3 a1))) (show (6 : Int32) = i3 6 from rfl)) (by omega) (by omega) (by omega)) ?_
              obtain ⟨Z112, hZ112⟩ := zx (zu Z111 2 0 0 (1216 + 12 * a1) 0)
              replace hP := zl_e hP hZ112
              have hZ112I := zM_02 hZ111I hZ112 (by simp only [zsp]; omega)
              have hZ112U : zU [] Z Z112 := zU_u hZ111U hZ112 (Or.inl rfl)
              have hZ112K : zC [2] Z Z112 := zC_u hZ111K hZ112 (zcl_2w (by omega) rfl)
              intro μ9 e9
              replace e9 := e9.trans (zm_wI (Z := Z111) (ν := ν) hZ112 (show ((0 : Nat) : Int) = 0 from rfl) (show ((0 : Nat) : Int) = 0 from rfl) (i3I (y := (1216 + 12 * a1)) (i3A (i3A (show (1210 : Int32) = i3 1210 from rfl) (i3M (show (12 : Int32) = i3 12 from rfl) (rfl : i3 a1 = i3 a1))) (show (6 : Int32) = i3 6 from rfl)) (by omega) (by omega) (by omega)) (show (0 : Int32) = i3 0 from rfl))
              subst e9
              exact zlV hP ⟨hZ112I, hZ112K, hZ112U⟩
            · replace hP := zE_n hP h109
              refine wz_i0 (i3O (n := 4400) (i3A (i3A (show (1210 : Int32) = i3 1210 from rfl) (i3M (show (12 : Int32) = i3 12 from rfl) (rfl : i3 a1 = i3 a1))) (show (8 : Int32) = i3 8 from rfl)) (by omega) (by omega) (by omega)) ?_
              have r113 := zM_f hZ108I 2 0 0 (1218 + 12 * a1)
              have r114 := w3_r ((Z108 2 0 0 (1218 + 12 * a1)) + 1)
              obtain ⟨Z115, hZ115⟩ := zx (zu Z108 2 0 0 (1218 + 12 * a1) (w3 ((Z108 2 0 0 (1218 + 12 * a1)) + 1)))
              replace hP := zl_e hP hZ115
              have hZ115I := zM_u2 hZ108I hZ115 (lo := -2147483648) (hi := 2147483647) (zs_1210_8 (x := a1) (by omega) (by omega) (by omega)) (by omega) ⟨by decide, by decide⟩ (by simp only [zsp]; omega)
              have hZ115U : zU [] Z Z115 := zU_u hZ108U hZ115 (Or.inl rfl)
              have hZ115K : zC [2] Z Z115 := zC_u hZ108K hZ115 (zcl_2w (by omega) rfl)
              intro μ9 e9
              replace e9 := e9.trans (zm_wI (Z := Z108) (ν := ν) hZ115 (show ((0 : Nat) : Int) = 0 from rfl) (show ((0 : Nat) : Int) = 0 from rfl) (i3I (y := (1218 + 12 * a1)) (i3A (i3A (show (1210 : Int32) = i3 1210 from rfl) (i3M (show (12 : Int32) = i3 12 from rfl) (rfl : i3 a1 = i3 a1))) (show (8 : Int32) = i3 8 from rfl)) (by omega) (by omega) (by omega)) (i3W (i3A (zm_rd (Z := Z108) (ν := ν) (k := 2) (show ((0 : Nat) : Int) = 0 from rfl) (show ((0 : Nat) : Int) = 0 from rfl) (i3I (y := (1218 + 12 * a1)) (i3A (i3A (show (1210 : Int32) = i3 1210 from rfl) (i3M (show (12 : Int32) = i3 12 from rfl) (rfl : i3 a1 = i3 a1))) (show (8 : Int32) = i3 8 from rfl)) (by omega) (by omega) (by omega))) (show (1 : Int32) = i3 1 from rfl))))
              subst e9
              refine wz_i0 (i3O (n := 4400) (i3A (i3A (show (1210 : Int32) = i3 1210 from rfl) (i3M (show (12 : Int32) = i3 12 from rfl) (rfl : i3 a1 = i3 a1))) (show (6 : Int32) = i3 6 from rfl)) (by omega) (by omega) (by omega)) ?_
              obtain ⟨Z116, hZ116⟩ := zx (zu Z115 2 0 0 (1216 + 12 * a1) 0)
              replace hP := zl_e hP hZ116
              have hZ116I := zM_02 hZ115I hZ116 (by simp only [zsp]; omega)
              have hZ116U : zU [] Z Z116 := zU_u hZ115U hZ116 (Or.inl rfl)
              have hZ116K : zC [2] Z Z116 := zC_u hZ115K hZ116 (zcl_2w (by omega) rfl)
              intro μ9 e9
              replace e9 := e9.trans (zm_wI (Z := Z115) (ν := ν) hZ116 (show ((0 : Nat) : Int) = 0 from rfl) (show ((0 : Nat) : Int) = 0 from rfl) (i3I (y := (1216 + 12 * a1)) (i3A (i3A (show (1210 : Int32) = i3 1210 from rfl) (i3M (show (12 : Int32) = i3 12 from rfl) (rfl : i3 a1 = i3 a1))) (show (6 : Int32) = i3 6 from rfl)) (by omega) (by omega) (by omega)) (show (0 : Int32) = i3 0 from rfl))
              subst e9
              exact zlV hP ⟨hZ116I, hZ116K, hZ116U⟩
        · replace hP := zE_n hP h93
          refine wz_i0 (i3O (n := 4400) (i3A (i3A (show (1210 : Int32) = i3 1210 from rfl) (i3M (show (12 : Int32) = i3 12 from rfl) (rfl : i3 a1 = i3 a1))) (show (5 : Int32) = i3 5 from rfl)) (by omega) (by omega) (by omega)) ?_
          obtain ⟨Z117, hZ117⟩ := zx (zu Z 2 0 0 (1215 + 12 * a1) ((w3 ((Z 2 0 0 (1215 + 12 * a1)) - (w3 ((Z 2 0 0 (1212 + 12 * a1)) + (Z 2 0 0 (1216 + 12 * a1)))))) - (Z 2 0 0 (1211 + 12 * a1))))
          replace hP := zl_e hP hZ117
          have hZ117I := zM_u2 hZ hZ117 (lo := 0) (hi := 40) (zs_1210_5 (x := a1) (by omega) (by omega) (by omega)) (by omega) ⟨by decide, by decide⟩ (by simp only [zsp]; omega)
          have hZ117U : zU [] Z Z117 := zU_u zU_r hZ117 (Or.inl rfl)
          have hZ117K : zC [2] Z Z117 := zC_u zC_r hZ117 (zcl_2w (by omega) rfl)
          intro μ9 e9
          replace e9 := e9.trans (zm_wI (Z := Z) (ν := ν) hZ117 (show ((0 : Nat) : Int) = 0 from rfl) (show ((0 : Nat) : Int) = 0 from rfl) (i3I (y := (1215 + 12 * a1)) (i3A (i3A (show (1210 : Int32) = i3 1210 from rfl) (i3M (show (12 : Int32) = i3 12 from rfl) (rfl : i3 a1 = i3 a1))) (show (5 : Int32) = i3 5 from rfl)) (by omega) (by omega) (by omega)) (i3S (i3W (i3S (zm_rd (Z := Z) (ν := ν) (k := 2) (show ((0 : Nat) : Int) = 0 from rfl) (show ((0 : Nat) : Int) = 0 from rfl) (i3I (y := (1215 + 12 * a1)) (i3A (i3A (show (1210 : Int32) = i3 1210 from rfl) (i3M (show (12 : Int32) = i3 12 from rfl) (rfl : i3 a1 = i3 a1))) (show (5 : Int32) = i3 5 from rfl)) (by omega) (by omega) (by omega))) (i3W (i3A (zm_rd (Z := Z) (ν := ν) (k := 2) (show ((0 : Nat) : Int) = 0 from rfl) (show ((0 : Nat) : Int) = 0 from rfl) (i3I (y := (1212 + 12 * a1)) (i3A (i3A (show (1210 : Int32) = i3 1210 from rfl) (i3M (show (12 : Int32) = i3 12 from rfl) (rfl : i3 a1 = i3 a1))) (show (2 : Int32) = i3 2 from rfl)) (by omega) (by omega) (by omega))) (zm_rd (Z := Z) (ν := ν) (k := 2) (show ((0 : Nat) : Int) = 0 from rfl) (show ((0 : Nat) : Int) = 0 from rfl) (i3I (y := (1216 + 12 * a1)) (i3A (i3A (show (1210 : Int32) = i3 1210 from rfl) (i3M (show (12 : Int32) = i3 12 from rfl) (rfl : i3 a1 = i3 a1))) (show (6 : Int32) = i3 6 from rfl)) (by omega) (by omega) (by omega))))))) (zm_rd (Z := Z) (ν := ν) (k := 2) (show ((0 : Nat) : Int) = 0 from rfl) (show ((0 : Nat) : Int) = 0 from rfl) (i3I (y := (1211 + 12 * a1)) (i3A (i3A (show (1210 : Int32) = i3 1210 from rfl) (i3M (show (12 : Int32) = i3 12 from rfl) (rfl : i3 a1 = i3 a1))) (show (1 : Int32) = i3 1 from rfl)) (by omega) (by omega) (by omega)))))
          subst e9
          refine wz_i0 (i3O (n := 4400) (i3A (i3A (show (1210 : Int32) = i3 1210 from rfl) (i3M (show (12 : Int32) = i3 12 from rfl) (rfl : i3 a1 = i3 a1))) (show (7 : Int32) = i3 7 from rfl)) (by omega) (by omega) (by omega)) ?_
          refine wz_br (i3E (i3S (i3W (i3S (zm_rd (Z := Z) (ν := ν) (k := 2) (show ((0 : Nat) : Int) = 0 from rfl) (show ((0 : Nat) : Int) = 0 from rfl) (i3I (y := (1215 + 12 * a1)) (i3A (i3A (show (1210 : Int32) = i3 1210 from rfl) (i3M (show (12 : Int32) = i3 12 from rfl) (rfl : i3 a1 = i3 a1))) (show (5 : Int32) = i3 5 from rfl)) (by omega) (by omega) (by omega))) (i3W (i3A (zm_rd (Z := Z) (ν := ν) (k := 2) (show ((0 : Nat) : Int) = 0 from rfl) (show ((0 : Nat) : Int) = 0 from rfl) (i3I (y := (1212 + 12 * a1)) (i3A (i3A (show (1210 : Int32) = i3 1210 from rfl) (i3M (show (12 : Int32) = i3 12 from rfl) (rfl : i3 a1 = i3 a1))) (show (2 : Int32) = i3 2 from rfl)) (by omega) (by omega) (by omega))) (zm_rd (Z := Z) (ν := ν) (k := 2) (show ((0 : Nat) : Int) = 0 from rfl) (show ((0 : Nat) : Int) = 0 from rfl) (i3I (y := (1216 + 12 * a1)) (i3A (i3A (show (1210 : Int32) = i3 1210 from rfl) (i3M (show (12 : Int32) = i3 12 from rfl) (rfl : i3 a1 = i3 a1))) (show (6 : Int32) = i3 6 from rfl)) (by omega) (by omega) (by omega))))))) (zm_rd (Z := Z) (ν := ν) (k := 2) (show ((0 : Nat) : Int) = 0 from rfl) (show ((0 : Nat) : Int) = 0 from rfl) (i3I (y := (1211 + 12 * a1)) (i3A (i3A (show (1210 : Int32) = i3 1210 from rfl) (i3M (show (12 : Int32) = i3 12 from rfl) (rfl : i3 a1 = i3 a1))) (show (1 : Int32) = i3 1 from rfl)) (by omega) (by omega) (by omega)))) (i3W (i3S (zm_rd (Z := Z) (ν := ν) (k := 2) (show ((0 : Nat) : Int) = 0 from rfl) (show ((0 : Nat) : Int) = 0 from rfl) (i3I (y := (1215 + 12 * a1)) (i3A (i3A (show (1210 : Int32) = i3 1210 from rfl) (i3M (show (12 : Int32) = i3 12 from rfl) (rfl : i3 a1 = i3 a1))) (show (5 : Int32) = i3 5 from rfl)) (by omega) (by omega) (by omega))) (i3W (i3A (zm_rd (Z := Z) (ν := ν) (k := 2) (show ((0 : Nat) : Int) = 0 from rfl) (show ((0 : Nat) : Int) = 0 from rfl) (i3I (y := (1212 + 12 * a1)) (i3A (i3A (show (1210 : Int32) = i3 1210 from rfl) (i3M (show (12 : Int32) = i3 12 from rfl) (rfl : i3 a1 = i3 a1))) (show (2 : Int32) = i3 2 from rfl)) (by omega) (by omega) (by omega))) (zm_rd (Z := Z) (ν := ν) (k := 2) (show ((0 : Nat) : Int) = 0 from rfl) (show ((0 : Nat) : Int) = 0 from rfl) (i3I (y := (1216 + 12 * a1)) (i3A (i3A (show (1210 : Int32) = i3 1210 from rfl) (i3M (show (12 : Int32) = i3 12 from rfl) (rfl : i3 a1 = i3 a1))) (show (6 : Int32) = i3 6 from rfl)) (by omega) (by omega) (by omega))))))) (by omega) (by omega) (by omega) (by omega)) (fun h118 => ?_) (fun h118 => ?_)
          · replace hP := zE_p hP h118
            refine wz_i0 (i3O (n := 4400) (i3A (i3A (show (1210 : Int32) = i3 1210 from rfl) (i3M (show (12 : Int32) = i3 12 from rfl) (rfl : i3 a1 = i3 a1))) (show (7 : Int32) = i3 7 from rfl)) (by omega) (by omega) (by omega)) ?_
            have r119 := zM_f hZ117I 2 0 0 (1217 + 12 * a1)
            obtain ⟨Z120, hZ120⟩ := zx (zu Z117 2 0 0 (1217 + 12 * a1) ((Z117 2 0 0 (1217 + 12 * a1)) + 0))
            replace hP := zl_e hP hZ120
            have hZ120I := zM_u2 hZ117I hZ120 (lo := -2147483648) (hi := 2147483647) (zs_1210_7 (x := a1) (by omega) (by omega) (by omega)) (by omega) ⟨by decide, by decide⟩ (by simp only [zsp]; omega)
            have hZ120U : zU [] Z Z120 := zU_u hZ117U hZ120 (Or.inl rfl)
            have hZ120K : zC [2] Z Z120 := zC_u hZ117K hZ120 (zcl_2w (by omega) rfl)
            intro μ9 e9
            replace e9 := e9.trans (zm_wI (Z := Z117) (ν := ν) hZ120 (show ((0 : Nat) : Int) = 0 from rfl) (show ((0 : Nat) : Int) = 0 from rfl) (i3I (y := (1217 + 12 * a1)) (i3A (i3A (show (1210 : Int32) = i3 1210 from rfl) (i3M (show (12 : Int32) = i3 12 from rfl) (rfl : i3 a1 = i3 a1))) (show (7 : Int32) = i3 7 from rfl)) (by omega) (by omega) (by omega)) (i3A (zm_rd (Z := Z117) (ν := ν) (k := 2) (show ((0 : Nat) : Int) = 0 from rfl) (show ((0 : Nat) : Int) = 0 from rfl) (i3I (y := (1217 + 12 * a1)) (i3A (i3A (show (1210 : Int32) = i3 1210 from rfl) (i3M (show (12 : Int32) = i3 12 from rfl) (rfl : i3 a1 = i3 a1))) (show (7 : Int32) = i3 7 from rfl)) (by omega) (by omega) (by omega))) (show (0 : Int32) = i3 0 from rfl)))
            subst e9
            refine wz_i0 (i3O (n := 4400) (i3A (i3A (show (1210 : Int32) = i3 1210 from rfl) (i3M (show (12 : Int32) = i3 12 from rfl) (rfl : i3 a1 = i3 a1))) (show (8 : Int32) = i3 8 from rfl)) (by omega) (by omega) (by omega)) ?_
            refine wz_i1 (Eq.trans (i3E (i3S (i3W (i3S (zm_rd (Z := Z) (ν := ν) (k := 2) (show ((0 : Nat) : Int) = 0 from rfl) (show ((0 : Nat) : Int) = 0 from rfl) (i3I (y := (1215 + 12 * a1)) (i3A (i3A (show (1210 : Int32) = i3 1210 from rfl) (i3M (show (12 : Int32) = i3 12 from rfl) (rfl : i3 a1 = i3 a1))) (show (5 : Int32) = i3 5 from rfl)) (by omega) (by omega) (by omega))) (i3W (i3A (zm_rd (Z := Z) (ν := ν) (k := 2) (show ((0 : Nat) : Int) = 0 from rfl) (show ((0 : Nat) : Int) = 0 from rfl) (i3I (y := (1212 + 12 * a1)) (i3A (i3A (show (1210 : Int32) = i3 1210 from rfl) (i3M (show (12 : Int32) = i3 12 from rfl) (rfl : i3 a1 = i3 a1))) (show (2 : Int32) = i3 2 from rfl)) (by omega) (by omega) (by omega))) (zm_rd (Z := Z) (ν := ν) (k := 2) (show ((0 : Nat) : Int) = 0 from rfl) (show ((0 : Nat) : Int) = 0 from rfl) (i3I (y := (1216 + 12 * a1)) (i3A (i3A (show (1210 : Int32) = i3 1210 from rfl) (i3M (show (12 : Int32) = i3 12 from rfl) (rfl : i3 a1 = i3 a1))) (show (6 : Int32) = i3 6 from rfl)) (by omega) (by omega) (by omega))))))) (zm_rd (Z := Z) (ν := ν) (k := 2) (show ((0 : Nat) : Int) = 0 from rfl) (show ((0 : Nat) : Int) = 0 from rfl) (i3I (y := (1211 + 12 * a1)) (i3A (i3A (show (1210 : Int32) = i3 1210 from rfl) (i3M (show (12 : Int32) = i3 12 from rfl) (rfl : i3 a1 = i3 a1))) (show (1 : Int32) = i3 1 from rfl)) (by omega) (by omega) (by omega)))) (i3W (i3S (zm_rd (Z := Z) (ν := ν) (k := 2) (show ((0 : Nat) : Int) = 0 from rfl) (show ((0 : Nat) : Int) = 0 from rfl) (i3I (y := (1215 + 12 * a1)) (i3A (i3A (show (1210 : Int32) = i3 1210 from rfl) (i3M (show (12 : Int32) = i3 12 from rfl) (rfl : i3 a1 = i3 a1))) (show (5 : Int32) = i3 5 from rfl)) (by omega) (by omega) (by omega))) (i3W (i3A (zm_rd (Z := Z) (ν := ν) (k := 2) (show ((0 : Nat) : Int) = 0 from rfl) (show ((0 : Nat) : Int) = 0 from rfl) (i3I (y := (1212 + 12 * a1)) (i3A (i3A (show (1210 : Int32) = i3 1210 from rfl) (i3M (show (12 : Int32) = i3 12 from rfl) (rfl : i3 a1 = i3 a1))) (show (2 : Int32) = i3 2 from rfl)) (by omega) (by omega) (by omega))) (zm_rd (Z := Z) (ν := ν) (k := 2) (show ((0 : Nat) : Int) = 0 from rfl) (show ((0 : Nat) : Int) = 0 from rfl) (i3I (y := (1216 + 12 * a1)) (i3A (i3A (show (1210 : Int32) = i3 1210 from rfl) (i3M (show (12 : Int32) = i3 12 from rfl) (rfl : i3 a1 = i3 a1))) (show (6 : Int32) = i3 6 from rfl)) (by omega) (by omega) (by omega))))))) (by omega) (by omega) (by omega) (by omega)) (decide_eq_true (by omega))) ?_
            refine wz_i0 (i3O (n := 4400) (i3A (i3A (show (1210 : Int32) = i3 1210 from rfl) (i3M (show (12 : Int32) = i3 12 from rfl) (rfl : i3 a1 = i3 a1))) (show (8 : Int32) = i3 8 from rfl)) (by omega) (by omega) (by omega)) ?_
            have r121 := zM_f hZ120I 2 0 0 (1218 + 12 * a1)
            obtain ⟨Z122, hZ122⟩ := zx (zu Z120 2 0 0 (1218 + 12 * a1) ((Z120 2 0 0 (1218 + 12 * a1)) + 0))
            replace hP := zl_e hP hZ122
            have hZ122I := zM_u2 hZ120I hZ122 (lo := -2147483648) (hi := 2147483647) (zs_1210_8 (x := a1) (by omega) (by omega) (by omega)) (by omega) ⟨by decide, by decide⟩ (by simp only [zsp]; omega)
            have hZ122U : zU [] Z Z122 := zU_u hZ120U hZ122 (Or.inl rfl)
            have hZ122K : zC [2] Z Z122 := zC_u hZ120K hZ122 (zcl_2w (by omega) rfl)
            intro μ9 e9
            replace e9 := e9.trans (zm_wI (Z := Z120) (ν := ν) hZ122 (show ((0 : Nat) : Int) = 0 from rfl) (show ((0 : Nat) : Int) = 0 from rfl) (i3I (y := (1218 + 12 * a1)) (i3A (i3A (show (1210 : Int32) = i3 1210 from rfl) (i3M (show (12 : Int32) = i3 12 from rfl) (rfl : i3 a1 = i3 a1))) (show (8 : Int32) = i3 8 from rfl)) (by omega) (by omega) (by omega)) (i3A (zm_rd (Z := Z120) (ν := ν) (k := 2) (show ((0 : Nat) : Int) = 0 from rfl) (show ((0 : Nat) : Int) = 0 from rfl) (i3I (y := (1218 + 12 * a1)) (i3A (i3A (show (1210 : Int32) = i3 1210 from rfl) (i3M (show (12 : Int32) = i3 12 from rfl) (rfl : i3 a1 = i3 a1))) (show (8 : Int32) = i3 8 from rfl)) (by omega) (by omega) (by omega))) (show (0 : Int32) = i3 0 from rfl)))
            subst e9
            refine wz_i0 (i3O (n := 4400) (i3A (i3A (show (1210 : Int32) = i3 1210 from rfl) (i3M (show (12 : Int32) = i3 12 from rfl) (rfl : i3 a1 = i3 a1))) (show (6 : Int32) = i3 6 from rfl)) (by omega) (by omega) (by omega)) ?_
            obtain ⟨Z123, hZ123⟩ := zx (zu Z122 2 0 0 (1216 + 12 * a1) 0)
            replace hP := zl_e hP hZ123
            have hZ123I := zM_02 hZ122I hZ123 (by simp only [zsp]; omega)
            have hZ123U : zU [] Z Z123 := zU_u hZ122U hZ123 (Or.inl rfl)
            have hZ123K : zC [2] Z Z123 := zC_u hZ122K hZ123 (zcl_2w (by omega) rfl)
            intro μ9 e9
            replace e9 := e9.trans (zm_wI (Z := Z122) (ν := ν) hZ123 (show ((0 : Nat) : Int) = 0 from rfl) (show ((0 : Nat) : Int) = 0 from rfl) (i3I (y := (1216 + 12 * a1)) (i3A (i3A (show (1210 : Int32) = i3 1210 from rfl) (i3M (show (12 : Int32) = i3 12 from rfl) (rfl : i3 a1 = i3 a1))) (show (6 : Int32) = i3 6 from rfl)) (by omega) (by omega) (by omega)) (show (0 : Int32) = i3 0 from rfl))
            subst e9
            exact zlV hP ⟨hZ123I, hZ123K, hZ123U⟩
          · replace hP := zE_n hP h118
            refine wz_i0 (i3O (n := 4400) (i3A (i3A (show (1210 : Int32) = i3 1210 from rfl) (i3M (show (12 : Int32) = i3 12 from rfl) (rfl : i3 a1 = i3 a1))) (show (7 : Int32) = i3 7 from rfl)) (by omega) (by omega) (by omega)) ?_
            have r124 := zM_f hZ117I 2 0 0 (1217 + 12 * a1)
            have r125 := w3_r ((Z117 2 0 0 (1217 + 12 * a1)) + 1)
            obtain ⟨Z126, hZ126⟩ := zx (zu Z117 2 0 0 (1217 + 12 * a1) (w3 ((Z117 2 0 0 (1217 + 12 * a1)) + 1)))
            replace hP := zl_e hP hZ126
            have hZ126I := zM_u2 hZ117I hZ126 (lo := -2147483648) (hi := 2147483647) (zs_1210_7 (x := a1) (by omega) (by omega) (by omega)) (by omega) ⟨by decide, by decide⟩ (by simp only [zsp]; omega)
            have hZ126U : zU [] Z Z126 := zU_u hZ117U hZ126 (Or.inl rfl)
            have hZ126K : zC [2] Z Z126 := zC_u hZ117K hZ126 (zcl_2w (by omega) rfl)
            intro μ9 e9
            replace e9 := e9.trans (zm_wI (Z := Z117) (ν := ν) hZ126 (show ((0 : Nat) : Int) = 0 from rfl) (show ((0 : Nat) : Int) = 0 from rfl) (i3I (y := (1217 + 12 * a1)) (i3A (i3A (show (1210 : Int32) = i3 1210 from rfl) (i3M (show (12 : Int32) = i3 12 from rfl) (rfl : i3 a1 = i3 a1))) (show (7 : Int32) = i3 7 from rfl)) (by omega) (by omega) (by omega)) (i3W (i3A (zm_rd (Z := Z117) (ν := ν) (k := 2) (show ((0 : Nat) : Int) = 0 from rfl) (show ((0 : Nat) : Int) = 0 from rfl) (i3I (y := (1217 + 12 * a1)) (i3A (i3A (show (1210 : Int32) = i3 1210 from rfl) (i3M (show (12 : Int32) = i3 12 from rfl) (rfl : i3 a1 = i3 a1))) (show (7 : Int32) = i3 7 from rfl)) (by omega) (by omega) (by omega))) (show (1 : Int32) = i3 1 from rfl))))
            subst e9
            refine wz_i0 (i3O (n := 4400) (i3A (i3A (show (1210 : Int32) = i3 1210 from rfl) (i3M (show (12 : Int32) = i3 12 from rfl) (rfl : i3 a1 = i3 a1))) (show (8 : Int32) = i3 8 from rfl)) (by omega) (by omega) (by omega)) ?_
            refine wz_i0 (Eq.trans (i3E (i3S (i3W (i3S (zm_rd (Z := Z) (ν := ν) (k := 2) (show ((0 : Nat) : Int) = 0 from rfl) (show ((0 : Nat) : Int) = 0 from rfl) (i3I (y := (1215 + 12 * a1)) (i3A (i3A (show (1210 : Int32) = i3 1210 from rfl) (i3M (show (12 : Int32) = i3 12 from rfl) (rfl : i3 a1 = i3 a1))) (show (5 : Int32) = i3 5 from rfl)) (by omega) (by omega) (by omega))) (i3W (i3A (zm_rd (Z := Z) (ν := ν) (k := 2) (show ((0 : Nat) : Int) = 0 from rfl) (show ((0 : Nat) : Int) = 0 from rfl) (i3I (y := (1212 + 12 * a1)) (i3A (i3A (show (1210 : Int32) = i3 1210 from rfl) (i3M (show (12 : Int32) = i3 12 from rfl) (rfl : i3 a1 = i3 a1))) (show (2 : Int32) = i3 2 from rfl)) (by omega) (by omega) (by omega))) (zm_rd (Z := Z) (ν := ν) (k := 2) (show ((0 : Nat) : Int) = 0 from rfl) (show ((0 : Nat) : Int) = 0 from rfl) (i3I (y := (1216 + 12 * a1)) (i3A (i3A (show (1210 : Int32) = i3 1210 from rfl) (i3M (show (12 : Int32) = i3 12 from rfl) (rfl : i3 a1 = i3 a1))) (show (6 : Int32) = i3 6 from rfl)) (by omega) (by omega) (by omega))))))) (zm_rd (Z := Z) (ν := ν) (k := 2) (show ((0 : Nat) : Int) = 0 from rfl) (show ((0 : Nat) : Int) = 0 from rfl) (i3I (y := (1211 + 12 * a1)) (i3A (i3A (show (1210 : Int32) = i3 1210 from rfl) (i3M (show (12 : Int32) = i3 12 from rfl) (rfl : i3 a1 = i3 a1))) (show (1 : Int32) = i3 1 from rfl)) (by omega) (by omega) (by omega)))) (i3W (i3S (zm_rd (Z := Z) (ν := ν) (k := 2) (show ((0 : Nat) : Int) = 0 from rfl) (show ((0 : Nat) : Int) = 0 from rfl) (i3I (y := (1215 + 12 * a1)) (i3A (i3A (show (1210 : Int32) = i3 1210 from rfl) (i3M (show (12 : Int32) = i3 12 from rfl) (rfl : i3 a1 = i3 a1))) (show (5 : Int32) = i3 5 from rfl)) (by omega) (by omega) (by omega))) (i3W (i3A (zm_rd (Z := Z) (ν := ν) (k := 2) (show ((0 : Nat) : Int) = 0 from rfl) (show ((0 : Nat) : Int) = 0 from rfl) (i3I (y := (1212 + 12 * a1)) (i3A (i3A (show (1210 : Int32) = i3 1210 from rfl) (i3M (show (12 : Int32) = i3 12 from rfl) (rfl : i3 a1 = i3 a1))) (show (2 : Int32) = i3 2 from rfl)) (by omega) (by omega) (by omega))) (zm_rd (Z := Z) (ν := ν) (k := 2) (show ((0 : Nat) : Int) = 0 from rfl) (show ((0 : Nat) : Int) = 0 from rfl) (i3I (y := (1216 + 12 * a1)) (i3A (i3A (show (1210 : Int32) = i3 1210 from rfl) (i3M (show (12 : Int32) = i3 12 from rfl) (rfl : i3 a1 = i3 a1))) (show (6 : Int32) = i3 6 from rfl)) (by omega) (by omega) (by omega))))))) (by omega) (by omega) (by omega) (by omega)) (decide_eq_false (by omega))) ?_
            refine wz_i0 (i3O (n := 4400) (i3A (i3A (show (1210 : Int32) = i3 1210 from rfl) (i3M (show (12 : Int32) = i3 12 from rfl) (rfl : i3 a1 = i3 a1))) (show (8 : Int32) = i3 8 from rfl)) (by omega) (by omega) (by omega)) ?_
            have r127 := zM_f hZ126I 2 0 0 (1218 + 12 * a1)
            have r128 := w3_r ((Z126 2 0 0 (1218 + 12 * a1)) + 1)
            obtain ⟨Z129, hZ129⟩ := zx (zu Z126 2 0 0 (1218 + 12 * a1) (w3 ((Z126 2 0 0 (1218 + 12 * a1)) + 1)))
            replace hP := zl_e hP hZ129
            have hZ129I := zM_u2 hZ126I hZ129 (lo := -2147483648) (hi := 2147483647) (zs_1210_8 (x := a1) (by omega) (by omega) (by omega)) (by omega) ⟨by decide, by decide⟩ (by simp only [zsp]; omega)
            have hZ129U : zU [] Z Z129 := zU_u hZ126U hZ129 (Or.inl rfl)
            have hZ129K : zC [2] Z Z129 := zC_u hZ126K hZ129 (zcl_2w (by omega) rfl)
            intro μ9 e9
            replace e9 := e9.trans (zm_wI (Z := Z126) (ν := ν) hZ129 (show ((0 : Nat) : Int) = 0 from rfl) (show ((0 : Nat) : Int) = 0 from rfl) (i3I (y := (1218 + 12 * a1)) (i3A (i3A (show (1210 : Int32) = i3 1210 from rfl) (i3M (show (12 : Int32) = i3 12 from rfl) (rfl : i3 a1 = i3 a1))) (show (8 : Int32) = i3 8 from rfl)) (by omega) (by omega) (by omega)) (i3W (i3A (zm_rd (Z := Z126) (ν := ν) (k := 2) (show ((0 : Nat) : Int) = 0 from rfl) (show ((0 : Nat) : Int) = 0 from rfl) (i3I (y := (1218 + 12 * a1)) (i3A (i3A (show (1210 : Int32) = i3 1210 from rfl) (i3M (show (12 : Int32) = i3 12 from rfl) (rfl : i3 a1 = i3 a1))) (show (8 : Int32) = i3 8 from rfl)) (by omega) (by omega) (by omega))) (show (1 : Int32) = i3 1 from rfl))))
            subst e9
            refine wz_i0 (i3O (n := 4400) (i3A (i3A (show (1210 : Int32) = i3 1210 from rfl) (i3M (show (12 : Int32) = i3 12 from rfl) (rfl : i3 a1 = i3 a1))) (show (6 : Int32) = i3 6 from rfl)) (by omega) (by omega) (by omega)) ?_
            obtain ⟨Z130, hZ130⟩ := zx (zu Z129 2 0 0 (1216 + 12 * a1) 0)
            replace hP := zl_e hP hZ130
            have hZ130I := zM_02 hZ129I hZ130 (by simp only [zsp]; omega)
            have hZ130U : zU [] Z Z130 := zU_u hZ129U hZ130 (Or.inl rfl)
            have hZ130K : zC [2] Z Z130 := zC_u hZ129K hZ130 (zcl_2w (by omega) rfl)
            intro μ9 e9
            replace e9 := e9.trans (zm_wI (Z := Z129) (ν := ν) hZ130 (show ((0 : Nat) : Int) = 0 from rfl) (show ((0 : Nat) : Int) = 0 from rfl) (i3I (y := (1216 + 12 * a1)) (i3A (i3A (show (1210 : Int32) = i3 1210 from rfl) (i3M (show (12 : Int32) = i3 12 from rfl) (rfl : i3 a1 = i3 a1))) (show (6 : Int32) = i3 6 from rfl)) (by omega) (by omega) (by omega)) (show (0 : Int32) = i3 0 from rfl))
            subst e9
            exact zlV hP ⟨hZ130I, hZ130K, hZ130U⟩
      · replace hP := zE_n hP h91
        have r131 := zM_k hZ 2 0 0 (1211 + 12 * a1) (lo := 0) (hi := 9) (by decide) (zs_1210_1 (x := a1) (by omega) (by omega) (by omega))
        refine wz_br (i3Le (zm_rd (Z := Z) (ν := ν) (k := 2) (show ((0 : Nat) : Int) = 0 from rfl) (show ((0 : Nat) : Int) = 0 from rfl) (i3I (y := (1213 + 12 * a1)) (i3A (i3A (show (1210 : Int32) = i3 1210 from rfl) (i3M (show (12 : Int32) = i3 12 from rfl) (rfl : i3 a1 = i3 a1))) (show (3 : Int32) = i3 3 from rfl)) (by omega) (by omega) (by omega))) (i3A (i3W (i3S (zm_rd (Z := Z) (ν := ν) (k := 2) (show ((0 : Nat) : Int) = 0 from rfl) (show ((0 : Nat) : Int) = 0 from rfl) (i3I (y := (1215 + 12 * a1)) (i3A (i3A (show (1210 : Int32) = i3 1210 from rfl) (i3M (show (12 : Int32) = i3 12 from rfl) (rfl : i3 a1 = i3 a1))) (show (5 : Int32) = i3 5 from rfl)) (by omega) (by omega) (by omega))) (i3W (i3A (zm_rd (Z := Z) (ν := ν) (k := 2) (show ((0 : Nat) : Int) = 0 from rfl) (show ((0 : Nat) : Int) = 0 from rfl) (i3I (y := (1212 + 12 * a1)) (i3A (i3A (show (1210 : Int32) = i3 1210 from rfl) (i3M (show (12 : Int32) = i3 12 from rfl) (rfl : i3 a1 = i3 a1))) (show (2 : Int32) = i3 2 from rfl)) (by omega) (by omega) (by omega))) (zm_rd (Z := Z) (ν := ν) (k := 2) (show ((0 : Nat) : Int) = 0 from rfl) (show ((0 : Nat) : Int) = 0 from rfl) (i3I (y := (1216 + 12 * a1)) (i3A (i3A (show (1210 : Int32) = i3 1210 from rfl) (i3M (show (12 : Int32) = i3 12 from rfl) (rfl : i3 a1 = i3 a1))) (show (6 : Int32) = i3 6 from rfl)) (by omega) (by omega) (by omega))))))) (zm_rd (Z := Z) (ν := ν) (k := 2) (show ((0 : Nat) : Int) = 0 from rfl) (show ((0 : Nat) : Int) = 0 from rfl) (i3I (y := (1211 + 12 * a1)) (i3A (i3A (show (1210 : Int32) = i3 1210 from rfl) (i3M (show (12 : Int32) = i3 12 from rfl) (rfl : i3 a1 = i3 a1))) (show (1 : Int32) = i3 1 from rfl)) (by omega) (by omega) (by omega)))) (by omega) (by omega) (by omega) (by omega)) (fun h132 => ?_) (fun h132 => ?_)
        · replace hP := zE_p hP h132
          refine wz_i0 (i3O (n := 4400) (i3A (i3A (show (1210 : Int32) = i3 1210 from rfl) (i3M (show (12 : Int32) = i3 12 from rfl) (rfl : i3 a1 = i3 a1))) (show (5 : Int32) = i3 5 from rfl)) (by omega) (by omega) (by omega)) ?_
          obtain ⟨Z133, hZ133⟩ := zx (zu Z 2 0 0 (1215 + 12 * a1) (Z 2 0 0 (1213 + 12 * a1)))
          replace hP := zl_e hP hZ133
          have hZ133I := zM_u2 hZ hZ133 (lo := 0) (hi := 40) (zs_1210_5 (x := a1) (by omega) (by omega) (by omega)) (by omega) ⟨by decide, by decide⟩ (by simp only [zsp]; omega)
          have hZ133U : zU [] Z Z133 := zU_u zU_r hZ133 (Or.inl rfl)
          have hZ133K : zC [2] Z Z133 := zC_u zC_r hZ133 (zcl_2w (by omega) rfl)
          intro μ9 e9
          replace e9 := e9.trans (zm_wI (Z := Z) (ν := ν) hZ133 (show ((0 : Nat) : Int) = 0 from rfl) (show ((0 : Nat) : Int) = 0 from rfl) (i3I (y := (1215 + 12 * a1)) (i3A (i3A (show (1210 : Int32) = i3 1210 from rfl) (i3M (show (12 : Int32) = i3 12 from rfl) (rfl : i3 a1 = i3 a1))) (show (5 : Int32) = i3 5 from rfl)) (by omega) (by omega) (by omega)) (zm_rd (Z := Z) (ν := ν) (k := 2) (show ((0 : Nat) : Int) = 0 from rfl) (show ((0 : Nat) : Int) = 0 from rfl) (i3I (y := (1213 + 12 * a1)) (i3A (i3A (show (1210 : Int32) = i3 1210 from rfl) (i3M (show (12 : Int32) = i3 12 from rfl) (rfl : i3 a1 = i3 a1))) (show (3 : Int32) = i3 3 from rfl)) (by omega) (by omega) (by omega))))
          subst e9
          refine wz_i0 (i3O (n := 4400) (i3A (i3A (show (1210 : Int32) = i3 1210 from rfl) (i3M (show (12 : Int32) = i3 12 from rfl) (rfl : i3 a1 = i3 a1))) (show (7 : Int32) = i3 7 from rfl)) (by omega) (by omega) (by omega)) ?_
          refine wz_br (i3E (zm_rd (Z := Z) (ν := ν) (k := 2) (show ((0 : Nat) : Int) = 0 from rfl) (show ((0 : Nat) : Int) = 0 from rfl) (i3I (y := (1213 + 12 * a1)) (i3A (i3A (show (1210 : Int32) = i3 1210 from rfl) (i3M (show (12 : Int32) = i3 12 from rfl) (rfl : i3 a1 = i3 a1))) (show (3 : Int32) = i3 3 from rfl)) (by omega) (by omega) (by omega))) (i3W (i3S (zm_rd (Z := Z) (ν := ν) (k := 2) (show ((0 : Nat) : Int) = 0 from rfl) (show ((0 : Nat) : Int) = 0 from rfl) (i3I (y := (1215 + 12 * a1)) (i3A (i3A (show (1210 : Int32) = i3 1210 from rfl) (i3M (show (12 : Int32) = i3 12 from rfl) (rfl : i3 a1 = i3 a1))) (show (5 : Int32) = i3 5 from rfl)) (by omega) (by omega) (by omega))) (i3W (i3A (zm_rd (Z := Z) (ν := ν) (k := 2) (show ((0 : Nat) : Int) = 0 from rfl) (show ((0 : Nat) : Int) = 0 from rfl) (i3I (y := (1212 + 12 * a1)) (i3A (i3A (show (1210 : Int32) = i3 1210 from rfl) (i3M (show (12 : Int32) = i3 12 from rfl) (rfl : i3 a1 = i3 a1))) (show (2 : Int32) = i3 2 from rfl)) (by omega) (by omega) (by omega))) (zm_rd (Z := Z) (ν := ν) (k := 2) (show ((0 : Nat) : Int) = 0 from rfl) (show ((0 : Nat) : Int) = 0 from rfl) (i3I (y := (1216 + 12 * a1)) (i3A (i3A (show (1210 : Int32) = i3 1210 from rfl) (i3M (show (12 : Int32) = i3 12 from rfl) (rfl : i3 a1 = i3 a1))) (show (6 : Int32) = i3 6 from rfl)) (by omega) (by omega) (by omega))))))) (by omega) (by omega) (by omega) (by omega)) (fun h134 => ?_) (fun h134 => ?_)
          · replace hP := zE_p hP h134
            refine wz_i0 (i3O (n := 4400) (i3A (i3A (show (1210 : Int32) = i3 1210 from rfl) (i3M (show (12 : Int32) = i3 12 from rfl) (rfl : i3 a1 = i3 a1))) (show (7 : Int32) = i3 7 from rfl)) (by omega) (by omega) (by omega)) ?_
            have r135 := zM_f hZ133I 2 0 0 (1217 + 12 * a1)
            obtain ⟨Z136, hZ136⟩ := zx (zu Z133 2 0 0 (1217 + 12 * a1) ((Z133 2 0 0 (1217 + 12 * a1)) + 0))
            replace hP := zl_e hP hZ136
            have hZ136I := zM_u2 hZ133I hZ136 (lo := -2147483648) (hi := 2147483647) (zs_1210_7 (x := a1) (by omega) (by omega) (by omega)) (by omega) ⟨by decide, by decide⟩ (by simp only [zsp]; omega)
            have hZ136U : zU [] Z Z136 := zU_u hZ133U hZ136 (Or.inl rfl)
            have hZ136K : zC [2] Z Z136 := zC_u hZ133K hZ136 (zcl_2w (by omega) rfl)
            intro μ9 e9
            replace e9 := e9.trans (zm_wI (Z := Z133) (ν := ν) hZ136 (show ((0 : Nat) : Int) = 0 from rfl) (show ((0 : Nat) : Int) = 0 from rfl) (i3I (y := (1217 + 12 * a1)) (i3A (i3A (show (1210 : Int32) = i3 1210 from rfl) (i3M (show (12 : Int32) = i3 12 from rfl) (rfl : i3 a1 = i3 a1))) (show (7 : Int32) = i3 7 from rfl)) (by omega) (by omega) (by omega)) (i3A (zm_rd (Z := Z133) (ν := ν) (k := 2) (show ((0 : Nat) : Int) = 0 from rfl) (show ((0 : Nat) : Int) = 0 from rfl) (i3I (y := (1217 + 12 * a1)) (i3A (i3A (show (1210 : Int32) = i3 1210 from rfl) (i3M (show (12 : Int32) = i3 12 from rfl) (rfl : i3 a1 = i3 a1))) (show (7 : Int32) = i3 7 from rfl)) (by omega) (by omega) (by omega))) (show (0 : Int32) = i3 0 from rfl)))
            subst e9
            refine wz_i0 (i3O (n := 4400) (i3A (i3A (show (1210 : Int32) = i3 1210 from rfl) (i3M (show (12 : Int32) = i3 12 from rfl) (rfl : i3 a1 = i3 a1))) (show (8 : Int32) = i3 8 from rfl)) (by omega) (by omega) (by omega)) ?_
            refine wz_br (i3E (zm_rd (Z := Z) (ν := ν) (k := 2) (show ((0 : Nat) : Int) = 0 from rfl) (show ((0 : Nat) : Int) = 0 from rfl) (i3I (y := (1213 + 12 * a1)) (i3A (i3A (show (1210 : Int32) = i3 1210 from rfl) (i3M (show (12 : Int32) = i3 12 from rfl) (rfl : i3 a1 = i3 a1))) (show (3 : Int32) = i3 3 from rfl)) (by omega) (by omega) (by omega))) (i3W (i3S (zm_rd (Z := Z) (ν := ν) (k := 2) (show ((0 : Nat) : Int) = 0 from rfl) (show ((0 : Nat) : Int) = 0 from rfl) (i3I (y := (1215 + 12 * a1)) (i3A (i3A (show (1210 : Int32) = i3 1210 from rfl) (i3M (show (12 : Int32) = i3 12 from rfl) (rfl : i3 a1 = i3 a1))) (show (5 : Int32) = i3 5 from rfl)) (by omega) (by omega) (by omega))) (i3W (i3A (zm_rd (Z := Z) (ν := ν) (k := 2) (show ((0 : Nat) : Int) = 0 from rfl) (show ((0 : Nat) : Int) = 0 from rfl) (i3I (y := (1212 + 12 * a1)) (i3A (i3A (show (1210 : Int32) = i3 1210 from rfl) (i3M (show (12 : Int32) = i3 12 from rfl) (rfl : i3 a1 = i3 a1))) (show (2 : Int32) = i3 2 from rfl)) (by omega) (by omega) (by omega))) (zm_rd (Z := Z) (ν := ν) (k := 2) (show ((0 : Nat) : Int) = 0 from rfl) (show ((0 : Nat) : Int) = 0 from rfl) (i3I (y := (1216 + 12 * a1)) (i3A (i3A (show (1210 : Int32) = i3 1210 from rfl) (i3M (show (12 : Int32) = i3 12 from rfl) (rfl : i3 a1 = i3 a1))) (show (6 : Int32) = i3 6 from rfl)) (by omega) (by omega) (by omega))))))) (by omega) (by omega) (by omega) (by omega)) (fun h137 => ?_) (fun h137 => ?_)
            · replace hP := zE_p hP h137
              refine wz_i0 (i3O (n := 4400) (i3A (i3A (show (1210 : Int32) = i3 1210 from rfl) (i3M (show (12 : Int32) = i3 12 from rfl) (rfl : i3 a1 = i3 a1))) (show (8 : Int32) = i3 8 from rfl)) (by omega) (by omega) (by omega)) ?_
              have r138 := zM_f hZ136I 2 0 0 (1218 + 12 * a1)
              obtain ⟨Z139, hZ139⟩ := zx (zu Z136 2 0 0 (1218 + 12 * a1) ((Z136 2 0 0 (1218 + 12 * a1)) + 0))
              replace hP := zl_e hP hZ139
              have hZ139I := zM_u2 hZ136I hZ139 (lo := -2147483648) (hi := 2147483647) (zs_1210_8 (x := a1) (by omega) (by omega) (by omega)) (by omega) ⟨by decide, by decide⟩ (by simp only [zsp]; omega)
              have hZ139U : zU [] Z Z139 := zU_u hZ136U hZ139 (Or.inl rfl)
              have hZ139K : zC [2] Z Z139 := zC_u hZ136K hZ139 (zcl_2w (by omega) rfl)
              intro μ9 e9
              replace e9 := e9.trans (zm_wI (Z := Z136) (ν := ν) hZ139 (show ((0 : Nat) : Int) = 0 from rfl) (show ((0 : Nat) : Int) = 0 from rfl) (i3I (y := (1218 + 12 * a1)) (i3A (i3A (show (1210 : Int32) = i3 1210 from rfl) (i3M (show (12 : Int32) = i3 12 from rfl) (rfl : i3 a1 = i3 a1))) (show (8 : Int32) = i3 8 from rfl)) (by omega) (by omega) (by omega)) (i3A (zm_rd (Z := Z136) (ν := ν) (k := 2) (show ((0 : Nat) : Int) = 0 from rfl) (show ((0 : Nat) : Int) = 0 from rfl) (i3I (y := (1218 + 12 * a1)) (i3A (i3A (show (1210 : Int32) = i3 1210 from rfl) (i3M (show (12 : Int32) = i3 12 from rfl) (rfl : i3 a1 = i3 a1))) (show (8 : Int32) = i3 8 from rfl)) (by omega) (by omega) (by omega))) (show (0 : Int32) = i3 0 from rfl)))
              subst e9
              refine wz_i0 (i3O (n := 4400) (i3A (i3A (show (1210 : Int32) = i3 1210 from rfl) (i3M (show (12 : Int32) = i3 12 from rfl) (rfl : i3 a1 = i3 a1))) (show (6 : Int32) = i3 6 from rfl)) (by omega) (by omega) (by omega)) ?_
              obtain ⟨Z140, hZ140⟩ := zx (zu Z139 2 0 0 (1216 + 12 * a1) 0)
              replace hP := zl_e hP hZ140
              have hZ140I := zM_02 hZ139I hZ140 (by simp only [zsp]; omega)
              have hZ140U : zU [] Z Z140 := zU_u hZ139U hZ140 (Or.inl rfl)
              have hZ140K : zC [2] Z Z140 := zC_u hZ139K hZ140 (zcl_2w (by omega) rfl)
              intro μ9 e9
              replace e9 := e9.trans (zm_wI (Z := Z139) (ν := ν) hZ140 (show ((0 : Nat) : Int) = 0 from rfl) (show ((0 : Nat) : Int) = 0 from rfl) (i3I (y := (1216 + 12 * a1)) (i3A (i3A (show (1210 : Int32) = i3 1210 from rfl) (i3M (show (12 : Int32) = i3 12 from rfl) (rfl : i3 a1 = i3 a1))) (show (6 : Int32) = i3 6 from rfl)) (by omega) (by omega) (by omega)) (show (0 : Int32) = i3 0 from rfl))
              subst e9
              exact zlV hP ⟨hZ140I, hZ140K, hZ140U⟩
            · replace hP := zE_n hP h137
              refine wz_i0 (i3O (n := 4400) (i3A (i3A (show (1210 : Int32) = i3 1210 from rfl) (i3M (show (12 : Int32) = i3 12 from rfl) (rfl : i3 a1 = i3 a1))) (show (8 : Int32) = i3 8 from rfl)) (by omega) (by omega) (by omega)) ?_
              have r141 := zM_f hZ136I 2 0 0 (1218 + 12 * a1)
              have r142 := w3_r ((Z136 2 0 0 (1218 + 12 * a1)) + 1)
              obtain ⟨Z143, hZ143⟩ := zx (zu Z136 2 0 0 (1218 + 12 * a1) (w3 ((Z136 2 0 0 (1218 + 12 * a1)) + 1)))
              replace hP := zl_e hP hZ143
              have hZ143I := zM_u2 hZ136I hZ143 (lo := -2147483648) (hi := 2147483647) (zs_1210_8 (x := a1) (by omega) (by omega) (by omega)) (by omega) ⟨by decide, by decide⟩ (by simp only [zsp]; omega)
              have hZ143U : zU [] Z Z143 := zU_u hZ136U hZ143 (Or.inl rfl)
              have hZ143K : zC [2] Z Z143 := zC_u hZ136K hZ143 (zcl_2w (by omega) rfl)
              intro μ9 e9
              replace e9 := e9.trans (zm_wI (Z := Z136) (ν := ν) hZ143 (show ((0 : Nat) : Int) = 0 from rfl) (show ((0 : Nat) : Int) = 0 from rfl) (i3I (y := (1218 + 12 * a1)) (i3A (i3A (show (1210 : Int32) = i3 1210 from rfl) (i3M (show (12 : Int32) = i3 12 from rfl) (rfl : i3 a1 = i3 a1))) (show (8 : Int32) = i3 8 from rfl)) (by omega) (by omega) (by omega)) (i3W (i3A (zm_rd (Z := Z136) (ν := ν) (k := 2) (show ((0 : Nat) : Int) = 0 from rfl) (show ((0 : Nat) : Int) = 0 from rfl) (i3I (y := (1218 + 12 * a1)) (i3A (i3A (show (1210 : Int32) = i3 1210 from rfl) (i3M (show (12 : Int32) = i3 12 from rfl) (rfl : i3 a1 = i3 a1))) (show (8 : Int32) = i3 8 from rfl)) (by omega) (by omega) (by omega))) (show (1 : Int32) = i3 1 from rfl))))
              subst e9
              refine wz_i0 (i3O (n := 4400) (i3A (i3A (show (1210 : Int32) = i3 1210 from rfl) (i3M (show (12 : Int32) = i3 12 from rfl) (rfl : i3 a1 = i3 a1))) (show (6 : Int32) = i3 6 from rfl)) (by omega) (by omega) (by omega)) ?_
              obtain ⟨Z144, hZ144⟩ := zx (zu Z143 2 0 0 (1216 + 12 * a1) 0)
              replace hP := zl_e hP hZ144
              have hZ144I := zM_02 hZ143I hZ144 (by simp only [zsp]; omega)
              have hZ144U : zU [] Z Z144 := zU_u hZ143U hZ144 (Or.inl rfl)
              have hZ144K : zC [2] Z Z144 := zC_u hZ143K hZ144 (zcl_2w (by omega) rfl)
              intro μ9 e9
              replace e9 := e9.trans (zm_wI (Z := Z143) (ν := ν) hZ144 (show ((0 : Nat) : Int) = 0 from rfl) (show ((0 : Nat) : Int) = 0 from rfl) (i3I (y := (1216 + 12 * a1)) (i3A (i3A (show (1210 : Int32) = i3 1210 from rfl) (i3M (show (12 : Int32) = i3 12 from rfl) (rfl : i3 a1 = i3 a1))) (show (6 : Int32) = i3 6 from rfl)) (by omega) (by omega) (by omega)) (show (0 : Int32) = i3 0 from rfl))
              subst e9
              exact zlV hP ⟨hZ144I, hZ144K, hZ144U⟩
          · replace hP := zE_n hP h134
            refine wz_i0 (i3O (n := 4400) (i3A (i3A (show (1210 : Int32) = i3 1210 from rfl) (i3M (show (12 : Int32) = i3 12 from rfl) (rfl : i3 a1 = i3 a1))) (show (7 : Int32) = i3 7 from rfl)) (by omega) (by omega) (by omega)) ?_
            have r145 := zM_f hZ133I 2 0 0 (1217 + 12 * a1)
            have r146 := w3_r ((Z133 2 0 0 (1217 + 12 * a1)) + 1)
            obtain ⟨Z147, hZ147⟩ := zx (zu Z133 2 0 0 (1217 + 12 * a1) (w3 ((Z133 2 0 0 (1217 + 12 * a1)) + 1)))
            replace hP := zl_e hP hZ147
            have hZ147I := zM_u2 hZ133I hZ147 (lo := -2147483648) (hi := 2147483647) (zs_1210_7 (x := a1) (by omega) (by omega) (by omega)) (by omega) ⟨by decide, by decide⟩ (by simp only [zsp]; omega)
            have hZ147U : zU [] Z Z147 := zU_u hZ133U hZ147 (Or.inl rfl)
            have hZ147K : zC [2] Z Z147 := zC_u hZ133K hZ147 (zcl_2w (by omega) rfl)
            intro μ9 e9
            replace e9 := e9.trans (zm_wI (Z := Z133) (ν := ν) hZ147 (show ((0 : Nat) : Int) = 0 from rfl) (show ((0 : Nat) : Int) = 0 from rfl) (i3I (y := (1217 + 12 * a1)) (i3A (i3A (show (1210 : Int32) = i3 1210 from rfl) (i3M (show (12 : Int32) = i3 12 from rfl) (rfl : i3 a1 = i3 a1))) (show (7 : Int32) = i3 7 from rfl)) (by omega) (by omega) (by omega)) (i3W (i3A (zm_rd (Z := Z133) (ν := ν) (k := 2) (show ((0 : Nat) : Int) = 0 from rfl) (show ((0 : Nat) : Int) = 0 from rfl) (i3I (y := (1217 + 12 * a1)) (i3A (i3A (show (1210 : Int32) = i3 1210 from rfl) (i3M (show (12 : Int32) = i3 12 from rfl) (rfl : i3 a1 = i3 a1))) (show (7 : Int32) = i3 7 from rfl)) (by omega) (by omega) (by omega))) (show (1 : Int32) = i3 1 from rfl))))
            subst e9
            refine wz_i0 (i3O (n := 4400) (i3A (i3A (show (1210 : Int32) = i3 1210 from rfl) (i3M (show (12 : Int32) = i3 12 from rfl) (rfl : i3 a1 = i3 a1))) (show (8 : Int32) = i3 8 from rfl)) (by omega) (by omega) (by omega)) ?_
            refine wz_br (i3E (zm_rd (Z := Z) (ν := ν) (k := 2) (show ((0 : Nat) : Int) = 0 from rfl) (show ((0 : Nat) : Int) = 0 from rfl) (i3I (y := (1213 + 12 * a1)) (i3A (i3A (show (1210 : Int32) = i3 1210 from rfl) (i3M (show (12 : Int32) = i3 12 from rfl) (rfl : i3 a1 = i3 a1))) (show (3 : Int32) = i3 3 from rfl)) (by omega) (by omega) (by omega))) (i3W (i3S (zm_rd (Z := Z) (ν := ν) (k := 2) (show ((0 : Nat) : Int) = 0 from rfl) (show ((0 : Nat) : Int) = 0 from rfl) (i3I (y := (1215 + 12 * a1)) (i3A (i3A (show (1210 : Int32) = i3 1210 from rfl) (i3M (show (12 : Int32) = i3 12 from rfl) (rfl : i3 a1 = i3 a1))) (show (5 : Int32) = i3 5 from rfl)) (by omega) (by omega) (by omega))) (i3W (i3A (zm_rd (Z := Z) (ν := ν) (k := 2) (show ((0 : Nat) : Int) = 0 from rfl) (show ((0 : Nat) : Int) = 0 from rfl) (i3I (y := (1212 + 12 * a1)) (i3A (i3A (show (1210 : Int32) = i3 1210 from rfl) (i3M (show (12 : Int32) = i3 12 from rfl) (rfl : i3 a1 = i3 a1))) (show (2 : Int32) = i3 2 from rfl)) (by omega) (by omega) (by omega))) (zm_rd (Z := Z) (ν := ν) (k := 2) (show ((0 : Nat) : Int) = 0 from rfl) (show ((0 : Nat) : Int) = 0 from rfl) (i3I (y := (1216 + 12 * a1)) (i3A (i3A (show (1210 : Int32) = i3 1210 from rfl) (i3M (show (12 : Int32) = i3 12 from rfl) (rfl : i3 a1 = i3 a1))) (show (6 : Int32) = i3 6 from rfl)) (by omega) (by omega) (by omega))))))) (by omega) (by omega) (by omega) (by omega)) (fun h148 => ?_) (fun h148 => ?_)
            · replace hP := zE_p hP h148
              refine wz_i0 (i3O (n := 4400) (i3A (i3A (show (1210 : Int32) = i3 1210 from rfl) (i3M (show (12 : Int32) = i3 12 from rfl) (rfl : i3 a1 = i3 a1))) (show (8 : Int32) = i3 8 from rfl)) (by omega) (by omega) (by omega)) ?_
              have r149 := zM_f hZ147I 2 0 0 (1218 + 12 * a1)
              obtain ⟨Z150, hZ150⟩ := zx (zu Z147 2 0 0 (1218 + 12 * a1) ((Z147 2 0 0 (1218 + 12 * a1)) + 0))
              replace hP := zl_e hP hZ150
              have hZ150I := zM_u2 hZ147I hZ150 (lo := -2147483648) (hi := 2147483647) (zs_1210_8 (x := a1) (by omega) (by omega) (by omega)) (by omega) ⟨by decide, by decide⟩ (by simp only [zsp]; omega)
              have hZ150U : zU [] Z Z150 := zU_u hZ147U hZ150 (Or.inl rfl)
              have hZ150K : zC [2] Z Z150 := zC_u hZ147K hZ150 (zcl_2w (by omega) rfl)
              intro μ9 e9
              replace e9 := e9.trans (zm_wI (Z := Z147) (ν := ν) hZ150 (show ((0 : Nat) : Int) = 0 from rfl) (show ((0 : Nat) : Int) = 0 from rfl) (i3I (y := (1218 + 12 * a1)) (i3A (i3A (show (1210 : Int32) = i3 1210 from rfl) (i3M (show (12 : Int32) = i3 12 from rfl) (rfl : i3 a1 = i3 a1))) (show (8 : Int32) = i3 8 from rfl)) (by omega) (by omega) (by omega)) (i3A (zm_rd (Z := Z147) (ν := ν) (k := 2) (show ((0 : Nat) : Int) = 0 from rfl) (show ((0 : Nat) : Int) = 0 from rfl) (i3I (y := (1218 + 12 * a1)) (i3A (i3A (show (1210 : Int32) = i3 1210 from rfl) (i3M (show (12 : Int32) = i3 12 from rfl) (rfl : i3 a1 = i3 a1))) (show (8 : Int32) = i3 8 from rfl)) (by omega) (by omega) (by omega))) (show (0 : Int32) = i3 0 from rfl)))
              subst e9
              refine wz_i0 (i3O (n := 4400) (i3A (i3A (show (1210 : Int32) = i3 1210 from rfl) (i3M (show (12 : Int32) = i3 12 from rfl) (rfl : i3 a1 = i3 a1))) (show (6 : Int32) = i3 6 from rfl)) (by omega) (by omega) (by omega)) ?_
              obtain ⟨Z151, hZ151⟩ := zx (zu Z150 2 0 0 (1216 + 12 * a1) 0)
              replace hP := zl_e hP hZ151
              have hZ151I := zM_02 hZ150I hZ151 (by simp only [zsp]; omega)
              have hZ151U : zU [] Z Z151 := zU_u hZ150U hZ151 (Or.inl rfl)
              have hZ151K : zC [2] Z Z151 := zC_u hZ150K hZ151 (zcl_2w (by omega) rfl)
              intro μ9 e9
              replace e9 := e9.trans (zm_wI (Z := Z150) (ν := ν) hZ151 (show ((0 : Nat) : Int) = 0 from rfl) (show ((0 : Nat) : Int) = 0 from rfl) (i3I (y := (1216 + 12 * a1)) (i3A (i3A (show (1210 : Int32) = i3 1210 from rfl) (i3M (show (12 : Int32) = i3 12 from rfl) (rfl : i3 a1 = i3 a1))) (show (6 : Int32) = i3 6 from rfl)) (by omega) (by omega) (by omega)) (show (0 : Int32) = i3 0 from rfl))
              subst e9
              exact zlV hP ⟨hZ151I, hZ151K, hZ151U⟩
            · replace hP := zE_n hP h148
              refine wz_i0 (i3O (n := 4400) (i3A (i3A (show (1210 : Int32) = i3 1210 from rfl) (i3M (show (12 : Int32) = i3 12 from rfl) (rfl : i3 a1 = i3 a1))) (show (8 : Int32) = i3 8 from rfl)) (by omega) (by omega) (by omega)) ?_
              have r152 := zM_f hZ147I 2 0 0 (1218 + 12 * a1)
              have r153 := w3_r ((Z147 2 0 0 (1218 + 12 * a1)) + 1)
              obtain ⟨Z154, hZ154⟩ := zx (zu Z147 2 0 0 (1218 + 12 * a1) (w3 ((Z147 2 0 0 (1218 + 12 * a1)) + 1)))
              replace hP := zl_e hP hZ154
              have hZ154I := zM_u2 hZ147I hZ154 (lo := -2147483648) (hi := 2147483647) (zs_1210_8 (x := a1) (by omega) (by omega) (by omega)) (by omega) ⟨by decide, by decide⟩ (by simp only [zsp]; omega)
              have hZ154U : zU [] Z Z154 := zU_u hZ147U hZ154 (Or.inl rfl)
              have hZ154K : zC [2] Z Z154 := zC_u hZ147K hZ154 (zcl_2w (by omega) rfl)
              intro μ9 e9
              replace e9 := e9.trans (zm_wI (Z := Z147) (ν := ν) hZ154 (show ((0 : Nat) : Int) = 0 from rfl) (show ((0 : Nat) : Int) = 0 from rfl) (i3I (y := (1218 + 12 * a1)) (i3A (i3A (show (1210 : Int32) = i3 1210 from rfl) (i3M (show (12 : Int32) = i3 12 from rfl) (rfl : i3 a1 = i3 a1))) (show (8 : Int32) = i3 8 from rfl)) (by omega) (by omega) (by omega)) (i3W (i3A (zm_rd (Z := Z147) (ν := ν) (k := 2) (show ((0 : Nat) : Int) = 0 from rfl) (show ((0 : Nat) : Int) = 0 from rfl) (i3I (y := (1218 + 12 * a1)) (i3A (i3A (show (1210 : Int32) = i3 1210 from rfl) (i3M (show (12 : Int32) = i3 12 from rfl) (rfl : i3 a1 = i3 a1))) (show (8 : Int32) = i3 8 from rfl)) (by omega) (by omega) (by omega))) (show (1 : Int32) = i3 1 from rfl))))
              subst e9
              refine wz_i0 (i3O (n := 4400) (i3A (i3A (show (1210 : Int32) = i3 1210 from rfl) (i3M (show (12 : Int32) = i3 12 from rfl) (rfl : i3 a1 = i3 a1))) (show (6 : Int32) = i3 6 from rfl)) (by omega) (by omega) (by omega)) ?_
              obtain ⟨Z155, hZ155⟩ := zx (zu Z154 2 0 0 (1216 + 12 * a1) 0)
              replace hP := zl_e hP hZ155
              have hZ155I := zM_02 hZ154I hZ155 (by simp only [zsp]; omega)
              have hZ155U : zU [] Z Z155 := zU_u hZ154U hZ155 (Or.inl rfl)
              have hZ155K : zC [2] Z Z155 := zC_u hZ154K hZ155 (zcl_2w (by omega) rfl)
              intro μ9 e9
              replace e9 := e9.trans (zm_wI (Z := Z154) (ν := ν) hZ155 (show ((0 : Nat) : Int) = 0 from rfl) (show ((0 : Nat) : Int) = 0 from rfl) (i3I (y := (1216 + 12 * a1)) (i3A (i3A (show (1210 : Int32) = i3 1210 from rfl) (i3M (show (12 : Int32) = i3 12 from rfl) (rfl : i3 a1 = i3 a1))) (show (6 : Int32) = i3 6 from rfl)) (by omega) (by omega) (by omega)) (show (0 : Int32) = i3 0 from rfl))
              subst e9
              exact zlV hP ⟨hZ155I, hZ155K, hZ155U⟩
        · replace hP := zE_n hP h132
          refine wz_i0 (i3O (n := 4400) (i3A (i3A (show (1210 : Int32) = i3 1210 from rfl) (i3M (show (12 : Int32) = i3 12 from rfl) (rfl : i3 a1 = i3 a1))) (show (5 : Int32) = i3 5 from rfl)) (by omega) (by omega) (by omega)) ?_
          obtain ⟨Z156, hZ156⟩ := zx (zu Z 2 0 0 (1215 + 12 * a1) ((w3 ((Z 2 0 0 (1215 + 12 * a1)) - (w3 ((Z 2 0 0 (1212 + 12 * a1)) + (Z 2 0 0 (1216 + 12 * a1)))))) + (Z 2 0 0 (1211 + 12 * a1))))
          replace hP := zl_e hP hZ156
          have hZ156I := zM_u2 hZ hZ156 (lo := 0) (hi := 40) (zs_1210_5 (x := a1) (by omega) (by omega) (by omega)) (by omega) ⟨by decide, by decide⟩ (by simp only [zsp]; omega)
          have hZ156U : zU [] Z Z156 := zU_u zU_r hZ156 (Or.inl rfl)
          have hZ156K : zC [2] Z Z156 := zC_u zC_r hZ156 (zcl_2w (by omega) rfl)
          intro μ9 e9
          replace e9 := e9.trans (zm_wI (Z := Z) (ν := ν) hZ156 (show ((0 : Nat) : Int) = 0 from rfl) (show ((0 : Nat) : Int) = 0 from rfl) (i3I (y := (1215 + 12 * a1)) (i3A (i3A (show (1210 : Int32) = i3 1210 from rfl) (i3M (show (12 : Int32) = i3 12 from rfl) (rfl : i3 a1 = i3 a1))) (show (5 : Int32) = i3 5 from rfl)) (by omega) (by omega) (by omega)) (i3A (i3W (i3S (zm_rd (Z := Z) (ν := ν) (k := 2) (show ((0 : Nat) : Int) = 0 from rfl) (show ((0 : Nat) : Int) = 0 from rfl) (i3I (y := (1215 + 12 * a1)) (i3A (i3A (show (1210 : Int32) = i3 1210 from rfl) (i3M (show (12 : Int32) = i3 12 from rfl) (rfl : i3 a1 = i3 a1))) (show (5 : Int32) = i3 5 from rfl)) (by omega) (by omega) (by omega))) (i3W (i3A (zm_rd (Z := Z) (ν := ν) (k := 2) (show ((0 : Nat) : Int) = 0 from rfl) (show ((0 : Nat) : Int) = 0 from rfl) (i3I (y := (1212 + 12 * a1)) (i3A (i3A (show (1210 : Int32) = i3 1210 from rfl) (i3M (show (12 : Int32) = i3 12 from rfl) (rfl : i3 a1 = i3 a1))) (show (2 : Int32) = i3 2 from rfl)) (by omega) (by omega) (by omega))) (zm_rd (Z := Z) (ν := ν) (k := 2) (show ((0 : Nat) : Int) = 0 from rfl) (show ((0 : Nat) : Int) = 0 from rfl) (i3I (y := (1216 + 12 * a1)) (i3A (i3A (show (1210 : Int32) = i3 1210 from rfl) (i3M (show (12 : Int32) = i3 12 from rfl) (rfl : i3 a1 = i3 a1))) (show (6 : Int32) = i3 6 from rfl)) (by omega) (by omega) (by omega))))))) (zm_rd (Z := Z) (ν := ν) (k := 2) (show ((0 : Nat) : Int) = 0 from rfl) (show ((0 : Nat) : Int) = 0 from rfl) (i3I (y := (1211 + 12 * a1)) (i3A (i3A (show (1210 : Int32) = i3 1210 from rfl) (i3M (show (12 : Int32) = i3 12 from rfl) (rfl : i3 a1 = i3 a1))) (show (1 : Int32) = i3 1 from rfl)) (by omega) (by omega) (by omega)))))
          subst e9
          refine wz_i0 (i3O (n := 4400) (i3A (i3A (show (1210 : Int32) = i3 1210 from rfl) (i3M (show (12 : Int32) = i3 12 from rfl) (rfl : i3 a1 = i3 a1))) (show (7 : Int32) = i3 7 from rfl)) (by omega) (by omega) (by omega)) ?_
          refine wz_br (i3E (i3A (i3W (i3S (zm_rd (Z := Z) (ν := ν) (k := 2) (show ((0 : Nat) : Int) = 0 from rfl) (show ((0 : Nat) : Int) = 0 from rfl) (i3I (y := (1215 + 12 * a1)) (i3A (i3A (show (1210 : Int32) = i3 1210 from rfl) (i3M (show (12 : Int32) = i3 12 from rfl) (rfl : i3 a1 = i3 a1))) (show (5 : Int32) = i3 5 from rfl)) (by omega) (by omega) (by omega))) (i3W (i3A (zm_rd (Z := Z) (ν := ν) (k := 2) (show ((0 : Nat) : Int) = 0 from rfl) (show ((0 : Nat) : Int) = 0 from rfl) (i3I (y := (1212 + 12 * a1)) (i3A (i3A (show (1210 : Int32) = i3 1210 from rfl) (i3M (show (12 : Int32) = i3 12 from rfl) (rfl : i3 a1 = i3 a1))) (show (2 : Int32) = i3 2 from rfl)) (by omega) (by omega) (by omega))) (zm_rd (Z := Z) (ν := ν) (k := 2) (show ((0 : Nat) : Int) = 0 from rfl) (show ((0 : Nat) : Int) = 0 from rfl) (i3I (y := (1216 + 12 * a1)) (i3A (i3A (show (1210 : Int32) = i3 1210 from rfl) (i3M (show (12 : Int32) = i3 12 from rfl) (rfl : i3 a1 = i3 a1))) (show (6 : Int32) = i3 6 from rfl)) (by omega) (by omega) (by omega))))))) (zm_rd (Z := Z) (ν := ν) (k := 2) (show ((0 : Nat) : Int) = 0 from rfl) (show ((0 : Nat) : Int) = 0 from rfl) (i3I (y := (1211 + 12 * a1)) (i3A (i3A (show (1210 : Int32) = i3 1210 from rfl) (i3M (show (12 : Int32) = i3 12 from rfl) (rfl : i3 a1 = i3 a1))) (show (1 : Int32) = i3 1 from rfl)) (by omega) (by omega) (by omega)))) (i3W (i3S (zm_rd (Z := Z) (ν := ν) (k := 2) (show ((0 : Nat) : Int) = 0 from rfl) (show ((0 : Nat) : Int) = 0 from rfl) (i3I (y := (1215 + 12 * a1)) (i3A (i3A (show (1210 : Int32) = i3 1210 from rfl) (i3M (show (12 : Int32) = i3 12 from rfl) (rfl : i3 a1 = i3 a1))) (show (5 : Int32) = i3 5 from rfl)) (by omega) (by omega) (by omega))) (i3W (i3A (zm_rd (Z := Z) (ν := ν) (k := 2) (show ((0 : Nat) : Int) = 0 from rfl) (show ((0 : Nat) : Int) = 0 from rfl) (i3I (y := (1212 + 12 * a1)) (i3A (i3A (show (1210 : Int32) = i3 1210 from rfl) (i3M (show (12 : Int32) = i3 12 from rfl) (rfl : i3 a1 = i3 a1))) (show (2 : Int32) = i3 2 from rfl)) (by omega) (by omega) (by omega))) (zm_rd (Z := Z) (ν := ν) (k := 2) (show ((0 : Nat) : Int) = 0 from rfl) (show ((0 : Nat) : Int) = 0 from rfl) (i3I (y := (1216 + 12 * a1)) (i3A (i3A (show (1210 : Int32) = i3 1210 from rfl) (i3M (show (12 : Int32) = i3 12 from rfl) (rfl : i3 a1 = i3 a1))) (show (6 : Int32) = i3 6 from rfl)) (by omega) (by omega) (by omega))))))) (by omega) (by omega) (by omega) (by omega)) (fun h157 => ?_) (fun h157 => ?_)
          · replace hP := zE_p hP h157
            refine wz_i0 (i3O (n := 4400) (i3A (i3A (show (1210 : Int32) = i3 1210 from rfl) (i3M (show (12 : Int32) = i3 12 from rfl) (rfl : i3 a1 = i3 a1))) (show (7 : Int32) = i3 7 from rfl)) (by omega) (by omega) (by omega)) ?_
            have r158 := zM_f hZ156I 2 0 0 (1217 + 12 * a1)
            obtain ⟨Z159, hZ159⟩ := zx (zu Z156 2 0 0 (1217 + 12 * a1) ((Z156 2 0 0 (1217 + 12 * a1)) + 0))
            replace hP := zl_e hP hZ159
            have hZ159I := zM_u2 hZ156I hZ159 (lo := -2147483648) (hi := 2147483647) (zs_1210_7 (x := a1) (by omega) (by omega) (by omega)) (by omega) ⟨by decide, by decide⟩ (by simp only [zsp]; omega)
            have hZ159U : zU [] Z Z159 := zU_u hZ156U hZ159 (Or.inl rfl)
            have hZ159K : zC [2] Z Z159 := zC_u hZ156K hZ159 (zcl_2w (by omega) rfl)
            intro μ9 e9
            replace e9 := e9.trans (zm_wI (Z := Z156) (ν := ν) hZ159 (show ((0 : Nat) : Int) = 0 from rfl) (show ((0 : Nat) : Int) = 0 from rfl) (i3I (y := (1217 + 12 * a1)) (i3A (i3A (show (1210 : Int32) = i3 1210 from rfl) (i3M (show (12 : Int32) = i3 12 from rfl) (rfl : i3 a1 = i3 a1))) (show (7 : Int32) = i3 7 from rfl)) (by omega) (by omega) (by omega)) (i3A (zm_rd (Z := Z156) (ν := ν) (k := 2) (show ((0 : Nat) : Int) = 0 from rfl) (show ((0 : Nat) : Int) = 0 from rfl) (i3I (y := (1217 + 12 * a1)) (i3A (i3A (show (1210 : Int32) = i3 1210 from rfl) (i3M (show (12 : Int32) = i3 12 from rfl) (rfl : i3 a1 = i3 a1))) (show (7 : Int32) = i3 7 from rfl)) (by omega) (by omega) (by omega))) (show (0 : Int32) = i3 0 from rfl)))
            subst e9
            refine wz_i0 (i3O (n := 4400) (i3A (i3A (show (1210 : Int32) = i3 1210 from rfl) (i3M (show (12 : Int32) = i3 12 from rfl) (rfl : i3 a1 = i3 a1))) (show (8 : Int32) = i3 8 from rfl)) (by omega) (by omega) (by omega)) ?_
            refine wz_i1 (Eq.trans (i3E (i3A (i3W (i3S (zm_rd (Z := Z) (ν := ν) (k := 2) (show ((0 : Nat) : Int) = 0 from rfl) (show ((0 : Nat) : Int) = 0 from rfl) (i3I (y := (1215 + 12 * a1)) (i3A (i3A (show (1210 : Int32) = i3 1210 from rfl) (i3M (show (12 : Int32) = i3 12 from rfl) (rfl : i3 a1 = i3 a1))) (show (5 : Int32) = i3 5 from rfl)) (by omega) (by omega) (by omega))) (i3W (i3A (zm_rd (Z := Z) (ν := ν) (k := 2) (show ((0 : Nat) : Int) = 0 from rfl) (show ((0 : Nat) : Int) = 0 from rfl) (i3I (y := (1212 + 12 * a1)) (i3A (i3A (show (1210 : Int32) = i3 1210 from rfl) (i3M (show (12 : Int32) = i3 12 from rfl) (rfl : i3 a1 = i3 a1))) (show (2 : Int32) = i3 2 from rfl)) (by omega) (by omega) (by omega))) (zm_rd (Z := Z) (ν := ν) (k := 2) (show ((0 : Nat) : Int) = 0 from rfl) (show ((0 : Nat) : Int) = 0 from rfl) (i3I (y := (1216 + 12 * a1)) (i3A (i3A (show (1210 : Int32) = i3 1210 from rfl) (i3M (show (12 : Int32) = i3 12 from rfl) (rfl : i3 a1 = i3 a1))) (show (6 : Int32) = i3 6 from rfl)) (by omega) (by omega) (by omega))))))) (zm_rd (Z := Z) (ν := ν) (k := 2) (show ((0 : Nat) : Int) = 0 from rfl) (show ((0 : Nat) : Int) = 0 from rfl) (i3I (y := (1211 + 12 * a1)) (i3A (i3A (show (1210 : Int32) = i3 1210 from rfl) (i3M (show (12 : Int32) = i3 12 from rfl) (rfl : i3 a1 = i3 a1))) (show (1 : Int32) = i3 1 from rfl)) (by omega) (by omega) (by omega)))) (i3W (i3S (zm_rd (Z := Z) (ν := ν) (k := 2) (show ((0 : Nat) : Int) = 0 from rfl) (show ((0 : Nat) : Int) = 0 from rfl) (i3I (y := (1215 + 12 * a1)) (i3A (i3A (show (1210 : Int32) = i3 1210 from rfl) (i3M (show (12 : Int32) = i3 12 from rfl) (rfl : i3 a1 = i3 a1))) (show (5 : Int32) = i3 5 from rfl)) (by omega) (by omega) (by omega))) (i3W (i3A (zm_rd (Z := Z) (ν := ν) (k := 2) (show ((0 : Nat) : Int) = 0 from rfl) (show ((0 : Nat) : Int) = 0 from rfl) (i3I (y := (1212 + 12 * a1)) (i3A (i3A (show (1210 : Int32) = i3 1210 from rfl) (i3M (show (12 : Int32) = i3 12 from rfl) (rfl : i3 a1 = i3 a1))) (show (2 : Int32) = i3 2 from rfl)) (by omega) (by omega) (by omega))) (zm_rd (Z := Z) (ν := ν) (k := 2) (show ((0 : Nat) : Int) = 0 from rfl) (show ((0 : Nat) : Int) = 0 from rfl) (i3I (y := (1216 + 12 * a1)) (i3A (i3A (show (1210 : Int32) = i3 1210 from rfl) (i3M (show (12 : Int32) = i3 12 from rfl) (rfl : i3 a1 = i3 a1))) (show (6 : Int32) = i3 6 from rfl)) (by omega) (by omega) (by omega))))))) (by omega) (by omega) (by omega) (by omega)) (decide_eq_true (by omega))) ?_
            refine wz_i0 (i3O (n := 4400) (i3A (i3A (show (1210 : Int32) = i3 1210 from rfl) (i3M (show (12 : Int32) = i3 12 from rfl) (rfl : i3 a1 = i3 a1))) (show (8 : Int32) = i3 8 from rfl)) (by omega) (by omega) (by omega)) ?_
            have r160 := zM_f hZ159I 2 0 0 (1218 + 12 * a1)
            obtain ⟨Z161, hZ161⟩ := zx (zu Z159 2 0 0 (1218 + 12 * a1) ((Z159 2 0 0 (1218 + 12 * a1)) + 0))
            replace hP := zl_e hP hZ161
            have hZ161I := zM_u2 hZ159I hZ161 (lo := -2147483648) (hi := 2147483647) (zs_1210_8 (x := a1) (by omega) (by omega) (by omega)) (by omega) ⟨by decide, by decide⟩ (by simp only [zsp]; omega)
            have hZ161U : zU [] Z Z161 := zU_u hZ159U hZ161 (Or.inl rfl)
            have hZ161K : zC [2] Z Z161 := zC_u hZ159K hZ161 (zcl_2w (by omega) rfl)
            intro μ9 e9
            replace e9 := e9.trans (zm_wI (Z := Z159) (ν := ν) hZ161 (show ((0 : Nat) : Int) = 0 from rfl) (show ((0 : Nat) : Int) = 0 from rfl) (i3I (y := (1218 + 12 * a1)) (i3A (i3A (show (1210 : Int32) = i3 1210 from rfl) (i3M (show (12 : Int32) = i3 12 from rfl) (rfl : i3 a1 = i3 a1))) (show (8 : Int32) = i3 8 from rfl)) (by omega) (by omega) (by omega)) (i3A (zm_rd (Z := Z159) (ν := ν) (k := 2) (show ((0 : Nat) : Int) = 0 from rfl) (show ((0 : Nat) : Int) = 0 from rfl) (i3I (y := (1218 + 12 * a1)) (i3A (i3A (show (1210 : Int32) = i3 1210 from rfl) (i3M (show (12 : Int32) = i3 12 from rfl) (rfl : i3 a1 = i3 a1))) (show (8 : Int32) = i3 8 from rfl)) (by omega) (by omega) (by omega))) (show (0 : Int32) = i3 0 from rfl)))
            subst e9
            refine wz_i0 (i3O (n := 4400) (i3A (i3A (show (1210 : Int32) = i3 1210 from rfl) (i3M (show (12 : Int32) = i3 12 from rfl) (rfl : i3 a1 = i3 a1))) (show (6 : Int32) = i3 6 from rfl)) (by omega) (by omega) (by omega)) ?_
            obtain ⟨Z162, hZ162⟩ := zx (zu Z161 2 0 0 (1216 + 12 * a1) 0)
            replace hP := zl_e hP hZ162
            have hZ162I := zM_02 hZ161I hZ162 (by simp only [zsp]; omega)
            have hZ162U : zU [] Z Z162 := zU_u hZ161U hZ162 (Or.inl rfl)
            have hZ162K : zC [2] Z Z162 := zC_u hZ161K hZ162 (zcl_2w (by omega) rfl)
            intro μ9 e9
            replace e9 := e9.trans (zm_wI (Z := Z161) (ν := ν) hZ162 (show ((0 : Nat) : Int) = 0 from rfl) (show ((0 : Nat) : Int) = 0 from rfl) (i3I (y := (1216 + 12 * a1)) (i3A (i3A (show (1210 : Int32) = i3 1210 from rfl) (i3M (show (12 : Int32) = i3 12 from rfl) (rfl : i3 a1 = i3 a1))) (show (6 : Int32) = i3 6 from rfl)) (by omega) (by omega) (by omega)) (show (0 : Int32) = i3 0 from rfl))
            subst e9
            exact zlV hP ⟨hZ162I, hZ162K, hZ162U⟩
          · replace hP := zE_n hP h157
            refine wz_i0 (i3O (n := 4400) (i3A (i3A (show (1210 : Int32) = i3 1210 from rfl) (i3M (show (12 : Int32) = i3 12 from rfl) (rfl : i3 a1 = i3 a1))) (show (7 : Int32) = i3 7 from rfl)) (by omega) (by omega) (by omega)) ?_
            have r163 := zM_f hZ156I 2 0 0 (1217 + 12 * a1)
            have r164 := w3_r ((Z156 2 0 0 (1217 + 12 * a1)) + 1)
            obtain ⟨Z165, hZ165⟩ := zx (zu Z156 2 0 0 (1217 + 12 * a1) (w3 ((Z156 2 0 0 (1217 + 12 * a1)) + 1)))
            replace hP := zl_e hP hZ165
            have hZ165I := zM_u2 hZ156I hZ165 (lo := -2147483648) (hi := 2147483647) (zs_1210_7 (x := a1) (by omega) (by omega) (by omega)) (by omega) ⟨by decide, by decide⟩ (by simp only [zsp]; omega)
            have hZ165U : zU [] Z Z165 := zU_u hZ156U hZ165 (Or.inl rfl)
            have hZ165K : zC [2] Z Z165 := zC_u hZ156K hZ165 (zcl_2w (by omega) rfl)
            intro μ9 e9
            replace e9 := e9.trans (zm_wI (Z := Z156) (ν := ν) hZ165 (show ((0 : Nat) : Int) = 0 from rfl) (show ((0 : Nat) : Int) = 0 from rfl) (i3I (y := (1217 + 12 * a1)) (i3A (i3A (show (1210 : Int32) = i3 1210 from rfl) (i3M (show (12 : Int32) = i3 12 from rfl) (rfl : i3 a1 = i3 a1))) (show (7 : Int32) = i3 7 from rfl)) (by omega) (by omega) (by omega)) (i3W (i3A (zm_rd (Z := Z156) (ν := ν) (k := 2) (show ((0 : Nat) : Int) = 0 from rfl) (show ((0 : Nat) : Int) = 0 from rfl) (i3I (y := (1217 + 12 * a1)) (i3A (i3A (show (1210 : Int32) = i3 1210 from rfl) (i3M (show (12 : Int32) = i3 12 from rfl) (rfl : i3 a1 = i3 a1))) (show (7 : Int32) = i3 7 from rfl)) (by omega) (by omega) (by omega))) (show (1 : Int32) = i3 1 from rfl))))
            subst e9
            refine wz_i0 (i3O (n := 4400) (i3A (i3A (show (1210 : Int32) = i3 1210 from rfl) (i3M (show (12 : Int32) = i3 12 from rfl) (rfl : i3 a1 = i3 a1))) (show (8 : Int32) = i3 8 from rfl)) (by omega) (by omega) (by omega)) ?_
            refine wz_i0 (Eq.trans (i3E (i3A (i3W (i3S (zm_rd (Z := Z) (ν := ν) (k := 2) (show ((0 : Nat) : Int) = 0 from rfl) (show ((0 : Nat) : Int) = 0 from rfl) (i3I (y := (1215 + 12 * a1)) (i3A (i3A (show (1210 : Int32) = i3 1210 from rfl) (i3M (show (12 : Int32) = i3 12 from rfl) (rfl : i3 a1 = i3 a1))) (show (5 : Int32) = i3 5 from rfl)) (by omega) (by omega) (by omega))) (i3W (i3A (zm_rd (Z := Z) (ν := ν) (k := 2) (show ((0 : Nat) : Int) = 0 from rfl) (show ((0 : Nat) : Int) = 0 from rfl) (i3I (y := (1212 + 12 * a1)) (i3A (i3A (show (1210 : Int32) = i3 1210 from rfl) (i3M (show (12 : Int32) = i3 12 from rfl) (rfl : i3 a1 = i3 a1))) (show (2 : Int32) = i3 2 from rfl)) (by omega) (by omega) (by omega))) (zm_rd (Z := Z) (ν := ν) (k := 2) (show ((0 : Nat) : Int) = 0 from rfl) (show ((0 : Nat) : Int) = 0 from rfl) (i3I (y := (1216 + 12 * a1)) (i3A (i3A (show (1210 : Int32) = i3 1210 from rfl) (i3M (show (12 : Int32) = i3 12 from rfl) (rfl : i3 a1 = i3 a1))) (show (6 : Int32) = i3 6 from rfl)) (by omega) (by omega) (by omega))))))) (zm_rd (Z := Z) (ν := ν) (k := 2) (show ((0 : Nat) : Int) = 0 from rfl) (show ((0 : Nat) : Int) = 0 from rfl) (i3I (y := (1211 + 12 * a1)) (i3A (i3A (show (1210 : Int32) = i3 1210 from rfl) (i3M (show (12 : Int32) = i3 12 from rfl) (rfl : i3 a1 = i3 a1))) (show (1 : Int32) = i3 1 from rfl)) (by omega) (by omega) (by omega)))) (i3W (i3S (zm_rd (Z := Z) (ν := ν) (k := 2) (show ((0 : Nat) : Int) = 0 from rfl) (show ((0 : Nat) : Int) = 0 from rfl) (i3I (y := (1215 + 12 * a1)) (i3A (i3A (show (1210 : Int32) = i3 1210 from rfl) (i3M (show (12 : Int32) = i3 12 from rfl) (rfl : i3 a1 = i3 a1))) (show (5 : Int32) = i3 5 from rfl)) (by omega) (by omega) (by omega))) (i3W (i3A (zm_rd (Z := Z) (ν := ν) (k := 2) (show ((0 : Nat) : Int) = 0 from rfl) (show ((0 : Nat) : Int) = 0 from rfl) (i3I (y := (1212 + 12 * a1)) (i3A (i3A (show (1210 : Int32) = i3 1210 from rfl) (i3M (show (12 : Int32) = i3 12 from rfl) (rfl : i3 a1 = i3 a1))) (show (2 : Int32) = i3 2 from rfl)) (by omega) (by omega) (by omega))) (zm_rd (Z := Z) (ν := ν) (k := 2) (show ((0 : Nat) : Int) = 0 from rfl) (show ((0 : Nat) : Int) = 0 from rfl) (i3I (y := (1216 + 12 * a1)) (i3A (i3A (show (1210 : Int32) = i3 1210 from rfl) (i3M (show (12 : Int32) = i3 12 from rfl) (rfl : i3 a1 = i3 a1))) (show (6 : Int32) = i3 6 from rfl)) (by omega) (by omega) (by omega))))))) (by omega) (by omega) (by omega) (by omega)) (decide_eq_false (by omega))) ?_
            refine wz_i0 (i3O (n := 4400) (i3A (i3A (show (1210 : Int32) = i3 1210 from rfl) (i3M (show (12 : Int32) = i3 12 from rfl) (rfl : i3 a1 = i3 a1))) (show (8 : Int32) = i3 8 from rfl)) (by omega) (by omega) (by omega)) ?_
            have r166 := zM_f hZ165I 2 0 0 (1218 + 12 * a1)
            have r167 := w3_r ((Z165 2 0 0 (1218 + 12 * a1)) + 1)
            obtain ⟨Z168, hZ168⟩ := zx (zu Z165 2 0 0 (1218 + 12 * a1) (w3 ((Z165 2 0 0 (1218 + 12 * a1)) + 1)))
            replace hP := zl_e hP hZ168
            have hZ168I := zM_u2 hZ165I hZ168 (lo := -2147483648) (hi := 2147483647) (zs_1210_8 (x := a1) (by omega) (by omega) (by omega)) (by omega) ⟨by decide, by decide⟩ (by simp only [zsp]; omega)
            have hZ168U : zU [] Z Z168 := zU_u hZ165U hZ168 (Or.inl rfl)
            have hZ168K : zC [2] Z Z168 := zC_u hZ165K hZ168 (zcl_2w (by omega) rfl)
            intro μ9 e9
            replace e9 := e9.trans (zm_wI (Z := Z165) (ν := ν) hZ168 (show ((0 : Nat) : Int) = 0 from rfl) (show ((0 : Nat) : Int) = 0 from rfl) (i3I (y := (1218 + 12 * a1)) (i3A (i3A (show (1210 : Int32) = i3 1210 from rfl) (i3M (show (12 : Int32) = i3 12 from rfl) (rfl : i3 a1 = i3 a1))) (show (8 : Int32) = i3 8 from rfl)) (by omega) (by omega) (by omega)) (i3W (i3A (zm_rd (Z := Z165) (ν := ν) (k := 2) (show ((0 : Nat) : Int) = 0 from rfl) (show ((0 : Nat) : Int) = 0 from rfl) (i3I (y := (1218 + 12 * a1)) (i3A (i3A (show (1210 : Int32) = i3 1210 from rfl) (i3M (show (12 : Int32) = i3 12 from rfl) (rfl : i3 a1 = i3 a1))) (show (8 : Int32) = i3 8 from rfl)) (by omega) (by omega) (by omega))) (show (1 : Int32) = i3 1 from rfl))))
            subst e9
            refine wz_i0 (i3O (n := 4400) (i3A (i3A (show (1210 : Int32) = i3 1210 from rfl) (i3M (show (12 : Int32) = i3 12 from rfl) (rfl : i3 a1 = i3 a1))) (show (6 : Int32) = i3 6 from rfl)) (by omega) (by omega) (by omega)) ?_
            obtain ⟨Z169, hZ169⟩ := zx (zu Z168 2 0 0 (1216 + 12 * a1) 0)
            replace hP := zl_e hP hZ169
            have hZ169I := zM_02 hZ168I hZ169 (by simp only [zsp]; omega)
            have hZ169U : zU [] Z Z169 := zU_u hZ168U hZ169 (Or.inl rfl)
            have hZ169K : zC [2] Z Z169 := zC_u hZ168K hZ169 (zcl_2w (by omega) rfl)
            intro μ9 e9
            replace e9 := e9.trans (zm_wI (Z := Z168) (ν := ν) hZ169 (show ((0 : Nat) : Int) = 0 from rfl) (show ((0 : Nat) : Int) = 0 from rfl) (i3I (y := (1216 + 12 * a1)) (i3A (i3A (show (1210 : Int32) = i3 1210 from rfl) (i3M (show (12 : Int32) = i3 12 from rfl) (rfl : i3 a1 = i3 a1))) (show (6 : Int32) = i3 6 from rfl)) (by omega) (by omega) (by omega)) (show (0 : Int32) = i3 0 from rfl))
            subst e9
            exact zlV hP ⟨hZ169I, hZ169K, hZ169U⟩
  · replace hP := zE_n hP h4
    have r170 := zM_k hZ 2 0 0 (1212 + 12 * a1) (lo := 0) (hi := 9) (by decide) (zs_1210_2 (x := a1) (by omega) (by omega) (by omega))
    have r171 := zM_f hZ 2 0 0 (1216 + 12 * a1)
    have r172 := w3_r ((Z 2 0 0 (1212 + 12 * a1)) + (Z 2 0 0 (1216 + 12 * a1)))
    have r173 := w3_r ((Z 2 0 0 (1215 + 12 * a1)) + (w3 ((Z 2 0 0 (1212 + 12 * a1)) + (Z 2 0 0 (1216 + 12 * a1)))))
    refine wz_br (i3Le (zm_rd (Z := Z) (ν := ν) (k := 2) (show ((0 : Nat) : Int) = 0 from rfl) (show ((0 : Nat) : Int) = 0 from rfl) (i3I (y := (1300 + ((Z 2 0 0 0) / 24))) (i3A (show (1300 : Int32) = i3 1300 from rfl) (i3D (zm_rd (Z := Z) (ν := ν) (k := 2) (show ((0 : Nat) : Int) = 0 from rfl) (show ((0 : Nat) : Int) = 0 from rfl) (show ((0 : Nat) : Int) = 0 from rfl)) (show (24 : Int32) = i3 24 from rfl) (by omega) (by omega) (by omega) (by omega))) (by omega) (by omega) (by omega))) (i3W (i3A (zm_rd (Z := Z) (ν := ν) (k := 2) (show ((0 : Nat) : Int) = 0 from rfl) (show ((0 : Nat) : Int) = 0 from rfl) (i3I (y := (1215 + 12 * a1)) (i3A (i3A (show (1210 : Int32) = i3 1210 from rfl) (i3M (show (12 : Int32) = i3 12 from rfl) (rfl : i3 a1 = i3 a1))) (show (5 : Int32) = i3 5 from rfl)) (by omega) (by omega) (by omega))) (i3W (i3A (zm_rd (Z := Z) (ν := ν) (k := 2) (show ((0 : Nat) : Int) = 0 from rfl) (show ((0 : Nat) : Int) = 0 from rfl) (i3I (y := (1212 + 12 * a1)) (i3A (i3A (show (1210 : Int32) = i3 1210 from rfl) (i3M (show (12 : Int32) = i3 12 from rfl) (rfl : i3 a1 = i3 a1))) (show (2 : Int32) = i3 2 from rfl)) (by omega) (by omega) (by omega))) (zm_rd (Z := Z) (ν := ν) (k := 2) (show ((0 : Nat) : Int) = 0 from rfl) (show ((0 : Nat) : Int) = 0 from rfl) (i3I (y := (1216 + 12 * a1)) (i3A (i3A (show (1210 : Int32) = i3 1210 from rfl) (i3M (show (12 : Int32) = i3 12 from rfl) (rfl : i3 a1 = i3 a1))) (show (6 : Int32) = i3 6 from rfl)) (by omega) (by omega) (by omega))))))) (by omega) (by omega) (by omega) (by omega)) (fun h174 => ?_) (fun h174 => ?_)
    · replace hP := zE_p hP h174
      refine wz_i0 (i3O (n := 4400) (i3A (i3A (show (1210 : Int32) = i3 1210 from rfl) (i3M (show (12 : Int32) = i3 12 from rfl) (rfl : i3 a1 = i3 a1))) (show (3 : Int32) = i3 3 from rfl)) (by omega) (by omega) (by omega)) ?_
      refine wz_i0 (i3O (n := 4400) (i3A (i3A (show (1210 : Int32) = i3 1210 from rfl) (i3M (show (12 : Int32) = i3 12 from rfl) (rfl : i3 a1 = i3 a1))) (show (1 : Int32) = i3 1 from rfl)) (by omega) (by omega) (by omega)) ?_
      have r175 := zM_k hZ 2 0 0 (1213 + 12 * a1) (lo := 0) (hi := 40) (by decide) (zs_1210_3 (x := a1) (by omega) (by omega) (by omega))
      refine wz_br (i3Le (zm_rd (Z := Z) (ν := ν) (k := 2) (show ((0 : Nat) : Int) = 0 from rfl) (show ((0 : Nat) : Int) = 0 from rfl) (i3I (y := (1213 + 12 * a1)) (i3A (i3A (show (1210 : Int32) = i3 1210 from rfl) (i3M (show (12 : Int32) = i3 12 from rfl) (rfl : i3 a1 = i3 a1))) (show (3 : Int32) = i3 3 from rfl)) (by omega) (by omega) (by omega))) (zm_rd (Z := Z) (ν := ν) (k := 2) (show ((0 : Nat) : Int) = 0 from rfl) (show ((0 : Nat) : Int) = 0 from rfl) (i3I (y := (1300 + ((Z 2 0 0 0) / 24))) (i3A (show (1300 : Int32) = i3 1300 from rfl) (i3D (zm_rd (Z := Z) (ν := ν) (k := 2) (show ((0 : Nat) : Int) = 0 from rfl) (show ((0 : Nat) : Int) = 0 from rfl) (show ((0 : Nat) : Int) = 0 from rfl)) (show (24 : Int32) = i3 24 from rfl) (by omega) (by omega) (by omega) (by omega))) (by omega) (by omega) (by omega))) (by omega) (by omega) (by omega) (by omega)) (fun h176 => ?_) (fun h176 => ?_)
      · replace hP := zE_p hP h176
        have r177 := zM_k hZ 2 0 0 (1211 + 12 * a1) (lo := 0) (hi := 9) (by decide) (zs_1210_1 (x := a1) (by omega) (by omega) (by omega))
        refine wz_br (i3Le (i3S (zm_rd (Z := Z) (ν := ν) (k := 2) (show ((0 : Nat) : Int) = 0 from rfl) (show ((0 : Nat) : Int) = 0 from rfl) (i3I (y := (1300 + ((Z 2 0 0 0) / 24))) (i3A (show (1300 : Int32) = i3 1300 from rfl) (i3D (zm_rd (Z := Z) (ν := ν) (k := 2) (show ((0 : Nat) : Int) = 0 from rfl) (show ((0 : Nat) : Int) = 0 from rfl) (show ((0 : Nat) : Int) = 0 from rfl)) (show (24 : Int32) = i3 24 from rfl) (by omega) (by omega) (by omega) (by omega))) (by omega) (by omega) (by omega))) (zm_rd (Z := Z) (ν := ν) (k := 2) (show ((0 : Nat) : Int) = 0 from rfl) (show ((0 : Nat) : Int) = 0 from rfl) (i3I (y := (1211 + 12 * a1)) (i3A (i3A (show (1210 : Int32) = i3 1210 from rfl) (i3M (show (12 : Int32) = i3 12 from rfl) (rfl : i3 a1 = i3 a1))) (show (1 : Int32) = i3 1 from rfl)) (by omega) (by omega) (by omega)))) (zm_rd (Z := Z) (ν := ν) (k := 2) (show ((0 : Nat) : Int) = 0 from rfl) (show ((0 : Nat) : Int) = 0 from rfl) (i3I (y := (1213 + 12 * a1)) (i3A (i3A (show (1210 : Int32) = i3 1210 from rfl) (i3M (show (12 : Int32) = i3 12 from rfl) (rfl : i3 a1 = i3 a1))) (show (3 : Int32) = i3 3 from rfl)) (by omega) (by omega) (by omega))) (by omega) (by omega) (by omega) (by omega)) (fun h178 => ?_) (fun h178 => ?_)
        · replace hP := zE_p hP h178
          refine wz_i0 (i3O (n := 4400) (i3A (i3A (show (1210 : Int32) = i3 1210 from rfl) (i3M (show (12 : Int32) = i3 12 from rfl) (rfl : i3 a1 = i3 a1))) (show (5 : Int32) = i3 5 from rfl)) (by omega) (by omega) (by omega)) ?_
          obtain ⟨Z179, hZ179⟩ := zx (zu Z 2 0 0 (1215 + 12 * a1) (Z 2 0 0 (1213 + 12 * a1)))
          replace hP := zl_e hP hZ179
          have hZ179I := zM_u2 hZ hZ179 (lo := 0) (hi := 40) (zs_1210_5 (x := a1) (by omega) (by omega) (by omega)) (by omega) ⟨by decide, by decide⟩ (by simp only [zsp]; omega)
          have hZ179U : zU [] Z Z179 := zU_u zU_r hZ179 (Or.inl rfl)
          have hZ179K : zC [2] Z Z179 := zC_u zC_r hZ179 (zcl_2w (by omega) rfl)
          intro μ9 e9
          replace e9 := e9.trans (zm_wI (Z := Z) (ν := ν) hZ179 (show ((0 : Nat) : Int) = 0 from rfl) (show ((0 : Nat) : Int) = 0 from rfl) (i3I (y := (1215 + 12 * a1)) (i3A (i3A (show (1210 : Int32) = i3 1210 from rfl) (i3M (show (12 : Int32) = i3 12 from rfl) (rfl : i3 a1 = i3 a1))) (show (5 : Int32) = i3 5 from rfl)) (by omega) (by omega) (by omega)) (zm_rd (Z := Z) (ν := ν) (k := 2) (show ((0 : Nat) : Int) = 0 from rfl) (show ((0 : Nat) : Int) = 0 from rfl) (i3I (y := (1213 + 12 * a1)) (i3A (i3A (show (1210 : Int32) = i3 1210 from rfl) (i3M (show (12 : Int32) = i3 12 from rfl) (rfl : i3 a1 = i3 a1))) (show (3 : Int32) = i3 3 from rfl)) (by omega) (by omega) (by omega))))
          subst e9
          refine wz_i0 (i3O (n := 4400) (i3A (i3A (show (1210 : Int32) = i3 1210 from rfl) (i3M (show (12 : Int32) = i3 12 from rfl) (rfl : i3 a1 = i3 a1))) (show (7 : Int32) = i3 7 from rfl)) (by omega) (by omega) (by omega)) ?_
          refine wz_br (i3E (zm_rd (Z := Z) (ν := ν) (k := 2) (show ((0 : Nat) : Int) = 0 from rfl) (show ((0 : Nat) : Int) = 0 from rfl) (i3I (y := (1213 + 12 * a1)) (i3A (i3A (show (1210 : Int32) = i3 1210 from rfl) (i3M (show (12 : Int32) = i3 12 from rfl) (rfl : i3 a1 = i3 a1))) (show (3 : Int32) = i3 3 from rfl)) (by omega) (by omega) (by omega))) (zm_rd (Z := Z) (ν := ν) (k := 2) (show ((0 : Nat) : Int) = 0 from rfl) (show ((0 : Nat) : Int) = 0 from rfl) (i3I (y := (1300 + ((Z 2 0 0 0) / 24))) (i3A (show (1300 : Int32) = i3 1300 from rfl) (i3D (zm_rd (Z := Z) (ν := ν) (k := 2) (show ((0 : Nat) : Int) = 0 from rfl) (show ((0 : Nat) : Int) = 0 from rfl) (show ((0 : Nat) : Int) = 0 from rfl)) (show (24 : Int32) = i3 24 from rfl) (by omega) (by omega) (by omega) (by omega))) (by omega) (by omega) (by omega))) (by omega) (by omega) (by omega) (by omega)) (fun h180 => ?_) (fun h180 => ?_)
          · replace hP := zE_p hP h180
            refine wz_i0 (i3O (n := 4400) (i3A (i3A (show (1210 : Int32) = i3 1210 from rfl) (i3M (show (12 : Int32) = i3 12 from rfl) (rfl : i3 a1 = i3 a1))) (show (7 : Int32) = i3 7 from rfl)) (by omega) (by omega) (by omega)) ?_
            have r181 := zM_f hZ179I 2 0 0 (1217 + 12 * a1)
            obtain ⟨Z182, hZ182⟩ := zx (zu Z179 2 0 0 (1217 + 12 * a1) ((Z179 2 0 0 (1217 + 12 * a1)) + 0))
            replace hP := zl_e hP hZ182
            have hZ182I := zM_u2 hZ179I hZ182 (lo := -2147483648) (hi := 2147483647) (zs_1210_7 (x := a1) (by omega) (by omega) (by omega)) (by omega) ⟨by decide, by decide⟩ (by simp only [zsp]; omega)
            have hZ182U : zU [] Z Z182 := zU_u hZ179U hZ182 (Or.inl rfl)
            have hZ182K : zC [2] Z Z182 := zC_u hZ179K hZ182 (zcl_2w (by omega) rfl)
            intro μ9 e9
            replace e9 := e9.trans (zm_wI (Z := Z179) (ν := ν) hZ182 (show ((0 : Nat) : Int) = 0 from rfl) (show ((0 : Nat) : Int) = 0 from rfl) (i3I (y := (1217 + 12 * a1)) (i3A (i3A (show (1210 : Int32) = i3 1210 from rfl) (i3M (show (12 : Int32) = i3 12 from rfl) (rfl : i3 a1 = i3 a1))) (show (7 : Int32) = i3 7 from rfl)) (by omega) (by omega) (by omega)) (i3A (zm_rd (Z := Z179) (ν := ν) (k := 2) (show ((0 : Nat) : Int) = 0 from rfl) (show ((0 : Nat) : Int) = 0 from rfl) (i3I (y := (1217 + 12 * a1)) (i3A (i3A (show (1210 : Int32) = i3 1210 from rfl) (i3M (show (12 : Int32) = i3 12 from rfl) (rfl : i3 a1 = i3 a1))) (show (7 : Int32) = i3 7 from rfl)) (by omega) (by omega) (by omega))) (show (0 : Int32) = i3 0 from rfl)))
            subst e9
            refine wz_i0 (i3O (n := 4400) (i3A (i3A (show (1210 : Int32) = i3 1210 from rfl) (i3M (show (12 : Int32) = i3 12 from rfl) (rfl : i3 a1 = i3 a1))) (show (8 : Int32) = i3 8 from rfl)) (by omega) (by omega) (by omega)) ?_
            refine wz_br (i3E (zm_rd (Z := Z) (ν := ν) (k := 2) (show ((0 : Nat) : Int) = 0 from rfl) (show ((0 : Nat) : Int) = 0 from rfl) (i3I (y := (1213 + 12 * a1)) (i3A (i3A (show (1210 : Int32) = i3 1210 from rfl) (i3M (show (12 : Int32) = i3 12 from rfl) (rfl : i3 a1 = i3 a1))) (show (3 : Int32) = i3 3 from rfl)) (by omega) (by omega) (by omega))) (zm_rd (Z := Z) (ν := ν) (k := 2) (show ((0 : Nat) : Int) = 0 from rfl) (show ((0 : Nat) : Int) = 0 from rfl) (i3I (y := (1300 + ((Z 2 0 0 0) / 24))) (i3A (show (1300 : Int32) = i3 1300 from rfl) (i3D (zm_rd (Z := Z) (ν := ν) (k := 2) (show ((0 : Nat) : Int) = 0 from rfl) (show ((0 : Nat) : Int) = 0 from rfl) (show ((0 : Nat) : Int) = 0 from rfl)) (show (24 : Int32) = i3 24 from rfl) (by omega) (by omega) (by omega) (by omega))) (by omega) (by omega) (by omega))) (by omega) (by omega) (by omega) (by omega)) (fun h183 => ?_) (fun h183 => ?_)
            · replace hP := zE_p hP h183
              refine wz_i0 (i3O (n := 4400) (i3A (i3A (show (1210 : Int32) = i3 1210 from rfl) (i3M (show (12 : Int32) = i3 12 from rfl) (rfl : i3 a1 = i3 a1))) (show (8 : Int32) = i3 8 from rfl)) (by omega) (by omega) (by omega)) ?_
              have r184 := zM_f hZ182I 2 0 0 (1218 + 12 * a1)
              obtain ⟨Z185, hZ185⟩ := zx (zu Z182 2 0 0 (1218 + 12 * a1) ((Z182 2 0 0 (1218 + 12 * a1)) + 0))
              replace hP := zl_e hP hZ185
              have hZ185I := zM_u2 hZ182I hZ185 (lo := -2147483648) (hi := 2147483647) (zs_1210_8 (x := a1) (by omega) (by omega) (by omega)) (by omega) ⟨by decide, by decide⟩ (by simp only [zsp]; omega)
              have hZ185U : zU [] Z Z185 := zU_u hZ182U hZ185 (Or.inl rfl)
              have hZ185K : zC [2] Z Z185 := zC_u hZ182K hZ185 (zcl_2w (by omega) rfl)
              intro μ9 e9
              replace e9 := e9.trans (zm_wI (Z := Z182) (ν := ν) hZ185 (show ((0 : Nat) : Int) = 0 from rfl) (show ((0 : Nat) : Int) = 0 from rfl) (i3I (y := (1218 + 12 * a1)) (i3A (i3A (show (1210 : Int32) = i3 1210 from rfl) (i3M (show (12 : Int32) = i3 12 from rfl) (rfl : i3 a1 = i3 a1))) (show (8 : Int32) = i3 8 from rfl)) (by omega) (by omega) (by omega)) (i3A (zm_rd (Z := Z182) (ν := ν) (k := 2) (show ((0 : Nat) : Int) = 0 from rfl) (show ((0 : Nat) : Int) = 0 from rfl) (i3I (y := (1218 + 12 * a1)) (i3A (i3A (show (1210 : Int32) = i3 1210 from rfl) (i3M (show (12 : Int32) = i3 12 from rfl) (rfl : i3 a1 = i3 a1))) (show (8 : Int32) = i3 8 from rfl)) (by omega) (by omega) (by omega))) (show (0 : Int32) = i3 0 from rfl)))
              subst e9
              refine wz_i0 (i3O (n := 4400) (i3A (i3A (show (1210 : Int32) = i3 1210 from rfl) (i3M (show (12 : Int32) = i3 12 from rfl) (rfl : i3 a1 = i3 a1))) (show (6 : Int32) = i3 6 from rfl)) (by omega) (by omega) (by omega)) ?_
              obtain ⟨Z186, hZ186⟩ := zx (zu Z185 2 0 0 (1216 + 12 * a1) 0)
              replace hP := zl_e hP hZ186
              have hZ186I := zM_02 hZ185I hZ186 (by simp only [zsp]; omega)
              have hZ186U : zU [] Z Z186 := zU_u hZ185U hZ186 (Or.inl rfl)
              have hZ186K : zC [2] Z Z186 := zC_u hZ185K hZ186 (zcl_2w (by omega) rfl)
              intro μ9 e9
              replace e9 := e9.trans (zm_wI (Z := Z185) (ν := ν) hZ186 (show ((0 : Nat) : Int) = 0 from rfl) (show ((0 : Nat) : Int) = 0 from rfl) (i3I (y := (1216 + 12 * a1)) (i3A (i3A (show (1210 : Int32) = i3 1210 from rfl) (i3M (show (12 : Int32) = i3 12 from rfl) (rfl : i3 a1 = i3 a1))) (show (6 : Int32) = i3 6 from rfl)) (by omega) (by omega) (by omega)) (show (0 : Int32) = i3 0 from rfl))
              subst e9
              exact zlV hP ⟨hZ186I, hZ186K, hZ186U⟩
            · replace hP := zE_n hP h183
              refine wz_i0 (i3O (n := 4400) (i3A (i3A (show (1210 : Int32) = i3 1210 from rfl) (i3M (show (12 : Int32) = i3 12 from rfl) (rfl : i3 a1 = i3 a1))) (show (8 : Int32) = i3 8 from rfl)) (by omega) (by omega) (by omega)) ?_
              have r187 := zM_f hZ182I 2 0 0 (1218 + 12 * a1)
              have r188 := w3_r ((Z182 2 0 0 (1218 + 12 * a1)) + 1)
              obtain ⟨Z189, hZ189⟩ := zx (zu Z182 2 0 0 (1218 + 12 * a1) (w3 ((Z182 2 0 0 (1218 + 12 * a1)) + 1)))
              replace hP := zl_e hP hZ189
              have hZ189I := zM_u2 hZ182I hZ189 (lo := -2147483648) (hi := 2147483647) (zs_1210_8 (x := a1) (by omega) (by omega) (by omega)) (by omega) ⟨by decide, by decide⟩ (by simp only [zsp]; omega)
              have hZ189U : zU [] Z Z189 := zU_u hZ182U hZ189 (Or.inl rfl)
              have hZ189K : zC [2] Z Z189 := zC_u hZ182K hZ189 (zcl_2w (by omega) rfl)
              intro μ9 e9
              replace e9 := e9.trans (zm_wI (Z := Z182) (ν := ν) hZ189 (show ((0 : Nat) : Int) = 0 from rfl) (show ((0 : Nat) : Int) = 0 from rfl) (i3I (y := (1218 + 12 * a1)) (i3A (i3A (show (1210 : Int32) = i3 1210 from rfl) (i3M (show (12 : Int32) = i3 12 from rfl) (rfl : i3 a1 = i3 a1))) (show (8 : Int32) = i3 8 from rfl)) (by omega) (by omega) (by omega)) (i3W (i3A (zm_rd (Z := Z182) (ν := ν) (k := 2) (show ((0 : Nat) : Int) = 0 from rfl) (show ((0 : Nat) : Int) = 0 from rfl) (i3I (y := (1218 + 12 * a1)) (i3A (i3A (show (1210 : Int32) = i3 1210 from rfl) (i3M (show (12 : Int32) = i3 12 from rfl) (rfl : i3 a1 = i3 a1))) (show (8 : Int32) = i3 8 from rfl)) (by omega) (by omega) (by omega))) (show (1 : Int32) = i3 1 from rfl))))
              subst e9
              refine wz_i0 (i3O (n := 4400) (i3A (i3A (show (1210 : Int32) = i3 1210 from rfl) (i3M (show (12 : Int32) = i3 12 from rfl) (rfl : i3 a1 = i3 a1))) (show (6 : Int32) = i3 6 from rfl)) (by omega) (by omega) (by omega)) ?_
              obtain ⟨Z190, hZ190⟩ := zx (zu Z189 2 0 0 (1216 + 12 * a1) 0)
              replace hP := zl_e hP hZ190
              have hZ190I := zM_02 hZ189I hZ190 (by simp only [zsp]; omega)
              have hZ190U : zU [] Z Z190 := zU_u hZ189U hZ190 (Or.inl rfl)
              have hZ190K : zC [2] Z Z190 := zC_u hZ189K hZ190 (zcl_2w (by omega) rfl)
              intro μ9 e9
              replace e9 := e9.trans (zm_wI (Z := Z189) (ν := ν) hZ190 (show ((0 : Nat) : Int) = 0 from rfl) (show ((0 : Nat) : Int) = 0 from rfl) (i3I (y := (1216 + 12 * a1)) (i3A (i3A (show (1210 : Int32) = i3 1210 from rfl) (i3M (show (12 : Int32) = i3 12 from rfl) (rfl : i3 a1 = i3 a1))) (show (6 : Int32) = i3 6 from rfl)) (by omega) (by omega) (by omega)) (show (0 : Int32) = i3 0 from rfl))
              subst e9
              exact zlV hP ⟨hZ190I, hZ190K, hZ190U⟩
          · replace hP := zE_n hP h180
            refine wz_i0 (i3O (n := 4400) (i3A (i3A (show (1210 : Int32) = i3 1210 from rfl) (i3M (show (12 : Int32) = i3 12 from rfl) (rfl : i3 a1 = i3 a1))) (show (7 : Int32) = i3 7 from rfl)) (by omega) (by omega) (by omega)) ?_
            have r191 := zM_f hZ179I 2 0 0 (1217 + 12 * a1)
            have r192 := w3_r ((Z179 2 0 0 (1217 + 12 * a1)) + 1)
            obtain ⟨Z193, hZ193⟩ := zx (zu Z179 2 0 0 (1217 + 12 * a1) (w3 ((Z179 2 0 0 (1217 + 12 * a1)) + 1)))
            replace hP := zl_e hP hZ193
            have hZ193I := zM_u2 hZ179I hZ193 (lo := -2147483648) (hi := 2147483647) (zs_1210_7 (x := a1) (by omega) (by omega) (by omega)) (by omega) ⟨by decide, by decide⟩ (by simp only [zsp]; omega)
            have hZ193U : zU [] Z Z193 := zU_u hZ179U hZ193 (Or.inl rfl)
            have hZ193K : zC [2] Z Z193 := zC_u hZ179K hZ193 (zcl_2w (by omega) rfl)
            intro μ9 e9
            replace e9 := e9.trans (zm_wI (Z := Z179) (ν := ν) hZ193 (show ((0 : Nat) : Int) = 0 from rfl) (show ((0 : Nat) : Int) = 0 from rfl) (i3I (y := (1217 + 12 * a1)) (i3A (i3A (show (1210 : Int32) = i3 1210 from rfl) (i3M (show (12 : Int32) = i3 12 from rfl) (rfl : i3 a1 = i3 a1))) (show (7 : Int32) = i3 7 from rfl)) (by omega) (by omega) (by omega)) (i3W (i3A (zm_rd (Z := Z179) (ν := ν) (k := 2) (show ((0 : Nat) : Int) = 0 from rfl) (show ((0 : Nat) : Int) = 0 from rfl) (i3I (y := (1217 + 12 * a1)) (i3A (i3A (show (1210 : Int32) = i3 1210 from rfl) (i3M (show (12 : Int32) = i3 12 from rfl) (rfl : i3 a1 = i3 a1))) (show (7 : Int32) = i3 7 from rfl)) (by omega) (by omega) (by omega))) (show (1 : Int32) = i3 1 from rfl))))
            subst e9
            refine wz_i0 (i3O (n := 4400) (i3A (i3A (show (1210 : Int32) = i3 1210 from rfl) (i3M (show (12 : Int32) = i3 12 from rfl) (rfl : i3 a1 = i3 a1))) (show (8 : Int32) = i3 8 from rfl)) (by omega) (by omega) (by omega)) ?_
            refine wz_br (i3E (zm_rd (Z := Z) (ν := ν) (k := 2) (show ((0 : Nat) : Int) = 0 from rfl) (show ((0 : Nat) : Int) = 0 from rfl) (i3I (y := (1213 + 12 * a1)) (i3A (i3A (show (1210 : Int32) = i3 1210 from rfl) (i3M (show (12 : Int32) = i3 12 from rfl) (rfl : i3 a1 = i3 a1))) (show (3 : Int32) = i3 3 from rfl)) (by omega) (by omega) (by omega))) (zm_rd (Z := Z) (ν := ν) (k := 2) (show ((0 : Nat) : Int) = 0 from rfl) (show ((0 : Nat) : Int) = 0 from rfl) (i3I (y := (1300 + ((Z 2 0 0 0) / 24))) (i3A (show (1300 : Int32) = i3 1300 from rfl) (i3D (zm_rd (Z := Z) (ν := ν) (k := 2) (show ((0 : Nat) : Int) = 0 from rfl) (show ((0 : Nat) : Int) = 0 from rfl) (show ((0 : Nat) : Int) = 0 from rfl)) (show (24 : Int32) = i3 24 from rfl) (by omega) (by omega) (by omega) (by omega))) (by omega) (by omega) (by omega))) (by omega) (by omega) (by omega) (by omega)) (fun h194 => ?_) (fun h194 => ?_)
            · replace hP := zE_p hP h194
              refine wz_i0 (i3O (n := 4400) (i3A (i3A (show (1210 : Int32) = i3 1210 from rfl) (i3M (show (12 : Int32) = i3 12 from rfl) (rfl : i3 a1 = i3 a1))) (show (8 : Int32) = i3 8 from rfl)) (by omega) (by omega) (by omega)) ?_
              have r195 := zM_f hZ193I 2 0 0 (1218 + 12 * a1)
              obtain ⟨Z196, hZ196⟩ := zx (zu Z193 2 0 0 (1218 + 12 * a1) ((Z193 2 0 0 (1218 + 12 * a1)) + 0))
              replace hP := zl_e hP hZ196
              have hZ196I := zM_u2 hZ193I hZ196 (lo := -2147483648) (hi := 2147483647) (zs_1210_8 (x := a1) (by omega) (by omega) (by omega)) (by omega) ⟨by decide, by decide⟩ (by simp only [zsp]; omega)
              have hZ196U : zU [] Z Z196 := zU_u hZ193U hZ196 (Or.inl rfl)
              have hZ196K : zC [2] Z Z196 := zC_u hZ193K hZ196 (zcl_2w (by omega) rfl)
              intro μ9 e9
              replace e9 := e9.trans (zm_wI (Z := Z193) (ν := ν) hZ196 (show ((0 : Nat) : Int) = 0 from rfl) (show ((0 : Nat) : Int) = 0 from rfl) (i3I (y := (1218 + 12 * a1)) (i3A (i3A (show (1210 : Int32) = i3 1210 from rfl) (i3M (show (12 : Int32) = i3 12 from rfl) (rfl : i3 a1 = i3 a1))) (show (8 : Int32) = i3 8 from rfl)) (by omega) (by omega) (by omega)) (i3A (zm_rd (Z := Z193) (ν := ν) (k := 2) (show ((0 : Nat) : Int) = 0 from rfl) (show ((0 : Nat) : Int) = 0 from rfl) (i3I (y := (1218 + 12 * a1)) (i3A (i3A (show (1210 : Int32) = i3 1210 from rfl) (i3M (show (12 : Int32) = i3 12 from rfl) (rfl : i3 a1 = i3 a1))) (show (8 : Int32) = i3 8 from rfl)) (by omega) (by omega) (by omega))) (show (0 : Int32) = i3 0 from rfl)))
              subst e9
              refine wz_i0 (i3O (n := 4400) (i3A (i3A (show (1210 : Int32) = i3 1210 from rfl) (i3M (show (12 : Int32) = i3 12 from rfl) (rfl : i3 a1 = i3 a1))) (show (6 : Int32) = i3 6 from rfl)) (by omega) (by omega) (by omega)) ?_
              obtain ⟨Z197, hZ197⟩ := zx (zu Z196 2 0 0 (1216 + 12 * a1) 0)
              replace hP := zl_e hP hZ197
              have hZ197I := zM_02 hZ196I hZ197 (by simp only [zsp]; omega)
              have hZ197U : zU [] Z Z197 := zU_u hZ196U hZ197 (Or.inl rfl)
              have hZ197K : zC [2] Z Z197 := zC_u hZ196K hZ197 (zcl_2w (by omega) rfl)
              intro μ9 e9
              replace e9 := e9.trans (zm_wI (Z := Z196) (ν := ν) hZ197 (show ((0 : Nat) : Int) = 0 from rfl) (show ((0 : Nat) : Int) = 0 from rfl) (i3I (y := (1216 + 12 * a1)) (i3A (i3A (show (1210 : Int32) = i3 1210 from rfl) (i3M (show (12 : Int32) = i3 12 from rfl) (rfl : i3 a1 = i3 a1))) (show (6 : Int32) = i3 6 from rfl)) (by omega) (by omega) (by omega)) (show (0 : Int32) = i3 0 from rfl))
              subst e9
              exact zlV hP ⟨hZ197I, hZ197K, hZ197U⟩
            · replace hP := zE_n hP h194
              refine wz_i0 (i3O (n := 4400) (i3A (i3A (show (1210 : Int32) = i3 1210 from rfl) (i3M (show (12 : Int32) = i3 12 from rfl) (rfl : i3 a1 = i3 a1))) (show (8 : Int32) = i3 8 from rfl)) (by omega) (by omega) (by omega)) ?_
              have r198 := zM_f hZ193I 2 0 0 (1218 + 12 * a1)
              have r199 := w3_r ((Z193 2 0 0 (1218 + 12 * a1)) + 1)
              obtain ⟨Z200, hZ200⟩ := zx (zu Z193 2 0 0 (1218 + 12 * a1) (w3 ((Z193 2 0 0 (1218 + 12 * a1)) + 1)))
              replace hP := zl_e hP hZ200
              have hZ200I := zM_u2 hZ193I hZ200 (lo := -2147483648) (hi := 2147483647) (zs_1210_8 (x := a1) (by omega) (by omega) (by omega)) (by omega) ⟨by decide, by decide⟩ (by simp only [zsp]; omega)
              have hZ200U : zU [] Z Z200 := zU_u hZ193U hZ200 (Or.inl rfl)
              have hZ200K : zC [2] Z Z200 := zC_u hZ193K hZ200 (zcl_2w (by omega) rfl)
              intro μ9 e9
              replace e9 := e9.trans (zm_wI (Z := Z193) (ν := ν) hZ200 (show ((0 : Nat) : Int) = 0 from rfl) (show ((0 : Nat) : Int) = 0 from rfl) (i3I (y := (1218 + 12 * a1)) (i3A (i3A (show (1210 : Int32) = i3 1210 from rfl) (i3M (show (12 : Int32) = i3 12 from rfl) (rfl : i3 a1 = i3 a1))) (show (8 : Int32) = i3 8 from rfl)) (by omega) (by omega) (by omega)) (i3W (i3A (zm_rd (Z := Z193) (ν := ν) (k := 2) (show ((0 : Nat) : Int) = 0 from rfl) (show ((0 : Nat) : Int) = 0 from rfl) (i3I (y := (1218 + 12 * a1)) (i3A (i3A (show (1210 : Int32) = i3 1210 from rfl) (i3M (show (12 : Int32) = i3 12 from rfl) (rfl : i3 a1 = i3 a1))) (show (8 : Int32) = i3 8 from rfl)) (by omega) (by omega) (by omega))) (show (1 : Int32) = i3 1 from rfl))))
              subst e9
              refine wz_i0 (i3O (n := 4400) (i3A (i3A (show (1210 : Int32) = i3 1210 from rfl) (i3M (show (12 : Int32) = i3 12 from rfl) (rfl : i3 a1 = i3 a1))) (show (6 : Int32) = i3 6 from rfl)) (by omega) (by omega) (by omega)) ?_
              obtain ⟨Z201, hZ201⟩ := zx (zu Z200 2 0 0 (1216 + 12 * a1) 0)
              replace hP := zl_e hP hZ201
              have hZ201I := zM_02 hZ200I hZ201 (by simp only [zsp]; omega)
              have hZ201U : zU [] Z Z201 := zU_u hZ200U hZ201 (Or.inl rfl)
              have hZ201K : zC [2] Z Z201 := zC_u hZ200K hZ201 (zcl_2w (by omega) rfl)
              intro μ9 e9
              replace e9 := e9.trans (zm_wI (Z := Z200) (ν := ν) hZ201 (show ((0 : Nat) : Int) = 0 from rfl) (show ((0 : Nat) : Int) = 0 from rfl) (i3I (y := (1216 + 12 * a1)) (i3A (i3A (show (1210 : Int32) = i3 1210 from rfl) (i3M (show (12 : Int32) = i3 12 from rfl) (rfl : i3 a1 = i3 a1))) (show (6 : Int32) = i3 6 from rfl)) (by omega) (by omega) (by omega)) (show (0 : Int32) = i3 0 from rfl))
              subst e9
              exact zlV hP ⟨hZ201I, hZ201K, hZ201U⟩
        · replace hP := zE_n hP h178
          refine wz_i0 (i3O (n := 4400) (i3A (i3A (show (1210 : Int32) = i3 1210 from rfl) (i3M (show (12 : Int32) = i3 12 from rfl) (rfl : i3 a1 = i3 a1))) (show (5 : Int32) = i3 5 from rfl)) (by omega) (by omega) (by omega)) ?_
          obtain ⟨Z202, hZ202⟩ := zx (zu Z 2 0 0 (1215 + 12 * a1) ((Z 2 0 0 (1300 + ((Z 2 0 0 0) / 24))) - (Z 2 0 0 (1211 + 12 * a1))))
          replace hP := zl_e hP hZ202
          have hZ202I := zM_u2 hZ hZ202 (lo := 0) (hi := 40) (zs_1210_5 (x := a1) (by omega) (by omega) (by omega)) (by omega) ⟨by decide, by decide⟩ (by simp only [zsp]; omega)
          have hZ202U : zU [] Z Z202 := zU_u zU_r hZ202 (Or.inl rfl)
          have hZ202K : zC [2] Z Z202 := zC_u zC_r hZ202 (zcl_2w (by omega) rfl)
          intro μ9 e9
          replace e9 := e9.trans (zm_wI (Z := Z) (ν := ν) hZ202 (show ((0 : Nat) : Int) = 0 from rfl) (show ((0 : Nat) : Int) = 0 from rfl) (i3I (y := (1215 + 12 * a1)) (i3A (i3A (show (1210 : Int32) = i3 1210 from rfl) (i3M (show (12 : Int32) = i3 12 from rfl) (rfl : i3 a1 = i3 a1))) (show (5 : Int32) = i3 5 from rfl)) (by omega) (by omega) (by omega)) (i3S (zm_rd (Z := Z) (ν := ν) (k := 2) (show ((0 : Nat) : Int) = 0 from rfl) (show ((0 : Nat) : Int) = 0 from rfl) (i3I (y := (1300 + ((Z 2 0 0 0) / 24))) (i3A (show (1300 : Int32) = i3 1300 from rfl) (i3D (zm_rd (Z := Z) (ν := ν) (k := 2) (show ((0 : Nat) : Int) = 0 from rfl) (show ((0 : Nat) : Int) = 0 from rfl) (show ((0 : Nat) : Int) = 0 from rfl)) (show (24 : Int32) = i3 24 from rfl) (by omega) (by omega) (by omega) (by omega))) (by omega) (by omega) (by omega))) (zm_rd (Z := Z) (ν := ν) (k := 2) (show ((0 : Nat) : Int) = 0 from rfl) (show ((0 : Nat) : Int) = 0 from rfl) (i3I (y := (1211 + 12 * a1)) (i3A (i3A (show (1210 : Int32) = i3 1210 from rfl) (i3M (show (12 : Int32) = i3 12 from rfl) (rfl : i3 a1 = i3 a1))) (show (1 : Int32) = i3 1 from rfl)) (by omega) (by omega) (by omega)))))
          subst e9
          refine wz_i0 (i3O (n := 4400) (i3A (i3A (show (1210 : Int32) = i3 1210 from rfl) (i3M (show (12 : Int32) = i3 12 from rfl) (rfl : i3 a1 = i3 a1))) (show (7 : Int32) = i3 7 from rfl)) (by omega) (by omega) (by omega)) ?_
          refine wz_br (i3E (i3S (zm_rd (Z := Z) (ν := ν) (k := 2) (show ((0 : Nat) : Int) = 0 from rfl) (show ((0 : Nat) : Int) = 0 from rfl) (i3I (y := (1300 + ((Z 2 0 0 0) / 24))) (i3A (show (1300 : Int32) = i3 1300 from rfl) (i3D (zm_rd (Z := Z) (ν := ν) (k := 2) (show ((0 : Nat) : Int) = 0 from rfl) (show ((0 : Nat) : Int) = 0 from rfl) (show ((0 : Nat) : Int) = 0 from rfl)) (show (24 : Int32) = i3 24 from rfl) (by omega) (by omega) (by omega) (by omega))) (by omega) (by omega) (by omega))) (zm_rd (Z := Z) (ν := ν) (k := 2) (show ((0 : Nat) : Int) = 0 from rfl) (show ((0 : Nat) : Int) = 0 from rfl) (i3I (y := (1211 + 12 * a1)) (i3A (i3A (show (1210 : Int32) = i3 1210 from rfl) (i3M (show (12 : Int32) = i3 12 from rfl) (rfl : i3 a1 = i3 a1))) (show (1 : Int32) = i3 1 from rfl)) (by omega) (by omega) (by omega)))) (zm_rd (Z := Z) (ν := ν) (k := 2) (show ((0 : Nat) : Int) = 0 from rfl) (show ((0 : Nat) : Int) = 0 from rfl) (i3I (y := (1300 + ((Z 2 0 0 0) / 24))) (i3A (show (1300 : Int32) = i3 1300 from rfl) (i3D (zm_rd (Z := Z) (ν := ν) (k := 2) (show ((0 : Nat) : Int) = 0 from rfl) (show ((0 : Nat) : Int) = 0 from rfl) (show ((0 : Nat) : Int) = 0 from rfl)) (show (24 : Int32) = i3 24 from rfl) (by omega) (by omega) (by omega) (by omega))) (by omega) (by omega) (by omega))) (by omega) (by omega) (by omega) (by omega)) (fun h203 => ?_) (fun h203 => ?_)
          · replace hP := zE_p hP h203
            refine wz_i0 (i3O (n := 4400) (i3A (i3A (show (1210 : Int32) = i3 1210 from rfl) (i3M (show (12 : Int32) = i3 12 from rfl) (rfl : i3 a1 = i3 a1))) (show (7 : Int32) = i3 7 from rfl)) (by omega) (by omega) (by omega)) ?_
            have r204 := zM_f hZ202I 2 0 0 (1217 + 12 * a1)
            obtain ⟨Z205, hZ205⟩ := zx (zu Z202 2 0 0 (1217 + 12 * a1) ((Z202 2 0 0 (1217 + 12 * a1)) + 0))
            replace hP := zl_e hP hZ205
            have hZ205I := zM_u2 hZ202I hZ205 (lo := -2147483648) (hi := 2147483647) (zs_1210_7 (x := a1) (by omega) (by omega) (by omega)) (by omega) ⟨by decide, by decide⟩ (by simp only [zsp]; omega)
            have hZ205U : zU [] Z Z205 := zU_u hZ202U hZ205 (Or.inl rfl)
            have hZ205K : zC [2] Z Z205 := zC_u hZ202K hZ205 (zcl_2w (by omega) rfl)
            intro μ9 e9
            replace e9 := e9.trans (zm_wI (Z := Z202) (ν := ν) hZ205 (show ((0 : Nat) : Int) = 0 from rfl) (show ((0 : Nat) : Int) = 0 from rfl) (i3I (y := (1217 + 12 * a1)) (i3A (i3A (show (1210 : Int32) = i3 1210 from rfl) (i3M (show (12 : Int32) = i3 12 from rfl) (rfl : i3 a1 = i3 a1))) (show (7 : Int32) = i3 7 from rfl)) (by omega) (by omega) (by omega)) (i3A (zm_rd (Z := Z202) (ν := ν) (k := 2) (show ((0 : Nat) : Int) = 0 from rfl) (show ((0 : Nat) : Int) = 0 from rfl) (i3I (y := (1217 + 12 * a1)) (i3A (i3A (show (1210 : Int32) = i3 1210 from rfl) (i3M (show (12 : Int32) = i3 12 from rfl) (rfl : i3 a1 = i3 a1))) (show (7 : Int32) = i3 7 from rfl)) (by omega) (by omega) (by omega))) (show (0 : Int32) = i3 0 from rfl)))
            subst e9
            refine wz_i0 (i3O (n := 4400) (i3A (i3A (show (1210 : Int32) = i3 1210 from rfl) (i3M (show (12 : Int32) = i3 12 from rfl) (rfl : i3 a1 = i3 a1))) (show (8 : Int32) = i3 8 from rfl)) (by omega) (by omega) (by omega)) ?_
            refine wz_i1 (Eq.trans (i3E (i3S (zm_rd (Z := Z) (ν := ν) (k := 2) (show ((0 : Nat) : Int) = 0 from rfl) (show ((0 : Nat) : Int) = 0 from rfl) (i3I (y := (1300 + ((Z 2 0 0 0) / 24))) (i3A (show (1300 : Int32) = i3 1300 from rfl) (i3D (zm_rd (Z := Z) (ν := ν) (k := 2) (show ((0 : Nat) : Int) = 0 from rfl) (show ((0 : Nat) : Int) = 0 from rfl) (show ((0 : Nat) : Int) = 0 from rfl)) (show (24 : Int32) = i3 24 from rfl) (by omega) (by omega) (by omega) (by omega))) (by omega) (by omega) (by omega))) (zm_rd (Z := Z) (ν := ν) (k := 2) (show ((0 : Nat) : Int) = 0 from rfl) (show ((0 : Nat) : Int) = 0 from rfl) (i3I (y := (1211 + 12 * a1)) (i3A (i3A (show (1210 : Int32) = i3 1210 from rfl) (i3M (show (12 : Int32) = i3 12 from rfl) (rfl : i3 a1 = i3 a1))) (show (1 : Int32) = i3 1 from rfl)) (by omega) (by omega) (by omega)))) (zm_rd (Z := Z) (ν := ν) (k := 2) (show ((0 : Nat) : Int) = 0 from rfl) (show ((0 : Nat) : Int) = 0 from rfl) (i3I (y := (1300 + ((Z 2 0 0 0) / 24))) (i3A (show (1300 : Int32) = i3 1300 from rfl) (i3D (zm_rd (Z := Z) (ν := ν) (k := 2) (show ((0 : Nat) : Int) = 0 from rfl) (show ((0 : Nat) : Int) = 0 from rfl) (show ((0 : Nat) : Int) = 0 from rfl)) (show (24 : Int32) = i3 24 from rfl) (by omega) (by omega) (by omega) (by omega))) (by omega) (by omega) (by omega))) (by omega) (by omega) (by omega) (by omega)) (decide_eq_true (by omega))) ?_
            refine wz_i0 (i3O (n := 4400) (i3A (i3A (show (1210 : Int32) = i3 1210 from rfl) (i3M (show (12 : Int32) = i3 12 from rfl) (rfl : i3 a1 = i3 a1))) (show (8 : Int32) = i3 8 from rfl)) (by omega) (by omega) (by omega)) ?_
            have r206 := zM_f hZ205I 2 0 0 (1218 + 12 * a1)
            obtain ⟨Z207, hZ207⟩ := zx (zu Z205 2 0 0 (1218 + 12 * a1) ((Z205 2 0 0 (1218 + 12 * a1)) + 0))
            replace hP := zl_e hP hZ207
            have hZ207I := zM_u2 hZ205I hZ207 (lo := -2147483648) (hi := 2147483647) (zs_1210_8 (x := a1) (by omega) (by omega) (by omega)) (by omega) ⟨by decide, by decide⟩ (by simp only [zsp]; omega)
            have hZ207U : zU [] Z Z207 := zU_u hZ205U hZ207 (Or.inl rfl)
            have hZ207K : zC [2] Z Z207 := zC_u hZ205K hZ207 (zcl_2w (by omega) rfl)
            intro μ9 e9
            replace e9 := e9.trans (zm_wI (Z := Z205) (ν := ν) hZ207 (show ((0 : Nat) : Int) = 0 from rfl) (show ((0 : Nat) : Int) = 0 from rfl) (i3I (y := (1218 + 12 * a1)) (i3A (i3A (show (1210 : Int32) = i3 1210 from rfl) (i3M (show (12 : Int32) = i3 12 from rfl) (rfl : i3 a1 = i3 a1))) (show (8 : Int32) = i3 8 from rfl)) (by omega) (by omega) (by omega)) (i3A (zm_rd (Z := Z205) (ν := ν) (k := 2) (show ((0 : Nat) : Int) = 0 from rfl) (show ((0 : Nat) : Int) = 0 from rfl) (i3I (y := (1218 + 12 * a1)) (i3A (i3A (show (1210 : Int32) = i3 1210 from rfl) (i3M (show (12 : Int32) = i3 12 from rfl) (rfl : i3 a1 = i3 a1))) (show (8 : Int32) = i3 8 from rfl)) (by omega) (by omega) (by omega))) (show (0 : Int32) = i3 0 from rfl)))
            subst e9
            refine wz_i0 (i3O (n := 4400) (i3A (i3A (show (1210 : Int32) = i3 1210 from rfl) (i3M (show (12 : Int32) = i3 12 from rfl) (rfl : i3 a1 = i3 a1))) (show (6 : Int32) = i3 6 from rfl)) (by omega) (by omega) (by omega)) ?_
            obtain ⟨Z208, hZ208⟩ := zx (zu Z207 2 0 0 (1216 + 12 * a1) 0)
            replace hP := zl_e hP hZ208
            have hZ208I := zM_02 hZ207I hZ208 (by simp only [zsp]; omega)
            have hZ208U : zU [] Z Z208 := zU_u hZ207U hZ208 (Or.inl rfl)
            have hZ208K : zC [2] Z Z208 := zC_u hZ207K hZ208 (zcl_2w (by omega) rfl)
            intro μ9 e9
            replace e9 := e9.trans (zm_wI (Z := Z207) (ν := ν) hZ208 (show ((0 : Nat) : Int) = 0 from rfl) (show ((0 : Nat) : Int) = 0 from rfl) (i3I (y := (1216 + 12 * a1)) (i3A (i3A (show (1210 : Int32) = i3 1210 from rfl) (i3M (show (12 : Int32) = i3 12 from rfl) (rfl : i3 a1 = i3 a1))) (show (6 : Int32) = i3 6 from rfl)) (by omega) (by omega) (by omega)) (show (0 : Int32) = i3 0 from rfl))
            subst e9
            exact zlV hP ⟨hZ208I, hZ208K, hZ208U⟩
          · replace hP := zE_n hP h203
            refine wz_i0 (i3O (n := 4400) (i3A (i3A (show (1210 : Int32) = i3 1210 from rfl) (i3M (show (12 : Int32) = i3 12 from rfl) (rfl : i3 a1 = i3 a1))) (show (7 : Int32) = i3 7 from rfl)) (by omega) (by omega) (by omega)) ?_
            have r209 := zM_f hZ202I 2 0 0 (1217 + 12 * a1)
            have r210 := w3_r ((Z202 2 0 0 (1217 + 12 * a1)) + 1)
            obtain ⟨Z211, hZ211⟩ := zx (zu Z202 2 0 0 (1217 + 12 * a1) (w3 ((Z202 2 0 0 (1217 + 12 * a1)) + 1)))
            replace hP := zl_e hP hZ211
            have hZ211I := zM_u2 hZ202I hZ211 (lo := -2147483648) (hi := 2147483647) (zs_1210_7 (x := a1) (by omega) (by omega) (by omega)) (by omega) ⟨by decide, by decide⟩ (by simp only [zsp]; omega)
            have hZ211U : zU [] Z Z211 := zU_u hZ202U hZ211 (Or.inl rfl)
            have hZ211K : zC [2] Z Z211 := zC_u hZ202K hZ211 (zcl_2w (by omega) rfl)
            intro μ9 e9
            replace e9 := e9.trans (zm_wI (Z := Z202) (ν := ν) hZ211 (show ((0 : Nat) : Int) = 0 from rfl) (show ((0 : Nat) : Int) = 0 from rfl) (i3I (y := (1217 + 12 * a1)) (i3A (i3A (show (1210 : Int32) = i3 1210 from rfl) (i3M (show (12 : Int32) = i3 12 from rfl) (rfl : i3 a1 = i3 a1))) (show (7 : Int32) = i3 7 from rfl)) (by omega) (by omega) (by omega)) (i3W (i3A (zm_rd (Z := Z202) (ν := ν) (k := 2) (show ((0 : Nat) : Int) = 0 from rfl) (show ((0 : Nat) : Int) = 0 from rfl) (i3I (y := (1217 + 12 * a1)) (i3A (i3A (show (1210 : Int32) = i3 1210 from rfl) (i3M (show (12 : Int32) = i3 12 from rfl) (rfl : i3 a1 = i3 a1))) (show (7 : Int32) = i3 7 from rfl)) (by omega) (by omega) (by omega))) (show (1 : Int32) = i3 1 from rfl))))
            subst e9
            refine wz_i0 (i3O (n := 4400) (i3A (i3A (show (1210 : Int32) = i3 1210 from rfl) (i3M (show (12 : Int32) = i3 12 from rfl) (rfl : i3 a1 = i3 a1))) (show (8 : Int32) = i3 8 from rfl)) (by omega) (by omega) (by omega)) ?_
            refine wz_i0 (Eq.trans (i3E (i3S (zm_rd (Z := Z) (ν := ν) (k := 2) (show ((0 : Nat) : Int) = 0 from rfl) (show ((0 : Nat) : Int) = 0 from rfl) (i3I (y := (1300 + ((Z 2 0 0 0) / 24))) (i3A (show (1300 : Int32) = i3 1300 from rfl) (i3D (zm_rd (Z := Z) (ν := ν) (k := 2) (show ((0 : Nat) : Int) = 0 from rfl) (show ((0 : Nat) : Int) = 0 from rfl) (show ((0 : Nat) : Int) = 0 from rfl)) (show (24 : Int32) = i3 24 from rfl) (by omega) (by omega) (by omega) (by omega))) (by omega) (by omega) (by omega))) (zm_rd (Z := Z) (ν := ν) (k := 2) (show ((0 : Nat) : Int) = 0 from rfl) (show ((0 : Nat) : Int) = 0 from rfl) (i3I (y := (1211 + 12 * a1)) (i3A (i3A (show (1210 : Int32) = i3 1210 from rfl) (i3M (show (12 : Int32) = i3 12 from rfl) (rfl : i3 a1 = i3 a1))) (show (1 : Int32) = i3 1 from rfl)) (by omega) (by omega) (by omega)))) (zm_rd (Z := Z) (ν := ν) (k := 2) (show ((0 : Nat) : Int) = 0 from rfl) (show ((0 : Nat) : Int) = 0 from rfl) (i3I (y := (1300 + ((Z 2 0 0 0) / 24))) (i3A (show (1300 : Int32) = i3 1300 from rfl) (i3D (zm_rd (Z := Z) (ν := ν) (k := 2) (show ((0 : Nat) : Int) = 0 from rfl) (show ((0 : Nat) : Int) = 0 from rfl) (show ((0 : Nat) : Int) = 0 from rfl)) (show (24 : Int32) = i3 24 from rfl) (by omega) (by omega) (by omega) (by omega))) (by omega) (by omega) (by omega))) (by omega) (by omega) (by omega) (by omega)) (decide_eq_false (by omega))) ?_
            refine wz_i0 (i3O (n := 4400) (i3A (i3A (show (1210 : Int32) = i3 1210 from rfl) (i3M (show (12 : Int32) = i3 12 from rfl) (rfl : i3 a1 = i3 a1))) (show (8 : Int32) = i3 8 from rfl)) (by omega) (by omega) (by omega)) ?_
            have r212 := zM_f hZ211I 2 0 0 (1218 + 12 * a1)
            have r213 := w3_r ((Z211 2 0 0 (1218 + 12 * a1)) + 1)
            obtain ⟨Z214, hZ214⟩ := zx (zu Z211 2 0 0 (1218 + 12 * a1) (w3 ((Z211 2 0 0 (1218 + 12 * a1)) + 1)))
            replace hP := zl_e hP hZ214
            have hZ214I := zM_u2 hZ211I hZ214 (lo := -2147483648) (hi := 2147483647) (zs_1210_8 (x := a1) (by omega) (by omega) (by omega)) (by omega) ⟨by decide, by decide⟩ (by simp only [zsp]; omega)
            have hZ214U : zU [] Z Z214 := zU_u hZ211U hZ214 (Or.inl rfl)
            have hZ214K : zC [2] Z Z214 := zC_u hZ211K hZ214 (zcl_2w (by omega) rfl)
            intro μ9 e9
            replace e9 := e9.trans (zm_wI (Z := Z211) (ν := ν) hZ214 (show ((0 : Nat) : Int) = 0 from rfl) (show ((0 : Nat) : Int) = 0 from rfl) (i3I (y := (1218 + 12 * a1)) (i3A (i3A (show (1210 : Int32) = i3 1210 from rfl) (i3M (show (12 : Int32) = i3 12 from rfl) (rfl : i3 a1 = i3 a1))) (show (8 : Int32) = i3 8 from rfl)) (by omega) (by omega) (by omega)) (i3W (i3A (zm_rd (Z := Z211) (ν := ν) (k := 2) (show ((0 : Nat) : Int) = 0 from rfl) (show ((0 : Nat) : Int) = 0 from rfl) (i3I (y := (1218 + 12 * a1)) (i3A (i3A (show (1210 : Int32) = i3 1210 from rfl) (i3M (show (12 : Int32) = i3 12 from rfl) (rfl : i3 a1 = i3 a1))) (show (8 : Int32) = i3 8 from rfl)) (by omega) (by omega) (by omega))) (show (1 : Int32) = i3 1 from rfl))))
            subst e9
            refine wz_i0 (i3O (n := 4400) (i3A (i3A (show (1210 : Int32) = i3 1210 from rfl) (i3M (show (12 : Int32) = i3 12 from rfl) (rfl : i3 a1 = i3 a1))) (show (6 : Int32) = i3 6 from rfl)) (by omega) (by omega) (by omega)) ?_
            obtain ⟨Z215, hZ215⟩ := zx (zu Z214 2 0 0 (1216 + 12 * a1) 0)
            replace hP := zl_e hP hZ215
            have hZ215I := zM_02 hZ214I hZ215 (by simp only [zsp]; omega)
            have hZ215U : zU [] Z Z215 := zU_u hZ214U hZ215 (Or.inl rfl)
            have hZ215K : zC [2] Z Z215 := zC_u hZ214K hZ215 (zcl_2w (by omega) rfl)
            intro μ9 e9
            replace e9 := e9.trans (zm_wI (Z := Z214) (ν := ν) hZ215 (show ((0 : Nat) : Int) = 0 from rfl) (show ((0 : Nat) : Int) = 0 from rfl) (i3I (y := (1216 + 12 * a1)) (i3A (i3A (show (1210 : Int32) = i3 1210 from rfl) (i3M (show (12 : Int32) = i3 12 from rfl) (rfl : i3 a1 = i3 a1))) (show (6 : Int32) = i3 6 from rfl)) (by omega) (by omega) (by omega)) (show (0 : Int32) = i3 0 from rfl))
            subst e9
            exact zlV hP ⟨hZ215I, hZ215K, hZ215U⟩
      · replace hP := zE_n hP h176
        have r216 := zM_k hZ 2 0 0 (1211 + 12 * a1) (lo := 0) (hi := 9) (by decide) (zs_1210_1 (x := a1) (by omega) (by omega) (by omega))
        refine wz_br (i3Le (zm_rd (Z := Z) (ν := ν) (k := 2) (show ((0 : Nat) : Int) = 0 from rfl) (show ((0 : Nat) : Int) = 0 from rfl) (i3I (y := (1213 + 12 * a1)) (i3A (i3A (show (1210 : Int32) = i3 1210 from rfl) (i3M (show (12 : Int32) = i3 12 from rfl) (rfl : i3 a1 = i3 a1))) (show (3 : Int32) = i3 3 from rfl)) (by omega) (by omega) (by omega))) (i3A (zm_rd (Z := Z) (ν := ν) (k := 2) (show ((0 : Nat) : Int) = 0 from rfl) (show ((0 : Nat) : Int) = 0 from rfl) (i3I (y := (1300 + ((Z 2 0 0 0) / 24))) (i3A (show (1300 : Int32) = i3 1300 from rfl) (i3D (zm_rd (Z := Z) (ν := ν) (k := 2) (show ((0 : Nat) : Int) = 0 from rfl) (show ((0 : Nat) : Int) = 0 from rfl) (show ((0 : Nat) : Int) = 0 from rfl)) (show (24 : Int32) = i3 24 from rfl) (by omega) (by omega) (by omega) (by omega))) (by omega) (by omega) (by omega))) (zm_rd (Z := Z) (ν := ν) (k := 2) (show ((0 : Nat) : Int) = 0 from rfl) (show ((0 : Nat) : Int) = 0 from rfl) (i3I (y := (1211 + 12 * a1)) (i3A (i3A (show (1210 : Int32) = i3 1210 from rfl) (i3M (show (12 : Int32) = i3 12 from rfl) (rfl : i3 a1 = i3 a1))) (show (1 : Int32) = i3 1 from rfl)) (by omega) (by omega) (by omega)))) (by omega) (by omega) (by omega) (by omega)) (fun h217 => ?_) (fun h217 => ?_)
        · replace hP := zE_p hP h217
          refine wz_i0 (i3O (n := 4400) (i3A (i3A (show (1210 : Int32) = i3 1210 from rfl) (i3M (show (12 : Int32) = i3 12 from rfl) (rfl : i3 a1 = i3 a1))) (show (5 : Int32) = i3 5 from rfl)) (by omega) (by omega) (by omega)) ?_
          obtain ⟨Z218, hZ218⟩ := zx (zu Z 2 0 0 (1215 + 12 * a1) (Z 2 0 0 (1213 + 12 * a1)))
          replace hP := zl_e hP hZ218
          have hZ218I := zM_u2 hZ hZ218 (lo := 0) (hi := 40) (zs_1210_5 (x := a1) (by omega) (by omega) (by omega)) (by omega) ⟨by decide, by decide⟩ (by simp only [zsp]; omega)
          have hZ218U : zU [] Z Z218 := zU_u zU_r hZ218 (Or.inl rfl)
          have hZ218K : zC [2] Z Z218 := zC_u zC_r hZ218 (zcl_2w (by omega) rfl)
          intro μ9 e9
          replace e9 := e9.trans (zm_wI (Z := Z) (ν := ν) hZ218 (show ((0 : Nat) : Int) = 0 from rfl) (show ((0 : Nat) : Int) = 0 from rfl) (i3I (y := (1215 + 12 * a1)) (i3A (i3A (show (1210 : Int32) = i3 1210 from rfl) (i3M (show (12 : Int32) = i3 12 from rfl) (rfl : i3 a1 = i3 a1))) (show (5 : Int32) = i3 5 from rfl)) (by omega) (by omega) (by omega)) (zm_rd (Z := Z) (ν := ν) (k := 2) (show ((0 : Nat) : Int) = 0 from rfl) (show ((0 : Nat) : Int) = 0 from rfl) (i3I (y := (1213 + 12 * a1)) (i3A (i3A (show (1210 : Int32) = i3 1210 from rfl) (i3M (show (12 : Int32) = i3 12 from rfl) (rfl : i3 a1 = i3 a1))) (show (3 : Int32) = i3 3 from rfl)) (by omega) (by omega) (by omega))))
          subst e9
          refine wz_i0 (i3O (n := 4400) (i3A (i3A (show (1210 : Int32) = i3 1210 from rfl) (i3M (show (12 : Int32) = i3 12 from rfl) (rfl : i3 a1 = i3 a1))) (show (7 : Int32) = i3 7 from rfl)) (by omega) (by omega) (by omega)) ?_
          refine wz_br (i3E (zm_rd (Z := Z) (ν := ν) (k := 2) (show ((0 : Nat) : Int) = 0 from rfl) (show ((0 : Nat) : Int) = 0 from rfl) (i3I (y := (1213 + 12 * a1)) (i3A (i3A (show (1210 : Int32) = i3 1210 from rfl) (i3M (show (12 : Int32) = i3 12 from rfl) (rfl : i3 a1 = i3 a1))) (show (3 : Int32) = i3 3 from rfl)) (by omega) (by omega) (by omega))) (zm_rd (Z := Z) (ν := ν) (k := 2) (show ((0 : Nat) : Int) = 0 from rfl) (show ((0 : Nat) : Int) = 0 from rfl) (i3I (y := (1300 + ((Z 2 0 0 0) / 24))) (i3A (show (1300 : Int32) = i3 1300 from rfl) (i3D (zm_rd (Z := Z) (ν := ν) (k := 2) (show ((0 : Nat) : Int) = 0 from rfl) (show ((0 : Nat) : Int) = 0 from rfl) (show ((0 : Nat) : Int) = 0 from rfl)) (show (24 : Int32) = i3 24 from rfl) (by omega) (by omega) (by omega) (by omega))) (by omega) (by omega) (by omega))) (by omega) (by omega) (by omega) (by omega)) (fun h219 => ?_) (fun h219 => ?_)
          · replace hP := zE_p hP h219
            refine wz_i0 (i3O (n := 4400) (i3A (i3A (show (1210 : Int32) = i3 1210 from rfl) (i3M (show (12 : Int32) = i3 12 from rfl) (rfl : i3 a1 = i3 a1))) (show (7 : Int32) = i3 7 from rfl)) (by omega) (by omega) (by omega)) ?_
            have r220 := zM_f hZ218I 2 0 0 (1217 + 12 * a1)
            obtain ⟨Z221, hZ221⟩ := zx (zu Z218 2 0 0 (1217 + 12 * a1) ((Z218 2 0 0 (1217 + 12 * a1)) + 0))
            replace hP := zl_e hP hZ221
            have hZ221I := zM_u2 hZ218I hZ221 (lo := -2147483648) (hi := 2147483647) (zs_1210_7 (x := a1) (by omega) (by omega) (by omega)) (by omega) ⟨by decide, by decide⟩ (by simp only [zsp]; omega)
            have hZ221U : zU [] Z Z221 := zU_u hZ218U hZ221 (Or.inl rfl)
            have hZ221K : zC [2] Z Z221 := zC_u hZ218K hZ221 (zcl_2w (by omega) rfl)
            intro μ9 e9
            replace e9 := e9.trans (zm_wI (Z := Z218) (ν := ν) hZ221 (show ((0 : Nat) : Int) = 0 from rfl) (show ((0 : Nat) : Int) = 0 from rfl) (i3I (y := (1217 + 12 * a1)) (i3A (i3A (show (1210 : Int32) = i3 1210 from rfl) (i3M (show (12 : Int32) = i3 12 from rfl) (rfl : i3 a1 = i3 a1))) (show (7 : Int32) = i3 7 from rfl)) (by omega) (by omega) (by omega)) (i3A (zm_rd (Z := Z218) (ν := ν) (k := 2) (show ((0 : Nat) : Int) = 0 from rfl) (show ((0 : Nat) : Int) = 0 from rfl) (i3I (y := (1217 + 12 * a1)) (i3A (i3A (show (1210 : Int32) = i3 1210 from rfl) (i3M (show (12 : Int32) = i3 12 from rfl) (rfl : i3 a1 = i3 a1))) (show (7 : Int32) = i3 7 from rfl)) (by omega) (by omega) (by omega))) (show (0 : Int32) = i3 0 from rfl)))
            subst e9
            refine wz_i0 (i3O (n := 4400) (i3A (i3A (show (1210 : Int32) = i3 1210 from rfl) (i3M (show (12 : Int32) = i3 12 from rfl) (rfl : i3 a1 = i3 a1))) (show (8 : Int32) = i3 8 from rfl)) (by omega) (by omega) (by omega)) ?_
            refine wz_br (i3E (zm_rd (Z := Z) (ν := ν) (k := 2) (show ((0 : Nat) : Int) = 0 from rfl) (show ((0 : Nat) : Int) = 0 from rfl) (i3I (y := (1213 + 12 * a1)) (i3A (i3A (show (1210 : Int32) = i3 1210 from rfl) (i3M (show (12 : Int32) = i3 12 from rfl) (rfl : i3 a1 = i3 a1))) (show (3 : Int32) = i3 3 from rfl)) (by omega) (by omega) (by omega))) (zm_rd (Z := Z) (ν := ν) (k := 2) (show ((0 : Nat) : Int) = 0 from rfl) (show ((0 : Nat) : Int) = 0 from rfl) (i3I (y := (1300 + ((Z 2 0 0 0) / 24))) (i3A (show (1300 : Int32) = i3 1300 from rfl) (i3D (zm_rd (Z := Z) (ν := ν) (k := 2) (show ((0 : Nat) : Int) = 0 from rfl) (show ((0 : Nat) : Int) = 0 from rfl) (show ((0 : Nat) : Int) = 0 from rfl)) (show (24 : Int32) = i3 24 from rfl) (by omega) (by omega) (by omega) (by omega))) (by omega) (by omega) (by omega))) (by omega) (by omega) (by omega) (by omega)) (fun h222 => ?_) (fun h222 => ?_)
            · replace hP := zE_p hP h222
              refine wz_i0 (i3O (n := 4400) (i3A (i3A (show (1210 : Int32) = i3 1210 from rfl) (i3M (show (12 : Int32) = i3 12 from rfl) (rfl : i3 a1 = i3 a1))) (show (8 : Int32) = i3 8 from rfl)) (by omega) (by omega) (by omega)) ?_
              have r223 := zM_f hZ221I 2 0 0 (1218 + 12 * a1)
              obtain ⟨Z224, hZ224⟩ := zx (zu Z221 2 0 0 (1218 + 12 * a1) ((Z221 2 0 0 (1218 + 12 * a1)) + 0))
              replace hP := zl_e hP hZ224
              have hZ224I := zM_u2 hZ221I hZ224 (lo := -2147483648) (hi := 2147483647) (zs_1210_8 (x := a1) (by omega) (by omega) (by omega)) (by omega) ⟨by decide, by decide⟩ (by simp only [zsp]; omega)
              have hZ224U : zU [] Z Z224 := zU_u hZ221U hZ224 (Or.inl rfl)
              have hZ224K : zC [2] Z Z224 := zC_u hZ221K hZ224 (zcl_2w (by omega) rfl)
              intro μ9 e9
              replace e9 := e9.trans (zm_wI (Z := Z221) (ν := ν) hZ224 (show ((0 : Nat) : Int) = 0 from rfl) (show ((0 : Nat) : Int) = 0 from rfl) (i3I (y := (1218 + 12 * a1)) (i3A (i3A (show (1210 : Int32) = i3 1210 from rfl) (i3M (show (12 : Int32) = i3 12 from rfl) (rfl : i3 a1 = i3 a1))) (show (8 : Int32) = i3 8 from rfl)) (by omega) (by omega) (by omega)) (i3A (zm_rd (Z := Z221) (ν := ν) (k := 2) (show ((0 : Nat) : Int) = 0 from rfl) (show ((0 : Nat) : Int) = 0 from rfl) (i3I (y := (1218 + 12 * a1)) (i3A (i3A (show (1210 : Int32) = i3 1210 from rfl) (i3M (show (12 : Int32) = i3 12 from rfl) (rfl : i3 a1 = i3 a1))) (show (8 : Int32) = i3 8 from rfl)) (by omega) (by omega) (by omega))) (show (0 : Int32) = i3 0 from rfl)))
              subst e9
              refine wz_i0 (i3O (n := 4400) (i3A (i3A (show (1210 : Int32) = i3 1210 from rfl) (i3M (show (12 : Int32) = i3 12 from rfl) (rfl : i3 a1 = i3 a1))) (show (6 : Int32) = i3 6 from rfl)) (by omega) (by omega) (by omega)) ?_
              obtain ⟨Z225, hZ225⟩ := zx (zu Z224 2 0 0 (1216 + 12 * a1) 0)
              replace hP := zl_e hP hZ225
              have hZ225I := zM_02 hZ224I hZ225 (by simp only [zsp]; omega)
              have hZ225U : zU [] Z Z225 := zU_u hZ224U hZ225 (Or.inl rfl)
              have hZ225K : zC [2] Z Z225 := zC_u hZ224K hZ225 (zcl_2w (by omega) rfl)
              intro μ9 e9
              replace e9 := e9.trans (zm_wI (Z := Z224) (ν := ν) hZ225 (show ((0 : Nat) : Int) = 0 from rfl) (show ((0 : Nat) : Int) = 0 from rfl) (i3I (y := (1216 + 12 * a1)) (i3A (i3A (show (1210 : Int32) = i3 1210 from rfl) (i3M (show (12 : Int32) = i3 12 from rfl) (rfl : i3 a1 = i3 a1))) (show (6 : Int32) = i3 6 from rfl)) (by omega) (by omega) (by omega)) (show (0 : Int32) = i3 0 from rfl))
              subst e9
              exact zlV hP ⟨hZ225I, hZ225K, hZ225U⟩
            · replace hP := zE_n hP h222
              refine wz_i0 (i3O (n := 4400) (i3A (i3A (show (1210 : Int32) = i3 1210 from rfl) (i3M (show (12 : Int32) = i3 12 from rfl) (rfl : i3 a1 = i3 a1))) (show (8 : Int32) = i3 8 from rfl)) (by omega) (by omega) (by omega)) ?_
              have r226 := zM_f hZ221I 2 0 0 (1218 + 12 * a1)
              have r227 := w3_r ((Z221 2 0 0 (1218 + 12 * a1)) + 1)
              obtain ⟨Z228, hZ228⟩ := zx (zu Z221 2 0 0 (1218 + 12 * a1) (w3 ((Z221 2 0 0 (1218 + 12 * a1)) + 1)))
              replace hP := zl_e hP hZ228
              have hZ228I := zM_u2 hZ221I hZ228 (lo := -2147483648) (hi := 2147483647) (zs_1210_8 (x := a1) (by omega) (by omega) (by omega)) (by omega) ⟨by decide, by decide⟩ (by simp only [zsp]; omega)
              have hZ228U : zU [] Z Z228 := zU_u hZ221U hZ228 (Or.inl rfl)
              have hZ228K : zC [2] Z Z228 := zC_u hZ221K hZ228 (zcl_2w (by omega) rfl)
              intro μ9 e9
              replace e9 := e9.trans (zm_wI (Z := Z221) (ν := ν) hZ228 (show ((0 : Nat) : Int) = 0 from rfl) (show ((0 : Nat) : Int) = 0 from rfl) (i3I (y := (1218 + 12 * a1)) (i3A (i3A (show (1210 : Int32) = i3 1210 from rfl) (i3M (show (12 : Int32) = i3 12 from rfl) (rfl : i3 a1 = i3 a1))) (show (8 : Int32) = i3 8 from rfl)) (by omega) (by omega) (by omega)) (i3W (i3A (zm_rd (Z := Z221) (ν := ν) (k := 2) (show ((0 : Nat) : Int) = 0 from rfl) (show ((0 : Nat) : Int) = 0 from rfl) (i3I (y := (1218 + 12 * a1)) (i3A (i3A (show (1210 : Int32) = i3 1210 from rfl) (i3M (show (12 : Int32) = i3 12 from rfl) (rfl : i3 a1 = i3 a1))) (show (8 : Int32) = i3 8 from rfl)) (by omega) (by omega) (by omega))) (show (1 : Int32) = i3 1 from rfl))))
              subst e9
              refine wz_i0 (i3O (n := 4400) (i3A (i3A (show (1210 : Int32) = i3 1210 from rfl) (i3M (show (12 : Int32) = i3 12 from rfl) (rfl : i3 a1 = i3 a1))) (show (6 : Int32) = i3 6 from rfl)) (by omega) (by omega) (by omega)) ?_
              obtain ⟨Z229, hZ229⟩ := zx (zu Z228 2 0 0 (1216 + 12 * a1) 0)
              replace hP := zl_e hP hZ229
              have hZ229I := zM_02 hZ228I hZ229 (by simp only [zsp]; omega)
              have hZ229U : zU [] Z Z229 := zU_u hZ228U hZ229 (Or.inl rfl)
              have hZ229K : zC [2] Z Z229 := zC_u hZ228K hZ229 (zcl_2w (by omega) rfl)
              intro μ9 e9
              replace e9 := e9.trans (zm_wI (Z := Z228) (ν := ν) hZ229 (show ((0 : Nat) : Int) = 0 from rfl) (show ((0 : Nat) : Int) = 0 from rfl) (i3I (y := (1216 + 12 * a1)) (i3A (i3A (show (1210 : Int32) = i3 1210 from rfl) (i3M (show (12 : Int32) = i3 12 from rfl) (rfl : i3 a1 = i3 a1))) (show (6 : Int32) = i3 6 from rfl)) (by omega) (by omega) (by omega)) (show (0 : Int32) = i3 0 from rfl))
              subst e9
              exact zlV hP ⟨hZ229I, hZ229K, hZ229U⟩
          · replace hP := zE_n hP h219
            refine wz_i0 (i3O (n := 4400) (i3A (i3A (show (1210 : Int32) = i3 1210 from rfl) (i3M (show (12 : Int32) = i3 12 from rfl) (rfl : i3 a1 = i3 a1))) (show (7 : Int32) = i3 7 from rfl)) (by omega) (by omega) (by omega)) ?_
            have r230 := zM_f hZ218I 2 0 0 (1217 + 12 * a1)
            have r231 := w3_r ((Z218 2 0 0 (1217 + 12 * a1)) + 1)
            obtain ⟨Z232, hZ232⟩ := zx (zu Z218 2 0 0 (1217 + 12 * a1) (w3 ((Z218 2 0 0 (1217 + 12 * a1)) + 1)))
            replace hP := zl_e hP hZ232
            have hZ232I := zM_u2 hZ218I hZ232 (lo := -2147483648) (hi := 2147483647) (zs_1210_7 (x := a1) (by omega) (by omega) (by omega)) (by omega) ⟨by decide, by decide⟩ (by simp only [zsp]; omega)
            have hZ232U : zU [] Z Z232 := zU_u hZ218U hZ232 (Or.inl rfl)
            have hZ232K : zC [2] Z Z232 := zC_u hZ218K hZ232 (zcl_2w (by omega) rfl)
            intro μ9 e9
            replace e9 := e9.trans (zm_wI (Z := Z218) (ν := ν) hZ232 (show ((0 : Nat) : Int) = 0 from rfl) (show ((0 : Nat) : Int) = 0 from rfl) (i3I (y := (1217 + 12 * a1)) (i3A (i3A (show (1210 : Int32) = i3 1210 from rfl) (i3M (show (12 : Int32) = i3 12 from rfl) (rfl : i3 a1 = i3 a1))) (show (7 : Int32) = i3 7 from rfl)) (by omega) (by omega) (by omega)) (i3W (i3A (zm_rd (Z := Z218) (ν := ν) (k := 2) (show ((0 : Nat) : Int) = 0 from rfl) (show ((0 : Nat) : Int) = 0 from rfl) (i3I (y := (1217 + 12 * a1)) (i3A (i3A (show (1210 : Int32) = i3 1210 from rfl) (i3M (show (12 : Int32) = i3 12 from rfl) (rfl : i3 a1 = i3 a1))) (show (7 : Int32) = i3 7 from rfl)) (by omega) (by omega) (by omega))) (show (1 : Int32) = i3 1 from rfl))))
            subst e9
            refine wz_i0 (i3O (n := 4400) (i3A (i3A (show (1210 : Int32) = i3 1210 from rfl) (i3M (show (12 : Int32) = i3 12 from rfl) (rfl : i3 a1 = i3 a1))) (show (8 : Int32) = i3 8 from rfl)) (by omega) (by omega) (by omega)) ?_
            refine wz_br (i3E (zm_rd (Z := Z) (ν := ν) (k := 2) (show ((0 : Nat) : Int) = 0 from rfl) (show ((0 : Nat) : Int) = 0 from rfl) (i3I (y := (1213 + 12 * a1)) (i3A (i3A (show (1210 : Int32) = i3 1210 from rfl) (i3M (show (12 : Int32) = i3 12 from rfl) (rfl : i3 a1 = i3 a1))) (show (3 : Int32) = i3 3 from rfl)) (by omega) (by omega) (by omega))) (zm_rd (Z := Z) (ν := ν) (k := 2) (show ((0 : Nat) : Int) = 0 from rfl) (show ((0 : Nat) : Int) = 0 from rfl) (i3I (y := (1300 + ((Z 2 0 0 0) / 24))) (i3A (show (1300 : Int32) = i3 1300 from rfl) (i3D (zm_rd (Z := Z) (ν := ν) (k := 2) (show ((0 : Nat) : Int) = 0 from rfl) (show ((0 : Nat) : Int) = 0 from rfl) (show ((0 : Nat) : Int) = 0 from rfl)) (show (24 : Int32) = i3 24 from rfl) (by omega) (by omega) (by omega) (by omega))) (by omega) (by omega) (by omega))) (by omega) (by omega) (by omega) (by omega)) (fun h233 => ?_) (fun h233 => ?_)
            · replace hP := zE_p hP h233
              refine wz_i0 (i3O (n := 4400) (i3A (i3A (show (1210 : Int32) = i3 1210 from rfl) (i3M (show (12 : Int32) = i3 12 from rfl) (rfl : i3 a1 = i3 a1))) (show (8 : Int32) = i3 8 from rfl)) (by omega) (by omega) (by omega)) ?_
              have r234 := zM_f hZ232I 2 0 0 (1218 + 12 * a1)
              obtain ⟨Z235, hZ235⟩ := zx (zu Z232 2 0 0 (1218 + 12 * a1) ((Z232 2 0 0 (1218 + 12 * a1)) + 0))
              replace hP := zl_e hP hZ235
              have hZ235I := zM_u2 hZ232I hZ235 (lo := -2147483648) (hi := 2147483647) (zs_1210_8 (x := a1) (by omega) (by omega) (by omega)) (by omega) ⟨by decide, by decide⟩ (by simp only [zsp]; omega)
              have hZ235U : zU [] Z Z235 := zU_u hZ232U hZ235 (Or.inl rfl)
              have hZ235K : zC [2] Z Z235 := zC_u hZ232K hZ235 (zcl_2w (by omega) rfl)
              intro μ9 e9
              replace e9 := e9.trans (zm_wI (Z := Z232) (ν := ν) hZ235 (show ((0 : Nat) : Int) = 0 from rfl) (show ((0 : Nat) : Int) = 0 from rfl) (i3I (y := (1218 + 12 * a1)) (i3A (i3A (show (1210 : Int32) = i3 1210 from rfl) (i3M (show (12 : Int32) = i3 12 from rfl) (rfl : i3 a1 = i3 a1))) (show (8 : Int32) = i3 8 from rfl)) (by omega) (by omega) (by omega)) (i3A (zm_rd (Z := Z232) (ν := ν) (k := 2) (show ((0 : Nat) : Int) = 0 from rfl) (show ((0 : Nat) : Int) = 0 from rfl) (i3I (y := (1218 + 12 * a1)) (i3A (i3A (show (1210 : Int32) = i3 1210 from rfl) (i3M (show (12 : Int32) = i3 12 from rfl) (rfl : i3 a1 = i3 a1))) (show (8 : Int32) = i3 8 from rfl)) (by omega) (by omega) (by omega))) (show (0 : Int32) = i3 0 from rfl)))
              subst e9
              refine wz_i0 (i3O (n := 4400) (i3A (i3A (show (1210 : Int32) = i3 1210 from rfl) (i3M (show (12 : Int32) = i3 12 from rfl) (rfl : i3 a1 = i3 a1))) (show (6 : Int32) = i3 6 from rfl)) (by omega) (by omega) (by omega)) ?_
              obtain ⟨Z236, hZ236⟩ := zx (zu Z235 2 0 0 (1216 + 12 * a1) 0)
              replace hP := zl_e hP hZ236
              have hZ236I := zM_02 hZ235I hZ236 (by simp only [zsp]; omega)
              have hZ236U : zU [] Z Z236 := zU_u hZ235U hZ236 (Or.inl rfl)
              have hZ236K : zC [2] Z Z236 := zC_u hZ235K hZ236 (zcl_2w (by omega) rfl)
              intro μ9 e9
              replace e9 := e9.trans (zm_wI (Z := Z235) (ν := ν) hZ236 (show ((0 : Nat) : Int) = 0 from rfl) (show ((0 : Nat) : Int) = 0 from rfl) (i3I (y := (1216 + 12 * a1)) (i3A (i3A (show (1210 : Int32) = i3 1210 from rfl) (i3M (show (12 : Int32) = i3 12 from rfl) (rfl : i3 a1 = i3 a1))) (show (6 : Int32) = i3 6 from rfl)) (by omega) (by omega) (by omega)) (show (0 : Int32) = i3 0 from rfl))
              subst e9
              exact zlV hP ⟨hZ236I, hZ236K, hZ236U⟩
            · replace hP := zE_n hP h233
              refine wz_i0 (i3O (n := 4400) (i3A (i3A (show (1210 : Int32) = i3 1210 from rfl) (i3M (show (12 : Int32) = i3 12 from rfl) (rfl : i3 a1 = i3 a1))) (show (8 : Int32) = i3 8 from rfl)) (by omega) (by omega) (by omega)) ?_
              have r237 := zM_f hZ232I 2 0 0 (1218 + 12 * a1)
              have r238 := w3_r ((Z232 2 0 0 (1218 + 12 * a1)) + 1)
              obtain ⟨Z239, hZ239⟩ := zx (zu Z232 2 0 0 (1218 + 12 * a1) (w3 ((Z232 2 0 0 (1218 + 12 * a1)) + 1)))
              replace hP := zl_e hP hZ239
              have hZ239I := zM_u2 hZ232I hZ239 (lo := -2147483648) (hi := 2147483647) (zs_1210_8 (x := a1) (by omega) (by omega) (by omega)) (by omega) ⟨by decide, by decide⟩ (by simp only [zsp]; omega)
              have hZ239U : zU [] Z Z239 := zU_u hZ232U hZ239 (Or.inl rfl)
              have hZ239K : zC [2] Z Z239 := zC_u hZ232K hZ239 (zcl_2w (by omega) rfl)
              intro μ9 e9
              replace e9 := e9.trans (zm_wI (Z := Z232) (ν := ν) hZ239 (show ((0 : Nat) : Int) = 0 from rfl) (show ((0 : Nat) : Int) = 0 from rfl) (i3I (y := (1218 + 12 * a1)) (i3A (i3A (show (1210 : Int32) = i3 1210 from rfl) (i3M (show (12 : Int32) = i3 12 from rfl) (rfl : i3 a1 = i3 a1))) (show (8 : Int32) = i3 8 from rfl)) (by omega) (by omega) (by omega)) (i3W (i3A (zm_rd (Z := Z232) (ν := ν) (k := 2) (show ((0 : Nat) : Int) = 0 from rfl) (show ((0 : Nat) : Int) = 0 from rfl) (i3I (y := (1218 + 12 * a1)) (i3A (i3A (show (1210 : Int32) = i3 1210 from rfl) (i3M (show (12 : Int32) = i3 12 from rfl) (rfl : i3 a1 = i3 a1))) (show (8 : Int32) = i3 8 from rfl)) (by omega) (by omega) (by omega))) (show (1 : Int32) = i3 1 from rfl))))
              subst e9
              refine wz_i0 (i3O (n := 4400) (i3A (i3A (show (1210 : Int32) = i3 1210 from rfl) (i3M (show (12 : Int32) = i3 12 from rfl) (rfl : i3 a1 = i3 a1))) (show (6 : Int32) = i3 6 from rfl)) (by omega) (by omega) (by omega)) ?_
              obtain ⟨Z240, hZ240⟩ := zx (zu Z239 2 0 0 (1216 + 12 * a1) 0)
              replace hP := zl_e hP hZ240
              have hZ240I := zM_02 hZ239I hZ240 (by simp only [zsp]; omega)
              have hZ240U : zU [] Z Z240 := zU_u hZ239U hZ240 (Or.inl rfl)
              have hZ240K : zC [2] Z Z240 := zC_u hZ239K hZ240 (zcl_2w (by omega) rfl)
              intro μ9 e9
              replace e9 := e9.trans (zm_wI (Z := Z239) (ν := ν) hZ240 (show ((0 : Nat) : Int) = 0 from rfl) (show ((0 : Nat) : Int) = 0 from rfl) (i3I (y := (1216 + 12 * a1)) (i3A (i3A (show (1210 : Int32) = i3 1210 from rfl) (i3M (show (12 : Int32) = i3 12 from rfl) (rfl : i3 a1 = i3 a1))) (show (6 : Int32) = i3 6 from rfl)) (by omega) (by omega) (by omega)) (show (0 : Int32) = i3 0 from rfl))
              subst e9
              exact zlV hP ⟨hZ240I, hZ240K, hZ240U⟩
        · replace hP := zE_n hP h217
          refine wz_i0 (i3O (n := 4400) (i3A (i3A (show (1210 : Int32) = i3 1210 from rfl) (i3M (show (12 : Int32) = i3 12 from rfl) (rfl : i3 a1 = i3 a1))) (show (5 : Int32) = i3 5 from rfl)) (by omega) (by omega) (by omega)) ?_
          obtain ⟨Z241, hZ241⟩ := zx (zu Z 2 0 0 (1215 + 12 * a1) ((Z 2 0 0 (1300 + ((Z 2 0 0 0) / 24))) + (Z 2 0 0 (1211 + 12 * a1))))
          replace hP := zl_e hP hZ241
          have hZ241I := zM_u2 hZ hZ241 (lo := 0) (hi := 40) (zs_1210_5 (x := a1) (by omega) (by omega) (by omega)) (by omega) ⟨by decide, by decide⟩ (by simp only [zsp]; omega)
          have hZ241U : zU [] Z Z241 := zU_u zU_r hZ241 (Or.inl rfl)
          have hZ241K : zC [2] Z Z241 := zC_u zC_r hZ241 (zcl_2w (by omega) rfl)
          intro μ9 e9
          replace e9 := e9.trans (zm_wI (Z := Z) (ν := ν) hZ241 (show ((0 : Nat) : Int) = 0 from rfl) (show ((0 : Nat) : Int) = 0 from rfl) (i3I (y := (1215 + 12 * a1)) (i3A (i3A (show (1210 : Int32) = i3 1210 from rfl) (i3M (show (12 : Int32) = i3 12 from rfl) (rfl : i3 a1 = i3 a1))) (show (5 : Int32) = i3 5 from rfl)) (by omega) (by omega) (by omega)) (i3A (zm_rd (Z := Z) (ν := ν) (k := 2) (show ((0 : Nat) : Int) = 0 from rfl) (show ((0 : Nat) : Int) = 0 from rfl) (i3I (y := (1300 + ((Z 2 0 0 0) / 24))) (i3A (show (1300 : Int32) = i3 1300 from rfl) (i3D (zm_rd (Z := Z) (ν := ν) (k := 2) (show ((0 : Nat) : Int) = 0 from rfl) (show ((0 : Nat) : Int) = 0 from rfl) (show ((0 : Nat) : Int) = 0 from rfl)) (show (24 : Int32) = i3 24 from rfl) (by omega) (by omega) (by omega) (by omega))) (by omega) (by omega) (by omega))) (zm_rd (Z := Z) (ν := ν) (k := 2) (show ((0 : Nat) : Int) = 0 from rfl) (show ((0 : Nat) : Int) = 0 from rfl) (i3I (y := (1211 + 12 * a1)) (i3A (i3A (show (1210 : Int32) = i3 1210 from rfl) (i3M (show (12 : Int32) = i3 12 from rfl) (rfl : i3 a1 = i3 a1))) (show (1 : Int32) = i3 1 from rfl)) (by omega) (by omega) (by omega)))))
          subst e9
          refine wz_i0 (i3O (n := 4400) (i3A (i3A (show (1210 : Int32) = i3 1210 from rfl) (i3M (show (12 : Int32) = i3 12 from rfl) (rfl : i3 a1 = i3 a1))) (show (7 : Int32) = i3 7 from rfl)) (by omega) (by omega) (by omega)) ?_
          refine wz_br (i3E (i3A (zm_rd (Z := Z) (ν := ν) (k := 2) (show ((0 : Nat) : Int) = 0 from rfl) (show ((0 : Nat) : Int) = 0 from rfl) (i3I (y := (1300 + ((Z 2 0 0 0) / 24))) (i3A (show (1300 : Int32) = i3 1300 from rfl) (i3D (zm_rd (Z := Z) (ν := ν) (k := 2) (show ((0 : Nat) : Int) = 0 from rfl) (show ((0 : Nat) : Int) = 0 from rfl) (show ((0 : Nat) : Int) = 0 from rfl)) (show (24 : Int32) = i3 24 from rfl) (by omega) (by omega) (by omega) (by omega))) (by omega) (by omega) (by omega))) (zm_rd (Z := Z) (ν := ν) (k := 2) (show ((0 : Nat) : Int) = 0 from rfl) (show ((0 : Nat) : Int) = 0 from rfl) (i3I (y := (1211 + 12 * a1)) (i3A (i3A (show (1210 : Int32) = i3 1210 from rfl) (i3M (show (12 : Int32) = i3 12 from rfl) (rfl : i3 a1 = i3 a1))) (show (1 : Int32) = i3 1 from rfl)) (by omega) (by omega) (by omega)))) (zm_rd (Z := Z) (ν := ν) (k := 2) (show ((0 : Nat) : Int) = 0 from rfl) (show ((0 : Nat) : Int) = 0 from rfl) (i3I (y := (1300 + ((Z 2 0 0 0) / 24))) (i3A (show (1300 : Int32) = i3 1300 from rfl) (i3D (zm_rd (Z := Z) (ν := ν) (k := 2) (show ((0 : Nat) : Int) = 0 from rfl) (show ((0 : Nat) : Int) = 0 from rfl) (show ((0 : Nat) : Int) = 0 from rfl)) (show (24 : Int32) = i3 24 from rfl) (by omega) (by omega) (by omega) (by omega))) (by omega) (by omega) (by omega))) (by omega) (by omega) (by omega) (by omega)) (fun h242 => ?_) (fun h242 => ?_)
          · replace hP := zE_p hP h242
            refine wz_i0 (i3O (n := 4400) (i3A (i3A (show (1210 : Int32) = i3 1210 from rfl) (i3M (show (12 : Int32) = i3 12 from rfl) (rfl : i3 a1 = i3 a1))) (show (7 : Int32) = i3 7 from rfl)) (by omega) (by omega) (by omega)) ?_
            have r243 := zM_f hZ241I 2 0 0 (1217 + 12 * a1)
            obtain ⟨Z244, hZ244⟩ := zx (zu Z241 2 0 0 (1217 + 12 * a1) ((Z241 2 0 0 (1217 + 12 * a1)) + 0))
            replace hP := zl_e hP hZ244
            have hZ244I := zM_u2 hZ241I hZ244 (lo := -2147483648) (hi := 2147483647) (zs_1210_7 (x := a1) (by omega) (by omega) (by omega)) (by omega) ⟨by decide, by decide⟩ (by simp only [zsp]; omega)
            have hZ244U : zU [] Z Z244 := zU_u hZ241U hZ244 (Or.inl rfl)
            have hZ244K : zC [2] Z Z244 := zC_u hZ241K hZ244 (zcl_2w (by omega) rfl)
            intro μ9 e9
            replace e9 := e9.trans (zm_wI (Z := Z241) (ν := ν) hZ244 (show ((0 : Nat) : Int) = 0 from rfl) (show ((0 : Nat) : Int) = 0 from rfl) (i3I (y := (1217 + 12 * a1)) (i3A (i3A (show (1210 : Int32) = i3 1210 from rfl) (i3M (show (12 : Int32) = i3 12 from rfl) (rfl : i3 a1 = i3 a1))) (show (7 : Int32) = i3 7 from rfl)) (by omega) (by omega) (by omega)) (i3A (zm_rd (Z := Z241) (ν := ν) (k := 2) (show ((0 : Nat) : Int) = 0 from rfl) (show ((0 : Nat) : Int) = 0 from rfl) (i3I (y := (1217 + 12 * a1)) (i3A (i3A (show (1210 : Int32) = i3 1210 from rfl) (i3M (show (12 : Int32) = i3 12 from rfl) (rfl : i3 a1 = i3 a1))) (show (7 : Int32) = i3 7 from rfl)) (by omega) (by omega) (by omega))) (show (0 : Int32) = i3 0 from rfl)))
            subst e9
            refine wz_i0 (i3O (n := 4400) (i3A (i3A (show (1210 : Int32) = i3 1210 from rfl) (i3M (show (12 : Int32) = i3 12 from rfl) (rfl : i3 a1 = i3 a1))) (show (8 : Int32) = i3 8 from rfl)) (by omega) (by omega) (by omega)) ?_
            refine wz_i1 (Eq.trans (i3E (i3A (zm_rd (Z := Z) (ν := ν) (k := 2) (show ((0 : Nat) : Int) = 0 from rfl) (show ((0 : Nat) : Int) = 0 from rfl) (i3I (y := (1300 + ((Z 2 0 0 0) / 24))) (i3A (show (1300 : Int32) = i3 1300 from rfl) (i3D (zm_rd (Z := Z) (ν := ν) (k := 2) (show ((0 : Nat) : Int) = 0 from rfl) (show ((0 : Nat) : Int) = 0 from rfl) (show ((0 : Nat) : Int) = 0 from rfl)) (show (24 : Int32) = i3 24 from rfl) (by omega) (by omega) (by omega) (by omega))) (by omega) (by omega) (by omega))) (zm_rd (Z := Z) (ν := ν) (k := 2) (show ((0 : Nat) : Int) = 0 from rfl) (show ((0 : Nat) : Int) = 0 from rfl) (i3I (y := (1211 + 12 * a1)) (i3A (i3A (show (1210 : Int32) = i3 1210 from rfl) (i3M (show (12 : Int32) = i3 12 from rfl) (rfl : i3 a1 = i3 a1))) (show (1 : Int32) = i3 1 from rfl)) (by omega) (by omega) (by omega)))) (zm_rd (Z := Z) (ν := ν) (k := 2) (show ((0 : Nat) : Int) = 0 from rfl) (show ((0 : Nat) : Int) = 0 from rfl) (i3I (y := (1300 + ((Z 2 0 0 0) / 24))) (i3A (show (1300 : Int32) = i3 1300 from rfl) (i3D (zm_rd (Z := Z) (ν := ν) (k := 2) (show ((0 : Nat) : Int) = 0 from rfl) (show ((0 : Nat) : Int) = 0 from rfl) (show ((0 : Nat) : Int) = 0 from rfl)) (show (24 : Int32) = i3 24 from rfl) (by omega) (by omega) (by omega) (by omega))) (by omega) (by omega) (by omega))) (by omega) (by omega) (by omega) (by omega)) (decide_eq_true (by omega))) ?_
            refine wz_i0 (i3O (n := 4400) (i3A (i3A (show (1210 : Int32) = i3 1210 from rfl) (i3M (show (12 : Int32) = i3 12 from rfl) (rfl : i3 a1 = i3 a1))) (show (8 : Int32) = i3 8 from rfl)) (by omega) (by omega) (by omega)) ?_
            have r245 := zM_f hZ244I 2 0 0 (1218 + 12 * a1)
            obtain ⟨Z246, hZ246⟩ := zx (zu Z244 2 0 0 (1218 + 12 * a1) ((Z244 2 0 0 (1218 + 12 * a1)) + 0))
            replace hP := zl_e hP hZ246
            have hZ246I := zM_u2 hZ244I hZ246 (lo := -2147483648) (hi := 2147483647) (zs_1210_8 (x := a1) (by omega) (by omega) (by omega)) (by omega) ⟨by decide, by decide⟩ (by simp only [zsp]; omega)
            have hZ246U : zU [] Z Z246 := zU_u hZ244U hZ246 (Or.inl rfl)
            have hZ246K : zC [2] Z Z246 := zC_u hZ244K hZ246 (zcl_2w (by omega) rfl)
            intro μ9 e9
            replace e9 := e9.trans (zm_wI (Z := Z244) (ν := ν) hZ246 (show ((0 : Nat) : Int) = 0 from rfl) (show ((0 : Nat) : Int) = 0 from rfl) (i3I (y := (1218 + 12 * a1)) (i3A (i3A (show (1210 : Int32) = i3 1210 from rfl) (i3M (show (12 : Int32) = i3 12 from rfl) (rfl : i3 a1 = i3 a1))) (show (8 : Int32) = i3 8 from rfl)) (by omega) (by omega) (by omega)) (i3A (zm_rd (Z := Z244) (ν := ν) (k := 2) (show ((0 : Nat) : Int) = 0 from rfl) (show ((0 : Nat) : Int) = 0 from rfl) (i3I (y := (1218 + 12 * a1)) (i3A (i3A (show (1210 : Int32) = i3 1210 from rfl) (i3M (show (12 : Int32) = i3 12 from rfl) (rfl : i3 a1 = i3 a1))) (show (8 : Int32) = i3 8 from rfl)) (by omega) (by omega) (by omega))) (show (0 : Int32) = i3 0 from rfl)))
            subst e9
            refine wz_i0 (i3O (n := 4400) (i3A (i3A (show (1210 : Int32) = i3 1210 from rfl) (i3M (show (12 : Int32) = i3 12 from rfl) (rfl : i3 a1 = i3 a1))) (show (6 : Int32) = i3 6 from rfl)) (by omega) (by omega) (by omega)) ?_
            obtain ⟨Z247, hZ247⟩ := zx (zu Z246 2 0 0 (1216 + 12 * a1) 0)
            replace hP := zl_e hP hZ247
            have hZ247I := zM_02 hZ246I hZ247 (by simp only [zsp]; omega)
            have hZ247U : zU [] Z Z247 := zU_u hZ246U hZ247 (Or.inl rfl)
            have hZ247K : zC [2] Z Z247 := zC_u hZ246K hZ247 (zcl_2w (by omega) rfl)
            intro μ9 e9
            replace e9 := e9.trans (zm_wI (Z := Z246) (ν := ν) hZ247 (show ((0 : Nat) : Int) = 0 from rfl) (show ((0 : Nat) : Int) = 0 from rfl) (i3I (y := (1216 + 12 * a1)) (i3A (i3A (show (1210 : Int32) = i3 1210 from rfl) (i3M (show (12 : Int32) = i3 12 from rfl) (rfl : i3 a1 = i3 a1))) (show (6 : Int32) = i3 6 from rfl)) (by omega) (by omega) (by omega)) (show (0 : Int32) = i3 0 from rfl))
            subst e9
            exact zlV hP ⟨hZ247I, hZ247K, hZ247U⟩
          · replace hP := zE_n hP h242
            refine wz_i0 (i3O (n := 4400) (i3A (i3A (show (1210 : Int32) = i3 1210 from rfl) (i3M (show (12 : Int32) = i3 12 from rfl) (rfl : i3 a1 = i3 a1))) (show (7 : Int32) = i3 7 from rfl)) (by omega) (by omega) (by omega)) ?_
            have r248 := zM_f hZ241I 2 0 0 (1217 + 12 * a1)
            have r249 := w3_r ((Z241 2 0 0 (1217 + 12 * a1)) + 1)
            obtain ⟨Z250, hZ250⟩ := zx (zu Z241 2 0 0 (1217 + 12 * a1) (w3 ((Z241 2 0 0 (1217 + 12 * a1)) + 1)))
            replace hP := zl_e hP hZ250
            have hZ250I := zM_u2 hZ241I hZ250 (lo := -2147483648) (hi := 2147483647) (zs_1210_7 (x := a1) (by omega) (by omega) (by omega)) (by omega) ⟨by decide, by decide⟩ (by simp only [zsp]; omega)
            have hZ250U : zU [] Z Z250 := zU_u hZ241U hZ250 (Or.inl rfl)
            have hZ250K : zC [2] Z Z250 := zC_u hZ241K hZ250 (zcl_2w (by omega) rfl)
            intro μ9 e9
            replace e9 := e9.trans (zm_wI (Z := Z241) (ν := ν) hZ250 (show ((0 : Nat) : Int) = 0 from rfl) (show ((0 : Nat) : Int) = 0 from rfl) (i3I (y := (1217 + 12 * a1)) (i3A (i3A (show (1210 : Int32) = i3 1210 from rfl) (i3M (show (12 : Int32) = i3 12 from rfl) (rfl : i3 a1 = i3 a1))) (show (7 : Int32) = i3 7 from rfl)) (by omega) (by omega) (by omega)) (i3W (i3A (zm_rd (Z := Z241) (ν := ν) (k := 2) (show ((0 : Nat) : Int) = 0 from rfl) (show ((0 : Nat) : Int) = 0 from rfl) (i3I (y := (1217 + 12 * a1)) (i3A (i3A (show (1210 : Int32) = i3 1210 from rfl) (i3M (show (12 : Int32) = i3 12 from rfl) (rfl : i3 a1 = i3 a1))) (show (7 : Int32) = i3 7 from rfl)) (by omega) (by omega) (by omega))) (show (1 : Int32) = i3 1 from rfl))))
            subst e9
            refine wz_i0 (i3O (n := 4400) (i3A (i3A (show (1210 : Int32) = i3 1210 from rfl) (i3M (show (12 : Int32) = i3 12 from rfl) (rfl : i3 a1 = i3 a1))) (show (8 : Int32) = i3 8 from rfl)) (by omega) (by omega) (by omega)) ?_
            refine wz_i0 (Eq.trans (i3E (i3A (zm_rd (Z := Z) (ν := ν) (k := 2) (show ((0 : Nat) : Int) = 0 from rfl) (show ((0 : Nat) : Int) = 0 from rfl) (i3I (y := (1300 + ((Z 2 0 0 0) / 24))) (i3A (show (1300 : Int32) = i3 1300 from rfl) (i3D (zm_rd (Z := Z) (ν := ν) (k := 2) (show ((0 : Nat) : Int) = 0 from rfl) (show ((0 : Nat) : Int) = 0 from rfl) (show ((0 : Nat) : Int) = 0 from rfl)) (show (24 : Int32) = i3 24 from rfl) (by omega) (by omega) (by omega) (by omega))) (by omega) (by omega) (by omega))) (zm_rd (Z := Z) (ν := ν) (k := 2) (show ((0 : Nat) : Int) = 0 from rfl) (show ((0 : Nat) : Int) = 0 from rfl) (i3I (y := (1211 + 12 * a1)) (i3A (i3A (show (1210 : Int32) = i3 1210 from rfl) (i3M (show (12 : Int32) = i3 12 from rfl) (rfl : i3 a1 = i3 a1))) (show (1 : Int32) = i3 1 from rfl)) (by omega) (by omega) (by omega)))) (zm_rd (Z := Z) (ν := ν) (k := 2) (show ((0 : Nat) : Int) = 0 from rfl) (show ((0 : Nat) : Int) = 0 from rfl) (i3I (y := (1300 + ((Z 2 0 0 0) / 24))) (i3A (show (1300 : Int32) = i3 1300 from rfl) (i3D (zm_rd (Z := Z) (ν := ν) (k := 2) (show ((0 : Nat) : Int) = 0 from rfl) (show ((0 : Nat) : Int) = 0 from rfl) (show ((0 : Nat) : Int) = 0 from rfl)) (show (24 : Int32) = i3 24 from rfl) (by omega) (by omega) (by omega) (by omega))) (by omega) (by omega) (by omega))) (by omega) (by omega) (by omega) (by omega)) (decide_eq_false (by omega))) ?_
            refine wz_i0 (i3O (n := 4400) (i3A (i3A (show (1210 : Int32) = i3 1210 from rfl) (i3M (show (12 : Int32) = i3 12 from rfl) (rfl : i3 a1 = i3 a1))) (show (8 : Int32) = i3 8 from rfl)) (by omega) (by omega) (by omega)) ?_
            have r251 := zM_f hZ250I 2 0 0 (1218 + 12 * a1)
            have r252 := w3_r ((Z250 2 0 0 (1218 + 12 * a1)) + 1)
            obtain ⟨Z253, hZ253⟩ := zx (zu Z250 2 0 0 (1218 + 12 * a1) (w3 ((Z250 2 0 0 (1218 + 12 * a1)) + 1)))
            replace hP := zl_e hP hZ253
            have hZ253I := zM_u2 hZ250I hZ253 (lo := -2147483648) (hi := 2147483647) (zs_1210_8 (x := a1) (by omega) (by omega) (by omega)) (by omega) ⟨by decide, by decide⟩ (by simp only [zsp]; omega)
            have hZ253U : zU [] Z Z253 := zU_u hZ250U hZ253 (Or.inl rfl)
            have hZ253K : zC [2] Z Z253 := zC_u hZ250K hZ253 (zcl_2w (by omega) rfl)
            intro μ9 e9
            replace e9 := e9.trans (zm_wI (Z := Z250) (ν := ν) hZ253 (show ((0 : Nat) : Int) = 0 from rfl) (show ((0 : Nat) : Int) = 0 from rfl) (i3I (y := (1218 + 12 * a1)) (i3A (i3A (show (1210 : Int32) = i3 1210 from rfl) (i3M (show (12 : Int32) = i3 12 from rfl) (rfl : i3 a1 = i3 a1))) (show (8 : Int32) = i3 8 from rfl)) (by omega) (by omega) (by omega)) (i3W (i3A (zm_rd (Z := Z250) (ν := ν) (k := 2) (show ((0 : Nat) : Int) = 0 from rfl) (show ((0 : Nat) : Int) = 0 from rfl) (i3I (y := (1218 + 12 * a1)) (i3A (i3A (show (1210 : Int32) = i3 1210 from rfl) (i3M (show (12 : Int32) = i3 12 from rfl) (rfl : i3 a1 = i3 a1))) (show (8 : Int32) = i3 8 from rfl)) (by omega) (by omega) (by omega))) (show (1 : Int32) = i3 1 from rfl))))
            subst e9
            refine wz_i0 (i3O (n := 4400) (i3A (i3A (show (1210 : Int32) = i3 1210 from rfl) (i3M (show (12 : Int32) = i3 12 from rfl) (rfl : i3 a1 = i3 a1))) (show (6 : Int32) = i3 6 from rfl)) (by omega) (by omega) (by omega)) ?_
            obtain ⟨Z254, hZ254⟩ := zx (zu Z253 2 0 0 (1216 + 12 * a1) 0)
            replace hP := zl_e hP hZ254
            have hZ254I := zM_02 hZ253I hZ254 (by simp only [zsp]; omega)
            have hZ254U : zU [] Z Z254 := zU_u hZ253U hZ254 (Or.inl rfl)
            have hZ254K : zC [2] Z Z254 := zC_u hZ253K hZ254 (zcl_2w (by omega) rfl)
            intro μ9 e9
            replace e9 := e9.trans (zm_wI (Z := Z253) (ν := ν) hZ254 (show ((0 : Nat) : Int) = 0 from rfl) (show ((0 : Nat) : Int) = 0 from rfl) (i3I (y := (1216 + 12 * a1)) (i3A (i3A (show (1210 : Int32) = i3 1210 from rfl) (i3M (show (12 : Int32) = i3 12 from rfl) (rfl : i3 a1 = i3 a1))) (show (6 : Int32) = i3 6 from rfl)) (by omega) (by omega) (by omega)) (show (0 : Int32) = i3 0 from rfl))
            subst e9
            exact zlV hP ⟨hZ254I, hZ254K, hZ254U⟩
    · replace hP := zE_n hP h174
      refine wz_i0 (i3O (n := 4400) (i3A (i3A (show (1210 : Int32) = i3 1210 from rfl) (i3M (show (12 : Int32) = i3 12 from rfl) (rfl : i3 a1 = i3 a1))) (show (3 : Int32) = i3 3 from rfl)) (by omega) (by omega) (by omega)) ?_
      refine wz_i0 (i3O (n := 4400) (i3A (i3A (show (1210 : Int32) = i3 1210 from rfl) (i3M (show (12 : Int32) = i3 12 from rfl) (rfl : i3 a1 = i3 a1))) (show (1 : Int32) = i3 1 from rfl)) (by omega) (by omega) (by omega)) ?_
      have r255 := zM_k hZ 2 0 0 (1213 + 12 * a1) (lo := 0) (hi := 40) (by decide) (zs_1210_3 (x := a1) (by omega) (by omega) (by omega))
      refine wz_br (i3Le (zm_rd (Z := Z) (ν := ν) (k := 2) (show ((0 : Nat) : Int) = 0 from rfl) (show ((0 : Nat) : Int) = 0 from rfl) (i3I (y := (1213 + 12 * a1)) (i3A (i3A (show (1210 : Int32) = i3 1210 from rfl) (i3M (show (12 : Int32) = i3 12 from rfl) (rfl : i3 a1 = i3 a1))) (show (3 : Int32) = i3 3 from rfl)) (by omega) (by omega) (by omega))) (i3W (i3A (zm_rd (Z := Z) (ν := ν) (k := 2) (show ((0 : Nat) : Int) = 0 from rfl) (show ((0 : Nat) : Int) = 0 from rfl) (i3I (y := (1215 + 12 * a1)) (i3A (i3A (show (1210 : Int32) = i3 1210 from rfl) (i3M (show (12 : Int32) = i3 12 from rfl) (rfl : i3 a1 = i3 a1))) (show (5 : Int32) = i3 5 from rfl)) (by omega) (by omega) (by omega))) (i3W (i3A (zm_rd (Z := Z) (ν := ν) (k := 2) (show ((0 : Nat) : Int) = 0 from rfl) (show ((0 : Nat) : Int) = 0 from rfl) (i3I (y := (1212 + 12 * a1)) (i3A (i3A (show (1210 : Int32) = i3 1210 from rfl) (i3M (show (12 : Int32) = i3 12 from rfl) (rfl : i3 a1 = i3 a1))) (show (2 : Int32) = i3 2 from rfl)) (by omega) (by omega) (by omega))) (zm_rd (Z := Z) (ν := ν) (k := 2) (show ((0 : Nat) : Int) = 0 from rfl) (show ((0 : Nat) : Int) = 0 from rfl) (i3I (y := (1216 + 12 * a1)) (i3A (i3A (show (1210 : Int32) = i3 1210 from rfl) (i3M (show (12 : Int32) = i3 12 from rfl) (rfl : i3 a1 = i3 a1))) (show (6 : Int32) = i3 6 from rfl)) (by omega) (by omega) (by omega))))))) (by omega) (by omega) (by omega) (by omega)) (fun h256 => ?_) (fun h256 => ?_)
      · replace hP := zE_p hP h256
        have r257 := zM_k hZ 2 0 0 (1211 + 12 * a1) (lo := 0) (hi := 9) (by decide) (zs_1210_1 (x := a1) (by omega) (by omega) (by omega))
        refine wz_br (i3Le (i3S (i3W (i3A (zm_rd (Z := Z) (ν := ν) (k := 2) (show ((0 : Nat) : Int) = 0 from rfl) (show ((0 : Nat) : Int) = 0 from rfl) (i3I (y := (1215 + 12 * a1)) (i3A (i3A (show (1210 : Int32) = i3 1210 from rfl) (i3M (show (12 : Int32) = i3 12 from rfl) (rfl : i3 a1 = i3 a1))) (show (5 : Int32) = i3 5 from rfl)) (by omega) (by omega) (by omega))) (i3W (i3A (zm_rd (Z := Z) (ν := ν) (k := 2) (show ((0 : Nat) : Int) = 0 from rfl) (show ((0 : Nat) : Int) = 0 from rfl) (i3I (y := (1212 + 12 * a1)) (i3A (i3A (show (1210 : Int32) = i3 1210 from rfl) (i3M (show (12 : Int32) = i3 12 from rfl) (rfl : i3 a1 = i3 a1))) (show (2 : Int32) = i3 2 from rfl)) (by omega) (by omega) (by omega))) (zm_rd (Z := Z) (ν := ν) (k := 2) (show ((0 : Nat) : Int) = 0 from rfl) (show ((0 : Nat) : Int) = 0 from rfl) (i3I (y := (1216 + 12 * a1)) (i3A (i3A (show (1210 : Int32) = i3 1210 from rfl) (i3M (show (12 : Int32) = i3 12 from rfl) (rfl : i3 a1 = i3 a1))) (show (6 : Int32) = i3 6 from rfl)) (by omega) (by omega) (by omega))))))) (zm_rd (Z := Z) (ν := ν) (k := 2) (show ((0 : Nat) : Int) = 0 from rfl) (show ((0 : Nat) : Int) = 0 from rfl) (i3I (y := (1211 + 12 * a1)) (i3A (i3A (show (1210 : Int32) = i3 1210 from rfl) (i3M (show (12 : Int32) = i3 12 from rfl) (rfl : i3 a1 = i3 a1))) (show (1 : Int32) = i3 1 from rfl)) (by omega) (by omega) (by omega)))) (zm_rd (Z := Z) (ν := ν) (k := 2) (show ((0 : Nat) : Int) = 0 from rfl) (show ((0 : Nat) : Int) = 0 from rfl) (i3I (y := (1213 + 12 * a1)) (i3A (i3A (show (1210 : Int32) = i3 1210 from rfl) (i3M (show (12 : Int32) = i3 12 from rfl) (rfl : i3 a1 = i3 a1))) (show (3 : Int32) = i3 3 from rfl)) (by omega) (by omega) (by omega))) (by omega) (by omega) (by omega) (by omega)) (fun h258 => ?_) (fun h258 => ?_)
        · replace hP := zE_p hP h258
          refine wz_i0 (i3O (n := 4400) (i3A (i3A (show (1210 : Int32) = i3 1210 from rfl) (i3M (show (12 : Int32) = i3 12 from rfl) (rfl : i3 a1 = i3 a1))) (show (5 : Int32) = i3 5 from rfl)) (by omega) (by omega) (by omega)) ?_
          obtain ⟨Z259, hZ259⟩ := zx (zu Z 2 0 0 (1215 + 12 * a1) (Z 2 0 0 (1213 + 12 * a1)))
          replace hP := zl_e hP hZ259
          have hZ259I := zM_u2 hZ hZ259 (lo := 0) (hi := 40) (zs_1210_5 (x := a1) (by omega) (by omega) (by omega)) (by omega) ⟨by decide, by decide⟩ (by simp only [zsp]; omega)
          have hZ259U : zU [] Z Z259 := zU_u zU_r hZ259 (Or.inl rfl)
          have hZ259K : zC [2] Z Z259 := zC_u zC_r hZ259 (zcl_2w (by omega) rfl)
          intro μ9 e9
          replace e9 := e9.trans (zm_wI (Z := Z) (ν := ν) hZ259 (show ((0 : Nat) : Int) = 0 from rfl) (show ((0 : Nat) : Int) = 0 from rfl) (i3I (y := (1215 + 12 * a1)) (i3A (i3A (show (1210 : Int32) = i3 1210 from rfl) (i3M (show (12 : Int32) = i3 12 from rfl) (rfl : i3 a1 = i3 a1))) (show (5 : Int32) = i3 5 from rfl)) (by omega) (by omega) (by omega)) (zm_rd (Z := Z) (ν := ν) (k := 2) (show ((0 : Nat) : Int) = 0 from rfl) (show ((0 : Nat) : Int) = 0 from rfl) (i3I (y := (1213 + 12 * a1)) (i3A (i3A (show (1210 : Int32) = i3 1210 from rfl) (i3M (show (12 : Int32) = i3 12 from rfl) (rfl : i3 a1 = i3 a1))) (show (3 : Int32) = i3 3 from rfl)) (by omega) (by omega) (by omega))))
          subst e9
          refine wz_i0 (i3O (n := 4400) (i3A (i3A (show (1210 : Int32) = i3 1210 from rfl) (i3M (show (12 : Int32) = i3 12 from rfl) (rfl : i3 a1 = i3 a1))) (show (7 : Int32) = i3 7 from rfl)) (by omega) (by omega) (by omega)) ?_
          refine wz_br (i3E (zm_rd (Z := Z) (ν := ν) (k := 2) (show ((0 : Nat) : Int) = 0 from rfl) (show ((0 : Nat) : Int) = 0 from rfl) (i3I (y := (1213 + 12 * a1)) (i3A (i3A (show (1210 : Int32) = i3 1210 from rfl) (i3M (show (12 : Int32) = i3 12 from rfl) (rfl : i3 a1 = i3 a1))) (show (3 : Int32) = i3 3 from rfl)) (by omega) (by omega) (by omega))) (i3W (i3A (zm_rd (Z := Z) (ν := ν) (k := 2) (show ((0 : Nat) : Int) = 0 from rfl) (show ((0 : Nat) : Int) = 0 from rfl) (i3I (y := (1215 + 12 * a1)) (i3A (i3A (show (1210 : Int32) = i3 1210 from rfl) (i3M (show (12 : Int32) = i3 12 from rfl) (rfl : i3 a1 = i3 a1))) (show (5 : Int32) = i3 5 from rfl)) (by omega) (by omega) (by omega))) (i3W (i3A (zm_rd (Z := Z) (ν := ν) (k := 2) (show ((0 : Nat) : Int) = 0 from rfl) (show ((0 : Nat) : Int) = 0 from rfl) (i3I (y := (1212 + 12 * a1)) (i3A (i3A (show (1210 : Int32) = i3 1210 from rfl) (i3M (show (12 : Int32) = i3 12 from rfl) (rfl : i3 a1 = i3 a1))) (show (2 : Int32) = i3 2 from rfl)) (by omega) (by omega) (by omega))) (zm_rd (Z := Z) (ν := ν) (k := 2) (show ((0 : Nat) : Int) = 0 from rfl) (show ((0 : Nat) : Int) = 0 from rfl) (i3I (y := (1216 + 12 * a1)) (i3A (i3A (show (1210 : Int32) = i3 1210 from rfl) (i3M (show (12 : Int32) = i3 12 from rfl) (rfl : i3 a1 = i3 a1))) (show (6 : Int32) = i3 6 from rfl)) (by omega) (by omega) (by omega))))))) (by omega) (by omega) (by omega) (by omega)) (fun h260 => ?_) (fun h260 => ?_)
          · replace hP := zE_p hP h260
            refine wz_i0 (i3O (n := 4400) (i3A (i3A (show (1210 : Int32) = i3 1210 from rfl) (i3M (show (12 : Int32) = i3 12 from rfl) (rfl : i3 a1 = i3 a1))) (show (7 : Int32) = i3 7 from rfl)) (by omega) (by omega) (by omega)) ?_
            have r261 := zM_f hZ259I 2 0 0 (1217 + 12 * a1)
            obtain ⟨Z262, hZ262⟩ := zx (zu Z259 2 0 0 (1217 + 12 * a1) ((Z259 2 0 0 (1217 + 12 * a1)) + 0))
            replace hP := zl_e hP hZ262
            have hZ262I := zM_u2 hZ259I hZ262 (lo := -2147483648) (hi := 2147483647) (zs_1210_7 (x := a1) (by omega) (by omega) (by omega)) (by omega) ⟨by decide, by decide⟩ (by simp only [zsp]; omega)
            have hZ262U : zU [] Z Z262 := zU_u hZ259U hZ262 (Or.inl rfl)
            have hZ262K : zC [2] Z Z262 := zC_u hZ259K hZ262 (zcl_2w (by omega) rfl)
            intro μ9 e9
            replace e9 := e9.trans (zm_wI (Z := Z259) (ν := ν) hZ262 (show ((0 : Nat) : Int) = 0 from rfl) (show ((0 : Nat) : Int) = 0 from rfl) (i3I (y := (1217 + 12 * a1)) (i3A (i3A (show (1210 : Int32) = i3 1210 from rfl) (i3M (show (12 : Int32) = i3 12 from rfl) (rfl : i3 a1 = i3 a1))) (show (7 : Int32) = i3 7 from rfl)) (by omega) (by omega) (by omega)) (i3A (zm_rd (Z := Z259) (ν := ν) (k := 2) (show ((0 : Nat) : Int) = 0 from rfl) (show ((0 : Nat) : Int) = 0 from rfl) (i3I (y := (1217 + 12 * a1)) (i3A (i3A (show (1210 : Int32) = i3 1210 from rfl) (i3M (show (12 : Int32) = i3 12 from rfl) (rfl : i3 a1 = i3 a1))) (show (7 : Int32) = i3 7 from rfl)) (by omega) (by omega) (by omega))) (show (0 : Int32) = i3 0 from rfl)))
            subst e9
            refine wz_i0 (i3O (n := 4400) (i3A (i3A (show (1210 : Int32) = i3 1210 from rfl) (i3M (show (12 : Int32) = i3 12 from rfl) (rfl : i3 a1 = i3 a1))) (show (8 : Int32) = i3 8 from rfl)) (by omega) (by omega) (by omega)) ?_
            refine wz_br (i3E (zm_rd (Z := Z) (ν := ν) (k := 2) (show ((0 : Nat) : Int) = 0 from rfl) (show ((0 : Nat) : Int) = 0 from rfl) (i3I (y := (1213 + 12 * a1)) (i3A (i3A (show (1210 : Int32) = i3 1210 from rfl) (i3M (show (12 : Int32) = i3 12 from rfl) (rfl : i3 a1 = i3 a1))) (show (3 : Int32) = i3 3 from rfl)) (by omega) (by omega) (by omega))) (i3W (i3A (zm_rd (Z := Z) (ν := ν) (k := 2) (show ((0 : Nat) : Int) = 0 from rfl) (show ((0 : Nat) : Int) = 0 from rfl) (i3I (y := (1215 + 12 * a1)) (i3A (i3A (show (1210 : Int32) = i3 1210 from rfl) (i3M (show (12 : Int32) = i3 12 from rfl) (rfl : i3 a1 = i3 a1))) (show (5 : Int32) = i3 5 from rfl)) (by omega) (by omega) (by omega))) (i3W (i3A (zm_rd (Z := Z) (ν := ν) (k := 2) (show ((0 : Nat) : Int) = 0 from rfl) (show ((0 : Nat) : Int) = 0 from rfl) (i3I (y := (1212 + 12 * a1)) (i3A (i3A (show (1210 : Int32) = i3 1210 from rfl) (i3M (show (12 : Int32) = i3 12 from rfl) (rfl : i3 a1 = i3 a1))) (show (2 : Int32) = i3 2 from rfl)) (by omega) (by omega) (by omega))) (zm_rd (Z := Z) (ν := ν) (k := 2) (show ((0 : Nat) : Int) = 0 from rfl) (show ((0 : Nat) : Int) = 0 from rfl) (i3I (y := (1216 + 12 * a1)) (i3A (i3A (show (1210 : Int32) = i3 1210 from rfl) (i3M (show (12 : Int32) = i3 12 from rfl) (rfl : i3 a1 = i3 a1))) (show (6 : Int32) = i3 6 from rfl)) (by omega) (by omega) (by omega))))))) (by omega) (by omega) (by omega) (by omega)) (fun h263 => ?_) (fun h263 => ?_)
            · replace hP := zE_p hP h263
              refine wz_i0 (i3O (n := 4400) (i3A (i3A (show (1210 : Int32) = i3 1210 from rfl) (i3M (show (12 : Int32) = i3 12 from rfl) (rfl : i3 a1 = i3 a1))) (show (8 : Int32) = i3 8 from rfl)) (by omega) (by omega) (by omega)) ?_
              have r264 := zM_f hZ262I 2 0 0 (1218 + 12 * a1)
              obtain ⟨Z265, hZ265⟩ := zx (zu Z262 2 0 0 (1218 + 12 * a1) ((Z262 2 0 0 (1218 + 12 * a1)) + 0))
              replace hP := zl_e hP hZ265
              have hZ265I := zM_u2 hZ262I hZ265 (lo := -2147483648) (hi := 2147483647) (zs_1210_8 (x := a1) (by omega) (by omega) (by omega)) (by omega) ⟨by decide, by decide⟩ (by simp only [zsp]; omega)
              have hZ265U : zU [] Z Z265 := zU_u hZ262U hZ265 (Or.inl rfl)
              have hZ265K : zC [2] Z Z265 := zC_u hZ262K hZ265 (zcl_2w (by omega) rfl)
              intro μ9 e9
              replace e9 := e9.trans (zm_wI (Z := Z262) (ν := ν) hZ265 (show ((0 : Nat) : Int) = 0 from rfl) (show ((0 : Nat) : Int) = 0 from rfl) (i3I (y := (1218 + 12 * a1)) (i3A (i3A (show (1210 : Int32) = i3 1210 from rfl) (i3M (show (12 : Int32) = i3 12 from rfl) (rfl : i3 a1 = i3 a1))) (show (8 : Int32) = i3 8 from rfl)) (by omega) (by omega) (by omega)) (i3A (zm_rd (Z := Z262) (ν := ν) (k := 2) (show ((0 : Nat) : Int) = 0 from rfl) (show ((0 : Nat) : Int) = 0 from rfl) (i3I (y := (1218 + 12 * a1)) (i3A (i3A (show (1210 : Int32) = i3 1210 from rfl) (i3M (show (12 : Int32) = i3 12 from rfl) (rfl : i3 a1 = i3 a1))) (show (8 : Int32) = i3 8 from rfl)) (by omega) (by omega) (by omega))) (show (0 : Int32) = i3 0 from rfl)))
              subst e9
              refine wz_i0 (i3O (n := 4400) (i3A (i3A (show (1210 : Int32) = i3 1210 from rfl) (i3M (show (12 : Int32) = i3 12 from rfl) (rfl : i3 a1 = i3 a1))) (show (6 : Int32) = i3 6 from rfl)) (by omega) (by omega) (by omega)) ?_
              obtain ⟨Z266, hZ266⟩ := zx (zu Z265 2 0 0 (1216 + 12 * a1) 0)
              replace hP := zl_e hP hZ266
              have hZ266I := zM_02 hZ265I hZ266 (by simp only [zsp]; omega)
              have hZ266U : zU [] Z Z266 := zU_u hZ265U hZ266 (Or.inl rfl)
              have hZ266K : zC [2] Z Z266 := zC_u hZ265K hZ266 (zcl_2w (by omega) rfl)
              intro μ9 e9
              replace e9 := e9.trans (zm_wI (Z := Z265) (ν := ν) hZ266 (show ((0 : Nat) : Int) = 0 from rfl) (show ((0 : Nat) : Int) = 0 from rfl) (i3I (y := (1216 + 12 * a1)) (i3A (i3A (show (1210 : Int32) = i3 1210 from rfl) (i3M (show (12 : Int32) = i3 12 from rfl) (rfl : i3 a1 = i3 a1))) (show (6 : Int32) = i3 6 from rfl)) (by omega) (by omega) (by omega)) (show (0 : Int32) = i3 0 from rfl))
              subst e9
              exact zlV hP ⟨hZ266I, hZ266K, hZ266U⟩
            · replace hP := zE_n hP h263
              refine wz_i0 (i3O (n := 4400) (i3A (i3A (show (1210 : Int32) = i3 1210 from rfl) (i3M (show (12 : Int32) = i3 12 from rfl) (rfl : i3 a1 = i3 a1))) (show (8 : Int32) = i3 8 from rfl)) (by omega) (by omega) (by omega)) ?_
              have r267 := zM_f hZ262I 2 0 0 (1218 + 12 * a1)
              have r268 := w3_r ((Z262 2 0 0 (1218 + 12 * a1)) + 1)
              obtain ⟨Z269, hZ269⟩ := zx (zu Z262 2 0 0 (1218 + 12 * a1) (w3 ((Z262 2 0 0 (1218 + 12 * a1)) + 1)))
              replace hP := zl_e hP hZ269
              have hZ269I := zM_u2 hZ262I hZ269 (lo := -2147483648) (hi := 2147483647) (zs_1210_8 (x := a1) (by omega) (by omega) (by omega)) (by omega) ⟨by decide, by decide⟩ (by simp only [zsp]; omega)
              have hZ269U : zU [] Z Z269 := zU_u hZ262U hZ269 (Or.inl rfl)
              have hZ269K : zC [2] Z Z269 := zC_u hZ262K hZ269 (zcl_2w (by omega) rfl)
              intro μ9 e9
              replace e9 := e9.trans (zm_wI (Z := Z262) (ν := ν) hZ269 (show ((0 : Nat) : Int) = 0 from rfl) (show ((0 : Nat) : Int) = 0 from rfl) (i3I (y := (1218 + 12 * a1)) (i3A (i3A (show (1210 : Int32) = i3 1210 from rfl) (i3M (show (12 : Int32) = i3 12 from rfl) (rfl : i3 a1 = i3 a1))) (show (8 : Int32) = i3 8 from rfl)) (by omega) (by omega) (by omega)) (i3W (i3A (zm_rd (Z := Z262) (ν := ν) (k := 2) (show ((0 : Nat) : Int) = 0 from rfl) (show ((0 : Nat) : Int) = 0 from rfl) (i3I (y := (1218 + 12 * a1)) (i3A (i3A (show (1210 : Int32) = i3 1210 from rfl) (i3M (show (12 : Int32) = i3 12 from rfl) (rfl : i3 a1 = i3 a1))) (show (8 : Int32) = i3 8 from rfl)) (by omega) (by omega) (by omega))) (show (1 : Int32) = i3 1 from rfl))))
              subst e9
              refine wz_i0 (i3O (n := 4400) (i3A (i3A (show (1210 : Int32) = i3 1210 from rfl) (i3M (show (12 : Int32) = i3 12 from rfl) (rfl : i3 a1 = i3 a1))) (show (6 : Int32) = i3 6 from rfl)) (by omega) (by omega) (by omega)) ?_
              obtain ⟨Z270, hZ270⟩ := zx (zu Z269 2 0 0 (1216 + 12 * a1) 0)
              replace hP := zl_e hP hZ270
              have hZ270I := zM_02 hZ269I hZ270 (by simp only [zsp]; omega)
              have hZ270U : zU [] Z Z270 := zU_u hZ269U hZ270 (Or.inl rfl)
              have hZ270K : zC [2] Z Z270 := zC_u hZ269K hZ270 (zcl_2w (by omega) rfl)
              intro μ9 e9
              replace e9 := e9.trans (zm_wI (Z := Z269) (ν := ν) hZ270 (show ((0 : Nat) : Int) = 0 from rfl) (show ((0 : Nat) : Int) = 0 from rfl) (i3I (y := (1216 + 12 * a1)) (i3A (i3A (show (1210 : Int32) = i3 1210 from rfl) (i3M (show (12 : Int32) = i3 12 from rfl) (rfl : i3 a1 = i3 a1))) (show (6 : Int32) = i3 6 from rfl)) (by omega) (by omega) (by omega)) (show (0 : Int32) = i3 0 from rfl))
              subst e9
              exact zlV hP ⟨hZ270I, hZ270K, hZ270U⟩
          · replace hP := zE_n hP h260
            refine wz_i0 (i3O (n := 4400) (i3A (i3A (show (1210 : Int32) = i3 1210 from rfl) (i3M (show (12 : Int32) = i3 12 from rfl) (rfl : i3 a1 = i3 a1))) (show (7 : Int32) = i3 7 from rfl)) (by omega) (by omega) (by omega)) ?_
            have r271 := zM_f hZ259I 2 0 0 (1217 + 12 * a1)
            have r272 := w3_r ((Z259 2 0 0 (1217 + 12 * a1)) + 1)
            obtain ⟨Z273, hZ273⟩ := zx (zu Z259 2 0 0 (1217 + 12 * a1) (w3 ((Z259 2 0 0 (1217 + 12 * a1)) + 1)))
            replace hP := zl_e hP hZ273
            have hZ273I := zM_u2 hZ259I hZ273 (lo := -2147483648) (hi := 2147483647) (zs_1210_7 (x := a1) (by omega) (by omega) (by omega)) (by omega) ⟨by decide, by decide⟩ (by simp only [zsp]; omega)
            have hZ273U : zU [] Z Z273 := zU_u hZ259U hZ273 (Or.inl rfl)
            have hZ273K : zC [2] Z Z273 := zC_u hZ259K hZ273 (zcl_2w (by omega) rfl)
            intro μ9 e9
            replace e9 := e9.trans (zm_wI (Z := Z259) (ν := ν) hZ273 (show ((0 : Nat) : Int) = 0 from rfl) (show ((0 : Nat) : Int) = 0 from rfl) (i3I (y := (1217 + 12 * a1)) (i3A (i3A (show (1210 : Int32) = i3 1210 from rfl) (i3M (show (12 : Int32) = i3 12 from rfl) (rfl : i3 a1 = i3 a1))) (show (7 : Int32) = i3 7 from rfl)) (by omega) (by omega) (by omega)) (i3W (i3A (zm_rd (Z := Z259) (ν := ν) (k := 2) (show ((0 : Nat) : Int) = 0 from rfl) (show ((0 : Nat) : Int) = 0 from rfl) (i3I (y := (1217 + 12 * a1)) (i3A (i3A (show (1210 : Int32) = i3 1210 from rfl) (i3M (show (12 : Int32) = i3 12 from rfl) (rfl : i3 a1 = i3 a1))) (show (7 : Int32) = i3 7 from rfl)) (by omega) (by omega) (by omega))) (show (1 : Int32) = i3 1 from rfl))))
            subst e9
            refine wz_i0 (i3O (n := 4400) (i3A (i3A (show (1210 : Int32) = i3 1210 from rfl) (i3M (show (12 : Int32) = i3 12 from rfl) (rfl : i3 a1 = i3 a1))) (show (8 : Int32) = i3 8 from rfl)) (by omega) (by omega) (by omega)) ?_
            refine wz_br (i3E (zm_rd (Z := Z) (ν := ν) (k := 2) (show ((0 : Nat) : Int) = 0 from rfl) (show ((0 : Nat) : Int) = 0 from rfl) (i3I (y := (1213 + 12 * a1)) (i3A (i3A (show (1210 : Int32) = i3 1210 from rfl) (i3M (show (12 : Int32) = i3 12 from rfl) (rfl : i3 a1 = i3 a1))) (show (3 : Int32) = i3 3 from rfl)) (by omega) (by omega) (by omega))) (i3W (i3A (zm_rd (Z := Z) (ν := ν) (k := 2) (show ((0 : Nat) : Int) = 0 from rfl) (show ((0 : Nat) : Int) = 0 from rfl) (i3I (y := (1215 + 12 * a1)) (i3A (i3A (show (1210 : Int32) = i3 1210 from rfl) (i3M (show (12 : Int32) = i3 12 from rfl) (rfl : i3 a1 = i3 a1))) (show (5 : Int32) = i3 5 from rfl)) (by omega) (by omega) (by omega))) (i3W (i3A (zm_rd (Z := Z) (ν := ν) (k := 2) (show ((0 : Nat) : Int) = 0 from rfl) (show ((0 : Nat) : Int) = 0 from rfl) (i3I (y := (1212 + 12 * a1)) (i3A (i3A (show (1210 : Int32) = i3 1210 from rfl) (i3M (show (12 : Int32) = i3 12 from rfl) (rfl : i3 a1 = i3 a1))) (show (2 : Int32) = i3 2 from rfl)) (by omega) (by omega) (by omega))) (zm_rd (Z := Z) (ν := ν) (k := 2) (show ((0 : Nat) : Int) = 0 from rfl) (show ((0 : Nat) : Int) = 0 from rfl) (i3I (y := (1216 + 12 * a1)) (i3A (i3A (show (1210 : Int32) = i3 1210 from rfl) (i3M (show (12 : Int32) = i3 12 from rfl) (rfl : i3 a1 = i3 a1))) (show (6 : Int32) = i3 6 from rfl)) (by omega) (by omega) (by omega))))))) (by omega) (by omega) (by omega) (by omega)) (fun h274 => ?_) (fun h274 => ?_)
            · replace hP := zE_p hP h274
              refine wz_i0 (i3O (n := 4400) (i3A (i3A (show (1210 : Int32) = i3 1210 from rfl) (i3M (show (12 : Int32) = i3 12 from rfl) (rfl : i3 a1 = i3 a1))) (show (8 : Int32) = i3 8 from rfl)) (by omega) (by omega) (by omega)) ?_
              have r275 := zM_f hZ273I 2 0 0 (1218 + 12 * a1)
              obtain ⟨Z276, hZ276⟩ := zx (zu Z273 2 0 0 (1218 + 12 * a1) ((Z273 2 0 0 (1218 + 12 * a1)) + 0))
              replace hP := zl_e hP hZ276
              have hZ276I := zM_u2 hZ273I hZ276 (lo := -2147483648) (hi := 2147483647) (zs_1210_8 (x := a1) (by omega) (by omega) (by omega)) (by omega) ⟨by decide, by decide⟩ (by simp only [zsp]; omega)
              have hZ276U : zU [] Z Z276 := zU_u hZ273U hZ276 (Or.inl rfl)
              have hZ276K : zC [2] Z Z276 := zC_u hZ273K hZ276 (zcl_2w (by omega) rfl)
              intro μ9 e9
              replace e9 := e9.trans (zm_wI (Z := Z273) (ν := ν) hZ276 (show ((0 : Nat) : Int) = 0 from rfl) (show ((0 : Nat) : Int) = 0 from rfl) (i3I (y := (1218 + 12 * a1)) (i3A (i3A (show (1210 : Int32) = i3 1210 from rfl) (i3M (show (12 : Int32) = i3 12 from rfl) (rfl : i3 a1 = i3 a1))) (show (8 : Int32) = i3 8 from rfl)) (by omega) (by omega) (by omega)) (i3A (zm_rd (Z := Z273) (ν := ν) (k := 2) (show ((0 : Nat) : Int) = 0 from rfl) (show ((0 : Nat) : Int) = 0 from rfl) (i3I (y := (1218 + 12 * a1)) (i3A (i3A (show (1210 : Int32) = i3 1210 from rfl) (i3M (show (12 : Int32) = i3 12 from rfl) (rfl : i3 a1 = i3 a1))) (show (8 : Int32) = i3 8 from rfl)) (by omega) (by omega) (by omega))) (show (0 : Int32) = i3 0 from rfl)))
              subst e9
              refine wz_i0 (i3O (n := 4400) (i3A (i3A (show (1210 : Int32) = i3 1210 from rfl) (i3M (show (12 : Int32) = i3 12 from rfl) (rfl : i3 a1 = i3 a1))) (show (6 : Int32) = i3 6 from rfl)) (by omega) (by omega) (by omega)) ?_
              obtain ⟨Z277, hZ277⟩ := zx (zu Z276 2 0 0 (1216 + 12 * a1) 0)
              replace hP := zl_e hP hZ277
              have hZ277I := zM_02 hZ276I hZ277 (by simp only [zsp]; omega)
              have hZ277U : zU [] Z Z277 := zU_u hZ276U hZ277 (Or.inl rfl)
              have hZ277K : zC [2] Z Z277 := zC_u hZ276K hZ277 (zcl_2w (by omega) rfl)
              intro μ9 e9
              replace e9 := e9.trans (zm_wI (Z := Z276) (ν := ν) hZ277 (show ((0 : Nat) : Int) = 0 from rfl) (show ((0 : Nat) : Int) = 0 from rfl) (i3I (y := (1216 + 12 * a1)) (i3A (i3A (show (1210 : Int32) = i3 1210 from rfl) (i3M (show (12 : Int32) = i3 12 from rfl) (rfl : i3 a1 = i3 a1))) (show (6 : Int32) = i3 6 from rfl)) (by omega) (by omega) (by omega)) (show (0 : Int32) = i3 0 from rfl))
              subst e9
              exact zlV hP ⟨hZ277I, hZ277K, hZ277U⟩
            · replace hP := zE_n hP h274
              refine wz_i0 (i3O (n := 4400) (i3A (i3A (show (1210 : Int32) = i3 1210 from rfl) (i3M (show (12 : Int32) = i3 12 from rfl) (rfl : i3 a1 = i3 a1))) (show (8 : Int32) = i3 8 from rfl)) (by omega) (by omega) (by omega)) ?_
              have r278 := zM_f hZ273I 2 0 0 (1218 + 12 * a1)
              have r279 := w3_r ((Z273 2 0 0 (1218 + 12 * a1)) + 1)
              obtain ⟨Z280, hZ280⟩ := zx (zu Z273 2 0 0 (1218 + 12 * a1) (w3 ((Z273 2 0 0 (1218 + 12 * a1)) + 1)))
              replace hP := zl_e hP hZ280
              have hZ280I := zM_u2 hZ273I hZ280 (lo := -2147483648) (hi := 2147483647) (zs_1210_8 (x := a1) (by omega) (by omega) (by omega)) (by omega) ⟨by decide, by decide⟩ (by simp only [zsp]; omega)
              have hZ280U : zU [] Z Z280 := zU_u hZ273U hZ280 (Or.inl rfl)
              have hZ280K : zC [2] Z Z280 := zC_u hZ273K hZ280 (zcl_2w (by omega) rfl)
              intro μ9 e9
              replace e9 := e9.trans (zm_wI (Z := Z273) (ν := ν) hZ280 (show ((0 : Nat) : Int) = 0 from rfl) (show ((0 : Nat) : Int) = 0 from rfl) (i3I (y := (1218 + 12 * a1)) (i3A (i3A (show (1210 : Int32) = i3 1210 from rfl) (i3M (show (12 : Int32) = i3 12 from rfl) (rfl : i3 a1 = i3 a1))) (show (8 : Int32) = i3 8 from rfl)) (by omega) (by omega) (by omega)) (i3W (i3A (zm_rd (Z := Z273) (ν := ν) (k := 2) (show ((0 : Nat) : Int) = 0 from rfl) (show ((0 : Nat) : Int) = 0 from rfl) (i3I (y := (1218 + 12 * a1)) (i3A (i3A (show (1210 : Int32) = i3 1210 from rfl) (i3M (show (12 : Int32) = i3 12 from rfl) (rfl : i3 a1 = i3 a1))) (show (8 : Int32) = i3 8 from rfl)) (by omega) (by omega) (by omega))) (show (1 : Int32) = i3 1 from rfl))))
              subst e9
              refine wz_i0 (i3O (n := 4400) (i3A (i3A (show (1210 : Int32) = i3 1210 from rfl) (i3M (show (12 : Int32) = i3 12 from rfl) (rfl : i3 a1 = i3 a1))) (show (6 : Int32) = i3 6 from rfl)) (by omega) (by omega) (by omega)) ?_
              obtain ⟨Z281, hZ281⟩ := zx (zu Z280 2 0 0 (1216 + 12 * a1) 0)
              replace hP := zl_e hP hZ281
              have hZ281I := zM_02 hZ280I hZ281 (by simp only [zsp]; omega)
              have hZ281U : zU [] Z Z281 := zU_u hZ280U hZ281 (Or.inl rfl)
              have hZ281K : zC [2] Z Z281 := zC_u hZ280K hZ281 (zcl_2w (by omega) rfl)
              intro μ9 e9
              replace e9 := e9.trans (zm_wI (Z := Z280) (ν := ν) hZ281 (show ((0 : Nat) : Int) = 0 from rfl) (show ((0 : Nat) : Int) = 0 from rfl) (i3I (y := (1216 + 12 * a1)) (i3A (i3A (show (1210 : Int32) = i3 1210 from rfl) (i3M (show (12 : Int32) = i3 12 from rfl) (rfl : i3 a1 = i3 a1))) (show (6 : Int32) = i3 6 from rfl)) (by omega) (by omega) (by omega)) (show (0 : Int32) = i3 0 from rfl))
              subst e9
              exact zlV hP ⟨hZ281I, hZ281K, hZ281U⟩
        · replace hP := zE_n hP h258
          refine wz_i0 (i3O (n := 4400) (i3A (i3A (show (1210 : Int32) = i3 1210 from rfl) (i3M (show (12 : Int32) = i3 12 from rfl) (rfl : i3 a1 = i3 a1))) (show (5 : Int32) = i3 5 from rfl)) (by omega) (by omega) (by omega)) ?_
          obtain ⟨Z282, hZ282⟩ := zx (zu Z 2 0 0 (1215 + 12 * a1) ((w3 ((Z 2 0 0 (1215 + 12 * a1)) + (w3 ((Z 2 0 0 (1212 + 12 * a1)) + (Z 2 0 0 (1216 + 12 * a1)))))) - (Z 2 0 0 (1211 + 12 * a1))))
          replace hP := zl_e hP hZ282
          have hZ282I := zM_u2 hZ hZ282 (lo := 0) (hi := 40) (zs_1210_5 (x := a1) (by omega) (by omega) (by omega)) (by omega) ⟨by decide, by decide⟩ (by simp only [zsp]; omega)
          have hZ282U : zU [] Z Z282 := zU_u zU_r hZ282 (Or.inl rfl)
          have hZ282K : zC [2] Z Z282 := zC_u zC_r hZ282 (zcl_2w (by omega) rfl)
          intro μ9 e9
          replace e9 := e9.trans (zm_wI (Z := Z) (ν := ν) hZ282 (show ((0 : Nat) : Int) = 0 from rfl) (show ((0 : Nat) : Int) = 0 from rfl) (i3I (y := (1215 + 12 * a1)) (i3A (i3A (show (1210 : Int32) = i3 1210 from rfl) (i3M (show (12 : Int32) = i3 12 from rfl) (rfl : i3 a1 = i3 a1))) (show (5 : Int32) = i3 5 from rfl)) (by omega) (by omega) (by omega)) (i3S (i3W (i3A (zm_rd (Z := Z) (ν := ν) (k := 2) (show ((0 : Nat) : Int) = 0 from rfl) (show ((0 : Nat) : Int) = 0 from rfl) (i3I (y := (1215 + 12 * a1)) (i3A (i3A (show (1210 : Int32) = i3 1210 from rfl) (i3M (show (12 : Int32) = i3 12 from rfl) (rfl : i3 a1 = i3 a1))) (show (5 : Int32) = i3 5 from rfl)) (by omega) (by omega) (by omega))) (i3W (i3A (zm_rd (Z := Z) (ν := ν) (k := 2) (show ((0 : Nat) : Int) = 0 from rfl) (show ((0 : Nat) : Int) = 0 from rfl) (i3I (y := (1212 + 12 * a1)) (i3A (i3A (show (1210 : Int32) = i3 1210 from rfl) (i3M (show (12 : Int32) = i3 12 from rfl) (rfl : i3 a1 = i3 a1))) (show (2 : Int32) = i3 2 from rfl)) (by omega) (by omega) (by omega))) (zm_rd (Z := Z) (ν := ν) (k := 2) (show ((0 : Nat) : Int) = 0 from rfl) (show ((0 : Nat) : Int) = 0 from rfl) (i3I (y := (1216 + 12 * a1)) (i3A (i3A (show (1210 : Int32) = i3 1210 from rfl) (i3M (show (12 : Int32) = i3 12 from rfl) (rfl : i3 a1 = i3 a1))) (show (6 : Int32) = i3 6 from rfl)) (by omega) (by omega) (by omega))))))) (zm_rd (Z := Z) (ν := ν) (k := 2) (show ((0 : Nat) : Int) = 0 from rfl) (show ((0 : Nat) : Int) = 0 from rfl) (i3I (y := (1211 + 12 * a1)) (i3A (i3A (show (1210 : Int32) = i3 1210 from rfl) (i3M (show (12 : Int32) = i3 12 from rfl) (rfl : i3 a1 = i3 a1))) (show (1 : Int32) = i3 1 from rfl)) (by omega) (by omega) (by omega)))))
          subst e9
          refine wz_i0 (i3O (n := 4400) (i3A (i3A (show (1210 : Int32) = i3 1210 from rfl) (i3M (show (12 : Int32) = i3 12 from rfl) (rfl : i3 a1 = i3 a1))) (show (7 : Int32) = i3 7 from rfl)) (by omega) (by omega) (by omega)) ?_
          refine wz_br (i3E (i3S (i3W (i3A (zm_rd (Z := Z) (ν := ν) (k := 2) (show ((0 : Nat) : Int) = 0 from rfl) (show ((0 : Nat) : Int) = 0 from rfl) (i3I (y := (1215 + 12 * a1)) (i3A (i3A (show (1210 : Int32) = i3 1210 from rfl) (i3M (show (12 : Int32) = i3 12 from rfl) (rfl : i3 a1 = i3 a1))) (show (5 : Int32) = i3 5 from rfl)) (by omega) (by omega) (by omega))) (i3W (i3A (zm_rd (Z := Z) (ν := ν) (k := 2) (show ((0 : Nat) : Int) = 0 from rfl) (show ((0 : Nat) : Int) = 0 from rfl) (i3I (y := (1212 + 12 * a1)) (i3A (i3A (show (1210 : Int32) = i3 1210 from rfl) (i3M (show (12 : Int32) = i3 12 from rfl) (rfl : i3 a1 = i3 a1))) (show (2 : Int32) = i3 2 from rfl)) (by omega) (by omega) (by omega))) (zm_rd (Z := Z) (ν := ν) (k := 2) (show ((0 : Nat) : Int) = 0 from rfl) (show ((0 : Nat) : Int) = 0 from rfl) (i3I (y := (1216 + 12 * a1)) (i3A (i3A (show (1210 : Int32) = i3 1210 from rfl) (i3M (show (12 : Int32) = i3 12 from rfl) (rfl : i3 a1 = i3 a1))) (show (6 : Int32) = i3 6 from rfl)) (by omega) (by omega) (by omega))))))) (zm_rd (Z := Z) (ν := ν) (k := 2) (show ((0 : Nat) : Int) = 0 from rfl) (show ((0 : Nat) : Int) = 0 from rfl) (i3I (y := (1211 + 12 * a1)) (i3A (i3A (show (1210 : Int32) = i3 1210 from rfl) (i3M (show (12 : Int32) = i3 12 from rfl) (rfl : i3 a1 = i3 a1))) (show (1 : Int32) = i3 1 from rfl)) (by omega) (by omega) (by omega)))) (i3W (i3A (zm_rd (Z := Z) (ν := ν) (k := 2) (show ((0 : Nat) : Int) = 0 from rfl) (show ((0 : Nat) : Int) = 0 from rfl) (i3I (y := (1215 + 12 * a1)) (i3A (i3A (show (1210 : Int32) = i3 1210 from rfl) (i3M (show (12 : Int32) = i3 12 from rfl) (rfl : i3 a1 = i3 a1))) (show (5 : Int32) = i3 5 from rfl)) (by omega) (by omega) (by omega))) (i3W (i3A (zm_rd (Z := Z) (ν := ν) (k := 2) (show ((0 : Nat) : Int) = 0 from rfl) (show ((0 : Nat) : Int) = 0 from rfl) (i3I (y := (1212 + 12 * a1)) (i3A (i3A (show (1210 : Int32) = i3 1210 from rfl) (i3M (show (12 : Int32) = i3 12 from rfl) (rfl : i3 a1 = i3 a1))) (show (2 : Int32) = i3 2 from rfl)) (by omega) (by omega) (by omega))) (zm_rd (Z := Z) (ν := ν) (k := 2) (show ((0 : Nat) : Int) = 0 from rfl) (show ((0 : Nat) : Int) = 0 from rfl) (i3I (y := (1216 + 12 * a1)) (i3A (i3A (show (1210 : Int32) = i3 1210 from rfl) (i3M (show (12 : Int32) = i3 12 from rfl) (rfl : i3 a1 = i3 a1))) (show (6 : Int32) = i3 6 from rfl)) (by omega) (by omega) (by omega))))))) (by omega) (by omega) (by omega) (by omega)) (fun h283 => ?_) (fun h283 => ?_)
          · replace hP := zE_p hP h283
            refine wz_i0 (i3O (n := 4400) (i3A (i3A (show (1210 : Int32) = i3 1210 from rfl) (i3M (show (12 : Int32) = i3 12 from rfl) (rfl : i3 a1 = i3 a1))) (show (7 : Int32) = i3 7 from rfl)) (by omega) (by omega) (by omega)) ?_
            have r284 := zM_f hZ282I 2 0 0 (1217 + 12 * a1)
            obtain ⟨Z285, hZ285⟩ := zx (zu Z282 2 0 0 (1217 + 12 * a1) ((Z282 2 0 0 (1217 + 12 * a1)) + 0))
            replace hP := zl_e hP hZ285
            have hZ285I := zM_u2 hZ282I hZ285 (lo := -2147483648) (hi := 2147483647) (zs_1210_7 (x := a1) (by omega) (by omega) (by omega)) (by omega) ⟨by decide, by decide⟩ (by simp only [zsp]; omega)
            have hZ285U : zU [] Z Z285 := zU_u hZ282U hZ285 (Or.inl rfl)
            have hZ285K : zC [2] Z Z285 := zC_u hZ282K hZ285 (zcl_2w (by omega) rfl)
            intro μ9 e9
            replace e9 := e9.trans (zm_wI (Z := Z282) (ν := ν) hZ285 (show ((0 : Nat) : Int) = 0 from rfl) (show ((0 : Nat) : Int) = 0 from rfl) (i3I (y := (1217 + 12 * a1)) (i3A (i3A (show (1210 : Int32) = i3 1210 from rfl) (i3M (show (12 : Int32) = i3 12 from rfl) (rfl : i3 a1 = i3 a1))) (show (7 : Int32) = i3 7 from rfl)) (by omega) (by omega) (by omega)) (i3A (zm_rd (Z := Z282) (ν := ν) (k := 2) (show ((0 : Nat) : Int) = 0 from rfl) (show ((0 : Nat) : Int) = 0 from rfl) (i3I (y := (1217 + 12 * a1)) (i3A (i3A (show (1210 : Int32) = i3 1210 from rfl) (i3M (show (12 : Int32) = i3 12 from rfl) (rfl : i3 a1 = i3 a1))) (show (7 : Int32) = i3 7 from rfl)) (by omega) (by omega) (by omega))) (show (0 : Int32) = i3 0 from rfl)))
            subst e9
            refine wz_i0 (i3O (n := 4400) (i3A (i3A (show (1210 : Int32) = i3 1210 from rfl) (i3M (show (12 : Int32) = i3 12 from rfl) (rfl : i3 a1 = i3 a1))) (show (8 : Int32) = i3 8 from rfl)) (by omega) (by omega) (by omega)) ?_
            refine wz_i1 (Eq.trans (i3E (i3S (i3W (i3A (zm_rd (Z := Z) (ν := ν) (k := 2) (show ((0 : Nat) : Int) = 0 from rfl) (show ((0 : Nat) : Int) = 0 from rfl) (i3I (y := (1215 + 12 * a1)) (i3A (i3A (show (1210 : Int32) = i3 1210 from rfl) (i3M (show (12 : Int32) = i3 12 from rfl) (rfl : i3 a1 = i3 a1))) (show (5 : Int32) = i3 5 from rfl)) (by omega) (by omega) (by omega))) (i3W (i3A (zm_rd (Z := Z) (ν := ν) (k := 2) (show ((0 : Nat) : Int) = 0 from rfl) (show ((0 : Nat) : Int) = 0 from rfl) (i3I (y := (1212 + 12 * a1)) (i3A (i3A (show (1210 : Int32) = i3 1210 from rfl) (i3M (show (12 : Int32) = i3 12 from rfl) (rfl : i3 a1 = i3 a1))) (show (2 : Int32) = i3 2 from rfl)) (by omega) (by omega) (by omega))) (zm_rd (Z := Z) (ν := ν) (k := 2) (show ((0 : Nat) : Int) = 0 from rfl) (show ((0 : Nat) : Int) = 0 from rfl) (i3I (y := (1216 + 12 * a1)) (i3A (i3A (show (1210 : Int32) = i3 1210 from rfl) (i3M (show (12 : Int32) = i3 12 from rfl) (rfl : i3 a1 = i3 a1))) (show (6 : Int32) = i3 6 from rfl)) (by omega) (by omega) (by omega))))))) (zm_rd (Z := Z) (ν := ν) (k := 2) (show ((0 : Nat) : Int) = 0 from rfl) (show ((0 : Nat) : Int) = 0 from rfl) (i3I (y := (1211 + 12 * a1)) (i3A (i3A (show (1210 : Int32) = i3 1210 from rfl) (i3M (show (12 : Int32) = i3 12 from rfl) (rfl : i3 a1 = i3 a1))) (show (1 : Int32) = i3 1 from rfl)) (by omega) (by omega) (by omega)))) (i3W (i3A (zm_rd (Z := Z) (ν := ν) (k := 2) (show ((0 : Nat) : Int) = 0 from rfl) (show ((0 : Nat) : Int) = 0 from rfl) (i3I (y := (1215 + 12 * a1)) (i3A (i3A (show (1210 : Int32) = i3 1210 from rfl) (i3M (show (12 : Int32) = i3 12 from rfl) (rfl : i3 a1 = i3 a1))) (show (5 : Int32) = i3 5 from rfl)) (by omega) (by omega) (by omega))) (i3W (i3A (zm_rd (Z := Z) (ν := ν) (k := 2) (show ((0 : Nat) : Int) = 0 from rfl) (show ((0 : Nat) : Int) = 0 from rfl) (i3I (y := (1212 + 12 * a1)) (i3A (i3A (show (1210 : Int32) = i3 1210 from rfl) (i3M (show (12 : Int32) = i3 12 from rfl) (rfl : i3 a1 = i3 a1))) (show (2 : Int32) = i3 2 from rfl)) (by omega) (by omega) (by omega))) (zm_rd (Z := Z) (ν := ν) (k := 2) (show ((0 : Nat) : Int) = 0 from rfl) (show ((0 : Nat) : Int) = 0 from rfl) (i3I (y := (1216 + 12 * a1)) (i3A (i3A (show (1210 : Int32) = i3 1210 from rfl) (i3M (show (12 : Int32) = i3 12 from rfl) (rfl : i3 a1 = i3 a1))) (show (6 : Int32) = i3 6 from rfl)) (by omega) (by omega) (by omega))))))) (by omega) (by omega) (by omega) (by omega)) (decide_eq_true (by omega))) ?_
            refine wz_i0 (i3O (n := 4400) (i3A (i3A (show (1210 : Int32) = i3 1210 from rfl) (i3M (show (12 : Int32) = i3 12 from rfl) (rfl : i3 a1 = i3 a1))) (show (8 : Int32) = i3 8 from rfl)) (by omega) (by omega) (by omega)) ?_
            have r286 := zM_f hZ285I 2 0 0 (1218 + 12 * a1)
            obtain ⟨Z287, hZ287⟩ := zx (zu Z285 2 0 0 (1218 + 12 * a1) ((Z285 2 0 0 (1218 + 12 * a1)) + 0))
            replace hP := zl_e hP hZ287
            have hZ287I := zM_u2 hZ285I hZ287 (lo := -2147483648) (hi := 2147483647) (zs_1210_8 (x := a1) (by omega) (by omega) (by omega)) (by omega) ⟨by decide, by decide⟩ (by simp only [zsp]; omega)
            have hZ287U : zU [] Z Z287 := zU_u hZ285U hZ287 (Or.inl rfl)
            have hZ287K : zC [2] Z Z287 := zC_u hZ285K hZ287 (zcl_2w (by omega) rfl)
            intro μ9 e9
            replace e9 := e9.trans (zm_wI (Z := Z285) (ν := ν) hZ287 (show ((0 : Nat) : Int) = 0 from rfl) (show ((0 : Nat) : Int) = 0 from rfl) (i3I (y := (1218 + 12 * a1)) (i3A (i3A (show (1210 : Int32) = i3 1210 from rfl) (i3M (show (12 : Int32) = i3 12 from rfl) (rfl : i3 a1 = i3 a1))) (show (8 : Int32) = i3 8 from rfl)) (by omega) (by omega) (by omega)) (i3A (zm_rd (Z := Z285) (ν := ν) (k := 2) (show ((0 : Nat) : Int) = 0 from rfl) (show ((0 : Nat) : Int) = 0 from rfl) (i3I (y := (1218 + 12 * a1)) (i3A (i3A (show (1210 : Int32) = i3 1210 from rfl) (i3M (show (12 : Int32) = i3 12 from rfl) (rfl : i3 a1 = i3 a1))) (show (8 : Int32) = i3 8 from rfl)) (by omega) (by omega) (by omega))) (show (0 : Int32) = i3 0 from rfl)))
            subst e9
            refine wz_i0 (i3O (n := 4400) (i3A (i3A (show (1210 : Int32) = i3 1210 from rfl) (i3M (show (12 : Int32) = i3 12 from rfl) (rfl : i3 a1 = i3 a1))) (show (6 : Int32) = i3 6 from rfl)) (by omega) (by omega) (by omega)) ?_
            obtain ⟨Z288, hZ288⟩ := zx (zu Z287 2 0 0 (1216 + 12 * a1) 0)
            replace hP := zl_e hP hZ288
            have hZ288I := zM_02 hZ287I hZ288 (by simp only [zsp]; omega)
            have hZ288U : zU [] Z Z288 := zU_u hZ287U hZ288 (Or.inl rfl)
            have hZ288K : zC [2] Z Z288 := zC_u hZ287K hZ288 (zcl_2w (by omega) rfl)
            intro μ9 e9
            replace e9 := e9.trans (zm_wI (Z := Z287) (ν := ν) hZ288 (show ((0 : Nat) : Int) = 0 from rfl) (show ((0 : Nat) : Int) = 0 from rfl) (i3I (y := (1216 + 12 * a1)) (i3A (i3A (show (1210 : Int32) = i3 1210 from rfl) (i3M (show (12 : Int32) = i3 12 from rfl) (rfl : i3 a1 = i3 a1))) (show (6 : Int32) = i3 6 from rfl)) (by omega) (by omega) (by omega)) (show (0 : Int32) = i3 0 from rfl))
            subst e9
            exact zlV hP ⟨hZ288I, hZ288K, hZ288U⟩
          · replace hP := zE_n hP h283
            refine wz_i0 (i3O (n := 4400) (i3A (i3A (show (1210 : Int32) = i3 1210 from rfl) (i3M (show (12 : Int32) = i3 12 from rfl) (rfl : i3 a1 = i3 a1))) (show (7 : Int32) = i3 7 from rfl)) (by omega) (by omega) (by omega)) ?_
            have r289 := zM_f hZ282I 2 0 0 (1217 + 12 * a1)
            have r290 := w3_r ((Z282 2 0 0 (1217 + 12 * a1)) + 1)
            obtain ⟨Z291, hZ291⟩ := zx (zu Z282 2 0 0 (1217 + 12 * a1) (w3 ((Z282 2 0 0 (1217 + 12 * a1)) + 1)))
            replace hP := zl_e hP hZ291
            have hZ291I := zM_u2 hZ282I hZ291 (lo := -2147483648) (hi := 2147483647) (zs_1210_7 (x := a1) (by omega) (by omega) (by omega)) (by omega) ⟨by decide, by decide⟩ (by simp only [zsp]; omega)
            have hZ291U : zU [] Z Z291 := zU_u hZ282U hZ291 (Or.inl rfl)
            have hZ291K : zC [2] Z Z291 := zC_u hZ282K hZ291 (zcl_2w (by omega) rfl)
            intro μ9 e9
            replace e9 := e9.trans (zm_wI (Z := Z282) (ν := ν) hZ291 (show ((0 : Nat) : Int) = 0 from rfl) (show ((0 : Nat) : Int) = 0 from rfl) (i3I (y := (1217 + 12 * a1)) (i3A (i3A (show (1210 : Int32) = i3 1210 from rfl) (i3M (show (12 : Int32) = i3 12 from rfl) (rfl : i3 a1 = i3 a1))) (show (7 : Int32) = i3 7 from rfl)) (by omega) (by omega) (by omega)) (i3W (i3A (zm_rd (Z := Z282) (ν := ν) (k := 2) (show ((0 : Nat) : Int) = 0 from rfl) (show ((0 : Nat) : Int) = 0 from rfl) (i3I (y := (1217 + 12 * a1)) (i3A (i3A (show (1210 : Int32) = i3 1210 from rfl) (i3M (show (12 : Int32) = i3 12 from rfl) (rfl : i3 a1 = i3 a1))) (show (7 : Int32) = i3 7 from rfl)) (by omega) (by omega) (by omega))) (show (1 : Int32) = i3 1 from rfl))))
            subst e9
            refine wz_i0 (i3O (n := 4400) (i3A (i3A (show (1210 : Int32) = i3 1210 from rfl) (i3M (show (12 : Int32) = i3 12 from rfl) (rfl : i3 a1 = i3 a1))) (show (8 : Int32) = i3 8 from rfl)) (by omega) (by omega) (by omega)) ?_
            refine wz_i0 (Eq.trans (i3E (i3S (i3W (i3A (zm_rd (Z := Z) (ν := ν) (k := 2) (show ((0 : Nat) : Int) = 0 from rfl) (show ((0 : Nat) : Int) = 0 from rfl) (i3I (y := (1215 + 12 * a1)) (i3A (i3A (show (1210 : Int32) = i3 1210 from rfl) (i3M (show (12 : Int32) = i3 12 from rfl) (rfl : i3 a1 = i3 a1))) (show (5 : Int32) = i3 5 from rfl)) (by omega) (by omega) (by omega))) (i3W (i3A (zm_rd (Z := Z) (ν := ν) (k := 2) (show ((0 : Nat) : Int) = 0 from rfl) (show ((0 : Nat) : Int) = 0 from rfl) (i3I (y := (1212 + 12 * a1)) (i3A (i3A (show (1210 : Int32) = i3 1210 from rfl) (i3M (show (12 : Int32) = i3 12 from rfl) (rfl : i3 a1 = i3 a1))) (show (2 : Int32) = i3 2 from rfl)) (by omega) (by omega) (by omega))) (zm_rd (Z := Z) (ν := ν) (k := 2) (show ((0 : Nat) : Int) = 0 from rfl) (show ((0 : Nat) : Int) = 0 from rfl) (i3I (y := (1216 + 12 * a1)) (i3A (i3A (show (1210 : Int32) = i3 1210 from rfl) (i3M (show (12 : Int32) = i3 12 from rfl) (rfl : i3 a1 = i3 a1))) (show (6 : Int32) = i3 6 from rfl)) (by omega) (by omega) (by omega))))))) (zm_rd (Z := Z) (ν := ν) (k := 2) (show ((0 : Nat) : Int) = 0 from rfl) (show ((0 : Nat) : Int) = 0 from rfl) (i3I (y := (1211 + 12 * a1)) (i3A (i3A (show (1210 : Int32) = i3 1210 from rfl) (i3M (show (12 : Int32) = i3 12 from rfl) (rfl : i3 a1 = i3 a1))) (show (1 : Int32) = i3 1 from rfl)) (by omega) (by omega) (by omega)))) (i3W (i3A (zm_rd (Z := Z) (ν := ν) (k := 2) (show ((0 : Nat) : Int) = 0 from rfl) (show ((0 : Nat) : Int) = 0 from rfl) (i3I (y := (1215 + 12 * a1)) (i3A (i3A (show (1210 : Int32) = i3 1210 from rfl) (i3M (show (12 : Int32) = i3 12 from rfl) (rfl : i3 a1 = i3 a1))) (show (5 : Int32) = i3 5 from rfl)) (by omega) (by omega) (by omega))) (i3W (i3A (zm_rd (Z := Z) (ν := ν) (k := 2) (show ((0 : Nat) : Int) = 0 from rfl) (show ((0 : Nat) : Int) = 0 from rfl) (i3I (y := (1212 + 12 * a1)) (i3A (i3A (show (1210 : Int32) = i3 1210 from rfl) (i3M (show (12 : Int32) = i3 12 from rfl) (rfl : i3 a1 = i3 a1))) (show (2 : Int32) = i3 2 from rfl)) (by omega) (by omega) (by omega))) (zm_rd (Z := Z) (ν := ν) (k := 2) (show ((0 : Nat) : Int) = 0 from rfl) (show ((0 : Nat) : Int) = 0 from rfl) (i3I (y := (1216 + 12 * a1)) (i3A (i3A (show (1210 : Int32) = i3 1210 from rfl) (i3M (show (12 : Int32) = i3 12 from rfl) (rfl : i3 a1 = i3 a1))) (show (6 : Int32) = i3 6 from rfl)) (by omega) (by omega) (by omega))))))) (by omega) (by omega) (by omega) (by omega)) (decide_eq_false (by omega))) ?_
            refine wz_i0 (i3O (n := 4400) (i3A (i3A (show (1210 : Int32) = i3 1210 from rfl) (i3M (show (12 : Int32) = i3 12 from rfl) (rfl : i3 a1 = i3 a1))) (show (8 : Int32) = i3 8 from rfl)) (by omega) (by omega) (by omega)) ?_
            have r292 := zM_f hZ291I 2 0 0 (1218 + 12 * a1)
            have r293 := w3_r ((Z291 2 0 0 (1218 + 12 * a1)) + 1)
            obtain ⟨Z294, hZ294⟩ := zx (zu Z291 2 0 0 (1218 + 12 * a1) (w3 ((Z291 2 0 0 (1218 + 12 * a1)) + 1)))
            replace hP := zl_e hP hZ294
            have hZ294I := zM_u2 hZ291I hZ294 (lo := -2147483648) (hi := 2147483647) (zs_1210_8 (x := a1) (by omega) (by omega) (by omega)) (by omega) ⟨by decide, by decide⟩ (by simp only [zsp]; omega)
            have hZ294U : zU [] Z Z294 := zU_u hZ291U hZ294 (Or.inl rfl)
            have hZ294K : zC [2] Z Z294 := zC_u hZ291K hZ294 (zcl_2w (by omega) rfl)
            intro μ9 e9
            replace e9 := e9.trans (zm_wI (Z := Z291) (ν := ν) hZ294 (show ((0 : Nat) : Int) = 0 from rfl) (show ((0 : Nat) : Int) = 0 from rfl) (i3I (y := (1218 + 12 * a1)) (i3A (i3A (show (1210 : Int32) = i3 1210 from rfl) (i3M (show (12 : Int32) = i3 12 from rfl) (rfl : i3 a1 = i3 a1))) (show (8 : Int32) = i3 8 from rfl)) (by omega) (by omega) (by omega)) (i3W (i3A (zm_rd (Z := Z291) (ν := ν) (k := 2) (show ((0 : Nat) : Int) = 0 from rfl) (show ((0 : Nat) : Int) = 0 from rfl) (i3I (y := (1218 + 12 * a1)) (i3A (i3A (show (1210 : Int32) = i3 1210 from rfl) (i3M (show (12 : Int32) = i3 12 from rfl) (rfl : i3 a1 = i3 a1))) (show (8 : Int32) = i3 8 from rfl)) (by omega) (by omega) (by omega))) (show (1 : Int32) = i3 1 from rfl))))
            subst e9
            refine wz_i0 (i3O (n := 4400) (i3A (i3A (show (1210 : Int32) = i3 1210 from rfl) (i3M (show (12 : Int32) = i3 12 from rfl) (rfl : i3 a1 = i3 a1))) (show (6 : Int32) = i3 6 from rfl)) (by omega) (by omega) (by omega)) ?_
            obtain ⟨Z295, hZ295⟩ := zx (zu Z294 2 0 0 (1216 + 12 * a1) 0)
            replace hP := zl_e hP hZ295
            have hZ295I := zM_02 hZ294I hZ295 (by simp only [zsp]; omega)
            have hZ295U : zU [] Z Z295 := zU_u hZ294U hZ295 (Or.inl rfl)
            have hZ295K : zC [2] Z Z295 := zC_u hZ294K hZ295 (zcl_2w (by omega) rfl)
            intro μ9 e9
            replace e9 := e9.trans (zm_wI (Z := Z294) (ν := ν) hZ295 (show ((0 : Nat) : Int) = 0 from rfl) (show ((0 : Nat) : Int) = 0 from rfl) (i3I (y := (1216 + 12 * a1)) (i3A (i3A (show (1210 : Int32) = i3 1210 from rfl) (i3M (show (12 : Int32) = i3 12 from rfl) (rfl : i3 a1 = i3 a1))) (show (6 : Int32) = i3 6 from rfl)) (by omega) (by omega) (by omega)) (show (0 : Int32) = i3 0 from rfl))
            subst e9
            exact zlV hP ⟨hZ295I, hZ295K, hZ295U⟩
      · replace hP := zE_n hP h256
        have r296 := zM_k hZ 2 0 0 (1211 + 12 * a1) (lo := 0) (hi := 9) (by decide) (zs_1210_1 (x := a1) (by omega) (by omega) (by omega))
        refine wz_br (i3Le (zm_rd (Z := Z) (ν := ν) (k := 2) (show ((0 : Nat) : Int) = 0 from rfl) (show ((0 : Nat) : Int) = 0 from rfl) (i3I (y := (1213 + 12 * a1)) (i3A (i3A (show (1210 : Int32) = i3 1210 from rfl) (i3M (show (12 : Int32) = i3 12 from rfl) (rfl : i3 a1 = i3 a1))) (show (3 : Int32) = i3 3 from rfl)) (by omega) (by omega) (by omega))) (i3A (i3W (i3A (zm_rd (Z := Z) (ν := ν) (k := 2) (show ((0 : Nat) : Int) = 0 from rfl) (show ((0 : Nat) : Int) = 0 from rfl) (i3I (y := (1215 + 12 * a1)) (i3A (i3A (show (1210 : Int32) = i3 1210 from rfl) (i3M (show (12 : Int32) = i3 12 from rfl) (rfl : i3 a1 = i3 a1))) (show (5 : Int32) = i3 5 from rfl)) (by omega) (by omega) (by omega))) (i3W (i3A (zm_rd (Z := Z) (ν := ν) (k := 2) (show ((0 : Nat) : Int) = 0 from rfl) (show ((0 : Nat) : Int) = 0 from rfl) (i3I (y := (1212 + 12 * a1)) (i3A (i3A (show (1210 : Int32) = i3 1210 from rfl) (i3M (show (12 : Int32) = i3 12 from rfl) (rfl : i3 a1 = i3 a1))) (show (2 : Int32) = i3 2 from rfl)) (by omega) (by omega) (by omega))) (zm_rd (Z := Z) (ν := ν) (k := 2) (show ((0 : Nat) : Int) = 0 from rfl) (show ((0 : Nat) : Int) = 0 from rfl) (i3I (y := (1216 + 12 * a1)) (i3A (i3A (show (1210 : Int32) = i3 1210 from rfl) (i3M (show (12 : Int32) = i3 12 from rfl) (rfl : i3 a1 = i3 a1))) (show (6 : Int32) = i3 6 from rfl)) (by omega) (by omega) (by omega))))))) (zm_rd (Z := Z) (ν := ν) (k := 2) (show ((0 : Nat) : Int) = 0 from rfl) (show ((0 : Nat) : Int) = 0 from rfl) (i3I (y := (1211 + 12 * a1)) (i3A (i3A (show (1210 : Int32) = i3 1210 from rfl) (i3M (show (12 : Int32) = i3 12 from rfl) (rfl : i3 a1 = i3 a1))) (show (1 : Int32) = i3 1 from rfl)) (by omega) (by omega) (by omega)))) (by omega) (by omega) (by omega) (by omega)) (fun h297 => ?_) (fun h297 => ?_)
        · replace hP := zE_p hP h297
          refine wz_i0 (i3O (n := 4400) (i3A (i3A (show (1210 : Int32) = i3 1210 from rfl) (i3M (show (12 : Int32) = i3 12 from rfl) (rfl : i3 a1 = i3 a1))) (show (5 : Int32) = i3 5 from rfl)) (by omega) (by omega) (by omega)) ?_
          obtain ⟨Z298, hZ298⟩ := zx (zu Z 2 0 0 (1215 + 12 * a1) (Z 2 0 0 (1213 + 12 * a1)))
          replace hP := zl_e hP hZ298
          have hZ298I := zM_u2 hZ hZ298 (lo := 0) (hi := 40) (zs_1210_5 (x := a1) (by omega) (by omega) (by omega)) (by omega) ⟨by decide, by decide⟩ (by simp only [zsp]; omega)
          have hZ298U : zU [] Z Z298 := zU_u zU_r hZ298 (Or.inl rfl)
          have hZ298K : zC [2] Z Z298 := zC_u zC_r hZ298 (zcl_2w (by omega) rfl)
          intro μ9 e9
          replace e9 := e9.trans (zm_wI (Z := Z) (ν := ν) hZ298 (show ((0 : Nat) : Int) = 0 from rfl) (show ((0 : Nat) : Int) = 0 from rfl) (i3I (y := (1215 + 12 * a1)) (i3A (i3A (show (1210 : Int32) = i3 1210 from rfl) (i3M (show (12 : Int32) = i3 12 from rfl) (rfl : i3 a1 = i3 a1))) (show (5 : Int32) = i3 5 from rfl)) (by omega) (by omega) (by omega)) (zm_rd (Z := Z) (ν := ν) (k := 2) (show ((0 : Nat) : Int) = 0 from rfl) (show ((0 : Nat) : Int) = 0 from rfl) (i3I (y := (1213 + 12 * a1)) (i3A (i3A (show (1210 : Int32) = i3 1210 from rfl) (i3M (show (12 : Int32) = i3 12 from rfl) (rfl : i3 a1 = i3 a1))) (show (3 : Int32) = i3 3 from rfl)) (by omega) (by omega) (by omega))))
          subst e9
          refine wz_i0 (i3O (n := 4400) (i3A (i3A (show (1210 : Int32) = i3 1210 from rfl) (i3M (show (12 : Int32) = i3 12 from rfl) (rfl : i3 a1 = i3 a1))) (show (7 : Int32) = i3 7 from rfl)) (by omega) (by omega) (by omega)) ?_
          refine wz_br (i3E (zm_rd (Z := Z) (ν := ν) (k := 2) (show ((0 : Nat) : Int) = 0 from rfl) (show ((0 : Nat) : Int) = 0 from rfl) (i3I (y := (1213 + 12 * a1)) (i3A (i3A (show (1210 : Int32) = i3 1210 from rfl) (i3M (show (12 : Int32) = i3 12 from rfl) (rfl : i3 a1 = i3 a1))) (show (3 : Int32) = i3 3 from rfl)) (by omega) (by omega) (by omega))) (i3W (i3A (zm_rd (Z := Z) (ν := ν) (k := 2) (show ((0 : Nat) : Int) = 0 from rfl) (show ((0 : Nat) : Int) = 0 from rfl) (i3I (y := (1215 + 12 * a1)) (i3A (i3A (show (1210 : Int32) = i3 1210 from rfl) (i3M (show (12 : Int32) = i3 12 from rfl) (rfl : i3 a1 = i3 a1))) (show (5 : Int32) = i3 5 from rfl)) (by omega) (by omega) (by omega))) (i3W (i3A (zm_rd (Z := Z) (ν := ν) (k := 2) (show ((0 : Nat) : Int) = 0 from rfl) (show ((0 : Nat) : Int) = 0 from rfl) (i3I (y := (1212 + 12 * a1)) (i3A (i3A (show (1210 : Int32) = i3 1210 from rfl) (i3M (show (12 : Int32) = i3 12 from rfl) (rfl : i3 a1 = i3 a1))) (show (2 : Int32) = i3 2 from rfl)) (by omega) (by omega) (by omega))) (zm_rd (Z := Z) (ν := ν) (k := 2) (show ((0 : Nat) : Int) = 0 from rfl) (show ((0 : Nat) : Int) = 0 from rfl) (i3I (y := (1216 + 12 * a1)) (i3A (i3A (show (1210 : Int32) = i3 1210 from rfl) (i3M (show (12 : Int32) = i3 12 from rfl) (rfl : i3 a1 = i3 a1))) (show (6 : Int32) = i3 6 from rfl)) (by omega) (by omega) (by omega))))))) (by omega) (by omega) (by omega) (by omega)) (fun h299 => ?_) (fun h299 => ?_)
          · replace hP := zE_p hP h299
            refine wz_i0 (i3O (n := 4400) (i3A (i3A (show (1210 : Int32) = i3 1210 from rfl) (i3M (show (12 : Int32) = i3 12 from rfl) (rfl : i3 a1 = i3 a1))) (show (7 : Int32) = i3 7 from rfl)) (by omega) (by omega) (by omega)) ?_
            have r300 := zM_f hZ298I 2 0 0 (1217 + 12 * a1)
            obtain ⟨Z301, hZ301⟩ := zx (zu Z298 2 0 0 (1217 + 12 * a1) ((Z298 2 0 0 (1217 + 12 * a1)) + 0))
            replace hP := zl_e hP hZ301
            have hZ301I := zM_u2 hZ298I hZ301 (lo := -2147483648) (hi := 2147483647) (zs_1210_7 (x := a1) (by omega) (by omega) (by omega)) (by omega) ⟨by decide, by decide⟩ (by simp only [zsp]; omega)
            have hZ301U : zU [] Z Z301 := zU_u hZ298U hZ301 (Or.inl rfl)
            have hZ301K : zC [2] Z Z301 := zC_u hZ298K hZ301 (zcl_2w (by omega) rfl)
            intro μ9 e9
            replace e9 := e9.trans (zm_wI (Z := Z298) (ν := ν) hZ301 (show ((0 : Nat) : Int) = 0 from rfl) (show ((0 : Nat) : Int) = 0 from rfl) (i3I (y := (1217 + 12 * a1)) (i3A (i3A (show (1210 : Int32) = i3 1210 from rfl) (i3M (show (12 : Int32) = i3 12 from rfl) (rfl : i3 a1 = i3 a1))) (show (7 : Int32) = i3 7 from rfl)) (by omega) (by omega) (by omega)) (i3A (zm_rd (Z := Z298) (ν := ν) (k := 2) (show ((0 : Nat) : Int) = 0 from rfl) (show ((0 : Nat) : Int) = 0 from rfl) (i3I (y := (1217 + 12 * a1)) (i3A (i3A (show (1210 : Int32) = i3 1210 from rfl) (i3M (show (12 : Int32) = i3 12 from rfl) (rfl : i3 a1 = i3 a1))) (show (7 : Int32) = i3 7 from rfl)) (by omega) (by omega) (by omega))) (show (0 : Int32) = i3 0 from rfl)))
            subst e9
            refine wz_i0 (i3O (n := 4400) (i3A (i3A (show (1210 : Int32) = i3 1210 from rfl) (i3M (show (12 : Int32) = i3 12 from rfl) (rfl : i3 a1 = i3 a1))) (show (8 : Int32) = i3 8 from rfl)) (by omega) (by omega) (by omega)) ?_
            refine wz_br (i3E (zm_rd (Z := Z) (ν := ν) (k := 2) (show ((0 : Nat) : Int) = 0 from rfl) (show ((0 : Nat) : Int) = 0 from rfl) (i3I (y := (1213 + 12 * a1)) (i3A (i3A (show (1210 : Int32) = i3 1210 from rfl) (i3M (show (12 : Int32) = i3 12 from rfl) (rfl : i3 a1 = i3 a1))) (show (3 : Int32) = i3 3 from rfl)) (by omega) (by omega) (by omega))) (i3W (i3A (zm_rd (Z := Z) (ν := ν) (k := 2) (show ((0 : Nat) : Int) = 0 from rfl) (show ((0 : Nat) : Int) = 0 from rfl) (i3I (y := (1215 + 12 * a1)) (i3A (i3A (show (1210 : Int32) = i3 1210 from rfl) (i3M (show (12 : Int32) = i3 12 from rfl) (rfl : i3 a1 = i3 a1))) (show (5 : Int32) = i3 5 from rfl)) (by omega) (by omega) (by omega))) (i3W (i3A (zm_rd (Z := Z) (ν := ν) (k := 2) (show ((0 : Nat) : Int) = 0 from rfl) (show ((0 : Nat) : Int) = 0 from rfl) (i3I (y := (1212 + 12 * a1)) (i3A (i3A (show (1210 : Int32) = i3 1210 from rfl) (i3M (show (12 : Int32) = i3 12 from rfl) (rfl : i3 a1 = i3 a1))) (show (2 : Int32) = i3 2 from rfl)) (by omega) (by omega) (by omega))) (zm_rd (Z := Z) (ν := ν) (k := 2) (show ((0 : Nat) : Int) = 0 from rfl) (show ((0 : Nat) : Int) = 0 from rfl) (i3I (y := (1216 + 12 * a1)) (i3A (i3A (show (1210 : Int32) = i3 1210 from rfl) (i3M (show (12 : Int32) = i3 12 from rfl) (rfl : i3 a1 = i3 a1))) (show (6 : Int32) = i3 6 from rfl)) (by omega) (by omega) (by omega))))))) (by omega) (by omega) (by omega) (by omega)) (fun h302 => ?_) (fun h302 => ?_)
            · replace hP := zE_p hP h302
              refine wz_i0 (i3O (n := 4400) (i3A (i3A (show (1210 : Int32) = i3 1210 from rfl) (i3M (show (12 : Int32) = i3 12 from rfl) (rfl : i3 a1 = i3 a1))) (show (8 : Int32) = i3 8 from rfl)) (by omega) (by omega) (by omega)) ?_
              have r303 := zM_f hZ301I 2 0 0 (1218 + 12 * a1)
              obtain ⟨Z304, hZ304⟩ := zx (zu Z301 2 0 0 (1218 + 12 * a1) ((Z301 2 0 0 (1218 + 12 * a1)) + 0))
              replace hP := zl_e hP hZ304
              have hZ304I := zM_u2 hZ301I hZ304 (lo := -2147483648) (hi := 2147483647) (zs_1210_8 (x := a1) (by omega) (by omega) (by omega)) (by omega) ⟨by decide, by decide⟩ (by simp only [zsp]; omega)
              have hZ304U : zU [] Z Z304 := zU_u hZ301U hZ304 (Or.inl rfl)
              have hZ304K : zC [2] Z Z304 := zC_u hZ301K hZ304 (zcl_2w (by omega) rfl)
              intro μ9 e9
              replace e9 := e9.trans (zm_wI (Z := Z301) (ν := ν) hZ304 (show ((0 : Nat) : Int) = 0 from rfl) (show ((0 : Nat) : Int) = 0 from rfl) (i3I (y := (1218 + 12 * a1)) (i3A (i3A (show (1210 : Int32) = i3 1210 from rfl) (i3M (show (12 : Int32) = i3 12 from rfl) (rfl : i3 a1 = i3 a1))) (show (8 : Int32) = i3 8 from rfl)) (by omega) (by omega) (by omega)) (i3A (zm_rd (Z := Z301) (ν := ν) (k := 2) (show ((0 : Nat) : Int) = 0 from rfl) (show ((0 : Nat) : Int) = 0 from rfl) (i3I (y := (1218 + 12 * a1)) (i3A (i3A (show (1210 : Int32) = i3 1210 from rfl) (i3M (show (12 : Int32) = i3 12 from rfl) (rfl : i3 a1 = i3 a1))) (show (8 : Int32) = i3 8 from rfl)) (by omega) (by omega) (by omega))) (show (0 : Int32) = i3 0 from rfl)))
              subst e9
              refine wz_i0 (i3O (n := 4400) (i3A (i3A (show (1210 : Int32) = i3 1210 from rfl) (i3M (show (12 : Int32) = i3 12 from rfl) (rfl : i3 a1 = i3 a1))) (show (6 : Int32) = i3 6 from rfl)) (by omega) (by omega) (by omega)) ?_
              obtain ⟨Z305, hZ305⟩ := zx (zu Z304 2 0 0 (1216 + 12 * a1) 0)
              replace hP := zl_e hP hZ305
              have hZ305I := zM_02 hZ304I hZ305 (by simp only [zsp]; omega)
              have hZ305U : zU [] Z Z305 := zU_u hZ304U hZ305 (Or.inl rfl)
              have hZ305K : zC [2] Z Z305 := zC_u hZ304K hZ305 (zcl_2w (by omega) rfl)
              intro μ9 e9
              replace e9 := e9.trans (zm_wI (Z := Z304) (ν := ν) hZ305 (show ((0 : Nat) : Int) = 0 from rfl) (show ((0 : Nat) : Int) = 0 from rfl) (i3I (y := (1216 + 12 * a1)) (i3A (i3A (show (1210 : Int32) = i3 1210 from rfl) (i3M (show (12 : Int32) = i3 12 from rfl) (rfl : i3 a1 = i3 a1))) (show (6 : Int32) = i3 6 from rfl)) (by omega) (by omega) (by omega)) (show (0 : Int32) = i3 0 from rfl))
              subst e9
              exact zlV hP ⟨hZ305I, hZ305K, hZ305U⟩
            · replace hP := zE_n hP h302
              refine wz_i0 (i3O (n := 4400) (i3A (i3A (show (1210 : Int32) = i3 1210 from rfl) (i3M (show (12 : Int32) = i3 12 from rfl) (rfl : i3 a1 = i3 a1))) (show (8 : Int32) = i3 8 from rfl)) (by omega) (by omega) (by omega)) ?_
              have r306 := zM_f hZ301I 2 0 0 (1218 + 12 * a1)
              have r307 := w3_r ((Z301 2 0 0 (1218 + 12 * a1)) + 1)
              obtain ⟨Z308, hZ308⟩ := zx (zu Z301 2 0 0 (1218 + 12 * a1) (w3 ((Z301 2 0 0 (1218 + 12 * a1)) + 1)))
              replace hP := zl_e hP hZ308
              have hZ308I := zM_u2 hZ301I hZ308 (lo := -2147483648) (hi := 2147483647) (zs_1210_8 (x := a1) (by omega) (by omega) (by omega)) (by omega) ⟨by decide, by decide⟩ (by simp only [zsp]; omega)
              have hZ308U : zU [] Z Z308 := zU_u hZ301U hZ308 (Or.inl rfl)
              have hZ308K : zC [2] Z Z308 := zC_u hZ301K hZ308 (zcl_2w (by omega) rfl)
              intro μ9 e9
              replace e9 := e9.trans (zm_wI (Z := Z301) (ν := ν) hZ308 (show ((0 : Nat) : Int) = 0 from rfl) (show ((0 : Nat) : Int) = 0 from rfl) (i3I (y := (1218 + 12 * a1)) (i3A (i3A (show (1210 : Int32) = i3 1210 from rfl) (i3M (show (12 : Int32) = i3 12 from rfl) (rfl : i3 a1 = i3 a1))) (show (8 : Int32) = i3 8 from rfl)) (by omega) (by omega) (by omega)) (i3W (i3A (zm_rd (Z := Z301) (ν := ν) (k := 2) (show ((0 : Nat) : Int) = 0 from rfl) (show ((0 : Nat) : Int) = 0 from rfl) (i3I (y := (1218 + 12 * a1)) (i3A (i3A (show (1210 : Int32) = i3 1210 from rfl) (i3M (show (12 : Int32) = i3 12 from rfl) (rfl : i3 a1 = i3 a1))) (show (8 : Int32) = i3 8 from rfl)) (by omega) (by omega) (by omega))) (show (1 : Int32) = i3 1 from rfl))))
              subst e9
              refine wz_i0 (i3O (n := 4400) (i3A (i3A (show (1210 : Int32) = i3 1210 from rfl) (i3M (show (12 : Int32) = i3 12 from rfl) (rfl : i3 a1 = i3 a1))) (show (6 : Int32) = i3 6 from rfl)) (by omega) (by omega) (by omega)) ?_
              obtain ⟨Z309, hZ309⟩ := zx (zu Z308 2 0 0 (1216 + 12 * a1) 0)
              replace hP := zl_e hP hZ309
              have hZ309I := zM_02 hZ308I hZ309 (by simp only [zsp]; omega)
              have hZ309U : zU [] Z Z309 := zU_u hZ308U hZ309 (Or.inl rfl)
              have hZ309K : zC [2] Z Z309 := zC_u hZ308K hZ309 (zcl_2w (by omega) rfl)
              intro μ9 e9
              replace e9 := e9.trans (zm_wI (Z := Z308) (ν := ν) hZ309 (show ((0 : Nat) : Int) = 0 from rfl) (show ((0 : Nat) : Int) = 0 from rfl) (i3I (y := (1216 + 12 * a1)) (i3A (i3A (show (1210 : Int32) = i3 1210 from rfl) (i3M (show (12 : Int32) = i3 12 from rfl) (rfl : i3 a1 = i3 a1))) (show (6 : Int32) = i3 6 from rfl)) (by omega) (by omega) (by omega)) (show (0 : Int32) = i3 0 from rfl))
              subst e9
              exact zlV hP ⟨hZ309I, hZ309K, hZ309U⟩
          · replace hP := zE_n hP h299
            refine wz_i0 (i3O (n := 4400) (i3A (i3A (show (1210 : Int32) = i3 1210 from rfl) (i3M (show (12 : Int32) = i3 12 from rfl) (rfl : i3 a1 = i3 a1))) (show (7 : Int32) = i3 7 from rfl)) (by omega) (by omega) (by omega)) ?_
            have r310 := zM_f hZ298I 2 0 0 (1217 + 12 * a1)
            have r311 := w3_r ((Z298 2 0 0 (1217 + 12 * a1)) + 1)
            obtain ⟨Z312, hZ312⟩ := zx (zu Z298 2 0 0 (1217 + 12 * a1) (w3 ((Z298 2 0 0 (1217 + 12 * a1)) + 1)))
            replace hP := zl_e hP hZ312
            have hZ312I := zM_u2 hZ298I hZ312 (lo := -2147483648) (hi := 2147483647) (zs_1210_7 (x := a1) (by omega) (by omega) (by omega)) (by omega) ⟨by decide, by decide⟩ (by simp only [zsp]; omega)
            have hZ312U : zU [] Z Z312 := zU_u hZ298U hZ312 (Or.inl rfl)
            have hZ312K : zC [2] Z Z312 := zC_u hZ298K hZ312 (zcl_2w (by omega) rfl)
            intro μ9 e9
            replace e9 := e9.trans (zm_wI (Z := Z298) (ν := ν) hZ312 (show ((0 : Nat) : Int) = 0 from rfl) (show ((0 : Nat) : Int) = 0 from rfl) (i3I (y := (1217 + 12 * a1)) (i3A (i3A (show (1210 : Int32) = i3 1210 from rfl) (i3M (show (12 : Int32) = i3 12 from rfl) (rfl : i3 a1 = i3 a1))) (show (7 : Int32) = i3 7 from rfl)) (by omega) (by omega) (by omega)) (i3W (i3A (zm_rd (Z := Z298) (ν := ν) (k := 2) (show ((0 : Nat) : Int) = 0 from rfl) (show ((0 : Nat) : Int) = 0 from rfl) (i3I (y := (1217 + 12 * a1)) (i3A (i3A (show (1210 : Int32) = i3 1210 from rfl) (i3M (show (12 : Int32) = i3 12 from rfl) (rfl : i3 a1 = i3 a1))) (show (7 : Int32) = i3 7 from rfl)) (by omega) (by omega) (by omega))) (show (1 : Int32) = i3 1 from rfl))))
            subst e9
            refine wz_i0 (i3O (n := 4400) (i3A (i3A (show (1210 : Int32) = i3 1210 from rfl) (i3M (show (12 : Int32) = i3 12 from rfl) (rfl : i3 a1 = i3 a1))) (show (8 : Int32) = i3 8 from rfl)) (by omega) (by omega) (by omega)) ?_
            refine wz_br (i3E (zm_rd (Z := Z) (ν := ν) (k := 2) (show ((0 : Nat) : Int) = 0 from rfl) (show ((0 : Nat) : Int) = 0 from rfl) (i3I (y := (1213 + 12 * a1)) (i3A (i3A (show (1210 : Int32) = i3 1210 from rfl) (i3M (show (12 : Int32) = i3 12 from rfl) (rfl : i3 a1 = i3 a1))) (show (3 : Int32) = i3 3 from rfl)) (by omega) (by omega) (by omega))) (i3W (i3A (zm_rd (Z := Z) (ν := ν) (k := 2) (show ((0 : Nat) : Int) = 0 from rfl) (show ((0 : Nat) : Int) = 0 from rfl) (i3I (y := (1215 + 12 * a1)) (i3A (i3A (show (1210 : Int32) = i3 1210 from rfl) (i3M (show (12 : Int32) = i3 12 from rfl) (rfl : i3 a1 = i3 a1))) (show (5 : Int32) = i3 5 from rfl)) (by omega) (by omega) (by omega))) (i3W (i3A (zm_rd (Z := Z) (ν := ν) (k := 2) (show ((0 : Nat) : Int) = 0 from rfl) (show ((0 : Nat) : Int) = 0 from rfl) (i3I (y := (1212 + 12 * a1)) (i3A (i3A (show (1210 : Int32) = i3 1210 from rfl) (i3M (show (12 : Int32) = i3 12 from rfl) (rfl : i3 a1 = i3 a1))) (show (2 : Int32) = i3 2 from rfl)) (by omega) (by omega) (by omega))) (zm_rd (Z := Z) (ν := ν) (k := 2) (show ((0 : Nat) : Int) = 0 from rfl) (show ((0 : Nat) : Int) = 0 from rfl) (i3I (y := (1216 + 12 * a1)) (i3A (i3A (show (1210 : Int32) = i3 1210 from rfl) (i3M (show (12 : Int32) = i3 12 from rfl) (rfl : i3 a1 = i3 a1))) (show (6 : Int32) = i3 6 from rfl)) (by omega) (by omega) (by omega))))))) (by omega) (by omega) (by omega) (by omega)) (fun h313 => ?_) (fun h313 => ?_)
            · replace hP := zE_p hP h313
              refine wz_i0 (i3O (n := 4400) (i3A (i3A (show (1210 : Int32) = i3 1210 from rfl) (i3M (show (12 : Int32) = i3 12 from rfl) (rfl : i3 a1 = i3 a1))) (show (8 : Int32) = i3 8 from rfl)) (by omega) (by omega) (by omega)) ?_
              have r314 := zM_f hZ312I 2 0 0 (1218 + 12 * a1)
              obtain ⟨Z315, hZ315⟩ := zx (zu Z312 2 0 0 (1218 + 12 * a1) ((Z312 2 0 0 (1218 + 12 * a1)) + 0))
              replace hP := zl_e hP hZ315
              have hZ315I := zM_u2 hZ312I hZ315 (lo := -2147483648) (hi := 2147483647) (zs_1210_8 (x := a1) (by omega) (by omega) (by omega)) (by omega) ⟨by decide, by decide⟩ (by simp only [zsp]; omega)
              have hZ315U : zU [] Z Z315 := zU_u hZ312U hZ315 (Or.inl rfl)
              have hZ315K : zC [2] Z Z315 := zC_u hZ312K hZ315 (zcl_2w (by omega) rfl)
              intro μ9 e9
              replace e9 := e9.trans (zm_wI (Z := Z312) (ν := ν) hZ315 (show ((0 : Nat) : Int) = 0 from rfl) (show ((0 : Nat) : Int) = 0 from rfl) (i3I (y := (1218 + 12 * a1)) (i3A (i3A (show (1210 : Int32) = i3 1210 from rfl) (i3M (show (12 : Int32) = i3 12 from rfl) (rfl : i3 a1 = i3 a1))) (show (8 : Int32) = i3 8 from rfl)) (by omega) (by omega) (by omega)) (i3A (zm_rd (Z := Z312) (ν := ν) (k := 2) (show ((0 : Nat) : Int) = 0 from rfl) (show ((0 : Nat) : Int) = 0 from rfl) (i3I (y := (1218 + 12 * a1)) (i3A (i3A (show (1210 : Int32) = i3 1210 from rfl) (i3M (show (12 : Int32) = i3 12 from rfl) (rfl : i3 a1 = i3 a1))) (show (8 : Int32) = i3 8 from rfl)) (by omega) (by omega) (by omega))) (show (0 : Int32) = i3 0 from rfl)))
              subst e9
              refine wz_i0 (i3O (n := 4400) (i3A (i3A (show (1210 : Int32) = i3 1210 from rfl) (i3M (show (12 : Int32) = i3 12 from rfl) (rfl : i3 a1 = i3 a1))) (show (6 : Int32) = i3 6 from rfl)) (by omega) (by omega) (by omega)) ?_
              obtain ⟨Z316, hZ316⟩ := zx (zu Z315 2 0 0 (1216 + 12 * a1) 0)
              replace hP := zl_e hP hZ316
              have hZ316I := zM_02 hZ315I hZ316 (by simp only [zsp]; omega)
              have hZ316U : zU [] Z Z316 := zU_u hZ315U hZ316 (Or.inl rfl)
              have hZ316K : zC [2] Z Z316 := zC_u hZ315K hZ316 (zcl_2w (by omega) rfl)
              intro μ9 e9
              replace e9 := e9.trans (zm_wI (Z := Z315) (ν := ν) hZ316 (show ((0 : Nat) : Int) = 0 from rfl) (show ((0 : Nat) : Int) = 0 from rfl) (i3I (y := (1216 + 12 * a1)) (i3A (i3A (show (1210 : Int32) = i3 1210 from rfl) (i3M (show (12 : Int32) = i3 12 from rfl) (rfl : i3 a1 = i3 a1))) (show (6 : Int32) = i3 6 from rfl)) (by omega) (by omega) (by omega)) (show (0 : Int32) = i3 0 from rfl))
              subst e9
              exact zlV hP ⟨hZ316I, hZ316K, hZ316U⟩
            · replace hP := zE_n hP h313
              refine wz_i0 (i3O (n := 4400) (i3A (i3A (show (1210 : Int32) = i3 1210 from rfl) (i3M (show (12 : Int32) = i3 12 from rfl) (rfl : i3 a1 = i3 a1))) (show (8 : Int32) = i3 8 from rfl)) (by omega) (by omega) (by omega)) ?_
              have r317 := zM_f hZ312I 2 0 0 (1218 + 12 * a1)
              have r318 := w3_r ((Z312 2 0 0 (1218 + 12 * a1)) + 1)
              obtain ⟨Z319, hZ319⟩ := zx (zu Z312 2 0 0 (1218 + 12 * a1) (w3 ((Z312 2 0 0 (1218 + 12 * a1)) + 1)))
              replace hP := zl_e hP hZ319
              have hZ319I := zM_u2 hZ312I hZ319 (lo := -2147483648) (hi := 2147483647) (zs_1210_8 (x := a1) (by omega) (by omega) (by omega)) (by omega) ⟨by decide, by decide⟩ (by simp only [zsp]; omega)
              have hZ319U : zU [] Z Z319 := zU_u hZ312U hZ319 (Or.inl rfl)
              have hZ319K : zC [2] Z Z319 := zC_u hZ312K hZ319 (zcl_2w (by omega) rfl)
              intro μ9 e9
              replace e9 := e9.trans (zm_wI (Z := Z312) (ν := ν) hZ319 (show ((0 : Nat) : Int) = 0 from rfl) (show ((0 : Nat) : Int) = 0 from rfl) (i3I (y := (1218 + 12 * a1)) (i3A (i3A (show (1210 : Int32) = i3 1210 from rfl) (i3M (show (12 : Int32) = i3 12 from rfl) (rfl : i3 a1 = i3 a1))) (show (8 : Int32) = i3 8 from rfl)) (by omega) (by omega) (by omega)) (i3W (i3A (zm_rd (Z := Z312) (ν := ν) (k := 2) (show ((0 : Nat) : Int) = 0 from rfl) (show ((0 : Nat) : Int) = 0 from rfl) (i3I (y := (1218 + 12 * a1)) (i3A (i3A (show (1210 : Int32) = i3 1210 from rfl) (i3M (show (12 : Int32) = i3 12 from rfl) (rfl : i3 a1 = i3 a1))) (show (8 : Int32) = i3 8 from rfl)) (by omega) (by omega) (by omega))) (show (1 : Int32) = i3 1 from rfl))))
              subst e9
              refine wz_i0 (i3O (n := 4400) (i3A (i3A (show (1210 : Int32) = i3 1210 from rfl) (i3M (show (12 : Int32) = i3 12 from rfl) (rfl : i3 a1 = i3 a1))) (show (6 : Int32) = i3 6 from rfl)) (by omega) (by omega) (by omega)) ?_
              obtain ⟨Z320, hZ320⟩ := zx (zu Z319 2 0 0 (1216 + 12 * a1) 0)
              replace hP := zl_e hP hZ320
              have hZ320I := zM_02 hZ319I hZ320 (by simp only [zsp]; omega)
              have hZ320U : zU [] Z Z320 := zU_u hZ319U hZ320 (Or.inl rfl)
              have hZ320K : zC [2] Z Z320 := zC_u hZ319K hZ320 (zcl_2w (by omega) rfl)
              intro μ9 e9
              replace e9 := e9.trans (zm_wI (Z := Z319) (ν := ν) hZ320 (show ((0 : Nat) : Int) = 0 from rfl) (show ((0 : Nat) : Int) = 0 from rfl) (i3I (y := (1216 + 12 * a1)) (i3A (i3A (show (1210 : Int32) = i3 1210 from rfl) (i3M (show (12 : Int32) = i3 12 from rfl) (rfl : i3 a1 = i3 a1))) (show (6 : Int32) = i3 6 from rfl)) (by omega) (by omega) (by omega)) (show (0 : Int32) = i3 0 from rfl))
              subst e9
              exact zlV hP ⟨hZ320I, hZ320K, hZ320U⟩
        · replace hP := zE_n hP h297
          refine wz_i0 (i3O (n := 4400) (i3A (i3A (show (1210 : Int32) = i3 1210 from rfl) (i3M (show (12 : Int32) = i3 12 from rfl) (rfl : i3 a1 = i3 a1))) (show (5 : Int32) = i3 5 from rfl)) (by omega) (by omega) (by omega)) ?_
          obtain ⟨Z321, hZ321⟩ := zx (zu Z 2 0 0 (1215 + 12 * a1) ((w3 ((Z 2 0 0 (1215 + 12 * a1)) + (w3 ((Z 2 0 0 (1212 + 12 * a1)) + (Z 2 0 0 (1216 + 12 * a1)))))) + (Z 2 0 0 (1211 + 12 * a1))))
          replace hP := zl_e hP hZ321
          have hZ321I := zM_u2 hZ hZ321 (lo := 0) (hi := 40) (zs_1210_5 (x := a1) (by omega) (by omega) (by omega)) (by omega) ⟨by decide, by decide⟩ (by simp only [zsp]; omega)
          have hZ321U : zU [] Z Z321 := zU_u zU_r hZ321 (Or.inl rfl)
          have hZ321K : zC [2] Z Z321 := zC_u zC_r hZ321 (zcl_2w (by omega) rfl)
          intro μ9 e9
          replace e9 := e9.trans (zm_wI (Z := Z) (ν := ν) hZ321 (show ((0 : Nat) : Int) = 0 from rfl) (show ((0 : Nat) : Int) = 0 from rfl) (i3I (y := (1215 + 12 * a1)) (i3A (i3A (show (1210 : Int32) = i3 1210 from rfl) (i3M (show (12 : Int32) = i3 12 from rfl) (rfl : i3 a1 = i3 a1))) (show (5 : Int32) = i3 5 from rfl)) (by omega) (by omega) (by omega)) (i3A (i3W (i3A (zm_rd (Z := Z) (ν := ν) (k := 2) (show ((0 : Nat) : Int) = 0 from rfl) (show ((0 : Nat) : Int) = 0 from rfl) (i3I (y := (1215 + 12 * a1)) (i3A (i3A (show (1210 : Int32) = i3 1210 from rfl) (i3M (show (12 : Int32) = i3 12 from rfl) (rfl : i3 a1 = i3 a1))) (show (5 : Int32) = i3 5 from rfl)) (by omega) (by omega) (by omega))) (i3W (i3A (zm_rd (Z := Z) (ν := ν) (k := 2) (show ((0 : Nat) : Int) = 0 from rfl) (show ((0 : Nat) : Int) = 0 from rfl) (i3I (y := (1212 + 12 * a1)) (i3A (i3A (show (1210 : Int32) = i3 1210 from rfl) (i3M (show (12 : Int32) = i3 12 from rfl) (rfl : i3 a1 = i3 a1))) (show (2 : Int32) = i3 2 from rfl)) (by omega) (by omega) (by omega))) (zm_rd (Z := Z) (ν := ν) (k := 2) (show ((0 : Nat) : Int) = 0 from rfl) (show ((0 : Nat) : Int) = 0 from rfl) (i3I (y := (1216 + 12 * a1)) (i3A (i3A (show (1210 : Int32) = i3 1210 from rfl) (i3M (show (12 : Int32) = i3 12 from rfl) (rfl : i3 a1 = i3 a1))) (show (6 : Int32) = i3 6 from rfl)) (by omega) (by omega) (by omega))))))) (zm_rd (Z := Z) (ν := ν) (k := 2) (show ((0 : Nat) : Int) = 0 from rfl) (show ((0 : Nat) : Int) = 0 from rfl) (i3I (y := (1211 + 12 * a1)) (i3A (i3A (show (1210 : Int32) = i3 1210 from rfl) (i3M (show (12 : Int32) = i3 12 from rfl) (rfl : i3 a1 = i3 a1))) (show (1 : Int32) = i3 1 from rfl)) (by omega) (by omega) (by omega)))))
          subst e9
          refine wz_i0 (i3O (n := 4400) (i3A (i3A (show (1210 : Int32) = i3 1210 from rfl) (i3M (show (12 : Int32) = i3 12 from rfl) (rfl : i3 a1 = i3 a1))) (show (7 : Int32) = i3 7 from rfl)) (by omega) (by omega) (by omega)) ?_
          refine wz_br (i3E (i3A (i3W (i3A (zm_rd (Z := Z) (ν := ν) (k := 2) (show ((0 : Nat) : Int) = 0 from rfl) (show ((0 : Nat) : Int) = 0 from rfl) (i3I (y := (1215 + 12 * a1)) (i3A (i3A (show (1210 : Int32) = i3 1210 from rfl) (i3M (show (12 : Int32) = i3 12 from rfl) (rfl : i3 a1 = i3 a1))) (show (5 : Int32) = i3 5 from rfl)) (by omega) (by omega) (by omega))) (i3W (i3A (zm_rd (Z := Z) (ν := ν) (k := 2) (show ((0 : Nat) : Int) = 0 from rfl) (show ((0 : Nat) : Int) = 0 from rfl) (i3I (y := (1212 + 12 * a1)) (i3A (i3A (show (1210 : Int32) = i3 1210 from rfl) (i3M (show (12 : Int32) = i3 12 from rfl) (rfl : i3 a1 = i3 a1))) (show (2 : Int32) = i3 2 from rfl)) (by omega) (by omega) (by omega))) (zm_rd (Z := Z) (ν := ν) (k := 2) (show ((0 : Nat) : Int) = 0 from rfl) (show ((0 : Nat) : Int) = 0 from rfl) (i3I (y := (1216 + 12 * a1)) (i3A (i3A (show (1210 : Int32) = i3 1210 from rfl) (i3M (show (12 : Int32) = i3 12 from rfl) (rfl : i3 a1 = i3 a1))) (show (6 : Int32) = i3 6 from rfl)) (by omega) (by omega) (by omega))))))) (zm_rd (Z := Z) (ν := ν) (k := 2) (show ((0 : Nat) : Int) = 0 from rfl) (show ((0 : Nat) : Int) = 0 from rfl) (i3I (y := (1211 + 12 * a1)) (i3A (i3A (show (1210 : Int32) = i3 1210 from rfl) (i3M (show (12 : Int32) = i3 12 from rfl) (rfl : i3 a1 = i3 a1))) (show (1 : Int32) = i3 1 from rfl)) (by omega) (by omega) (by omega)))) (i3W (i3A (zm_rd (Z := Z) (ν := ν) (k := 2) (show ((0 : Nat) : Int) = 0 from rfl) (show ((0 : Nat) : Int) = 0 from rfl) (i3I (y := (1215 + 12 * a1)) (i3A (i3A (show (1210 : Int32) = i3 1210 from rfl) (i3M (show (12 : Int32) = i3 12 from rfl) (rfl : i3 a1 = i3 a1))) (show (5 : Int32) = i3 5 from rfl)) (by omega) (by omega) (by omega))) (i3W (i3A (zm_rd (Z := Z) (ν := ν) (k := 2) (show ((0 : Nat) : Int) = 0 from rfl) (show ((0 : Nat) : Int) = 0 from rfl) (i3I (y := (1212 + 12 * a1)) (i3A (i3A (show (1210 : Int32) = i3 1210 from rfl) (i3M (show (12 : Int32) = i3 12 from rfl) (rfl : i3 a1 = i3 a1))) (show (2 : Int32) = i3 2 from rfl)) (by omega) (by omega) (by omega))) (zm_rd (Z := Z) (ν := ν) (k := 2) (show ((0 : Nat) : Int) = 0 from rfl) (show ((0 : Nat) : Int) = 0 from rfl) (i3I (y := (1216 + 12 * a1)) (i3A (i3A (show (1210 : Int32) = i3 1210 from rfl) (i3M (show (12 : Int32) = i3 12 from rfl) (rfl : i3 a1 = i3 a1))) (show (6 : Int32) = i3 6 from rfl)) (by omega) (by omega) (by omega))))))) (by omega) (by omega) (by omega) (by omega)) (fun h322 => ?_) (fun h322 => ?_)
          · replace hP := zE_p hP h322
            refine wz_i0 (i3O (n := 4400) (i3A (i3A (show (1210 : Int32) = i3 1210 from rfl) (i3M (show (12 : Int32) = i3 12 from rfl) (rfl : i3 a1 = i3 a1))) (show (7 : Int32) = i3 7 from rfl)) (by omega) (by omega) (by omega)) ?_
            have r323 := zM_f hZ321I 2 0 0 (1217 + 12 * a1)
            obtain ⟨Z324, hZ324⟩ := zx (zu Z321 2 0 0 (1217 + 12 * a1) ((Z321 2 0 0 (1217 + 12 * a1)) + 0))
            replace hP := zl_e hP hZ324
            have hZ324I := zM_u2 hZ321I hZ324 (lo := -2147483648) (hi := 2147483647) (zs_1210_7 (x := a1) (by omega) (by omega) (by omega)) (by omega) ⟨by decide, by decide⟩ (by simp only [zsp]; omega)
            have hZ324U : zU [] Z Z324 := zU_u hZ321U hZ324 (Or.inl rfl)
            have hZ324K : zC [2] Z Z324 := zC_u hZ321K hZ324 (zcl_2w (by omega) rfl)
            intro μ9 e9
            replace e9 := e9.trans (zm_wI (Z := Z321) (ν := ν) hZ324 (show ((0 : Nat) : Int) = 0 from rfl) (show ((0 : Nat) : Int) = 0 from rfl) (i3I (y := (1217 + 12 * a1)) (i3A (i3A (show (1210 : Int32) = i3 1210 from rfl) (i3M (show (12 : Int32) = i3 12 from rfl) (rfl : i3 a1 = i3 a1))) (show (7 : Int32) = i3 7 from rfl)) (by omega) (by omega) (by omega)) (i3A (zm_rd (Z := Z321) (ν := ν) (k := 2) (show ((0 : Nat) : Int) = 0 from rfl) (show ((0 : Nat) : Int) = 0 from rfl) (i3I (y := (1217 + 12 * a1)) (i3A (i3A (show (1210 : Int32) = i3 1210 from rfl) (i3M (show (12 : Int32) = i3 12 from rfl) (rfl : i3 a1 = i3 a1))) (show (7 : Int32) = i3 7 from rfl)) (by omega) (by omega) (by omega))) (show (0 : Int32) = i3 0 from rfl)))
            subst e9
            refine wz_i0 (i3O (n := 4400) (i3A (i3A (show (1210 : Int32) = i3 1210 from rfl) (i3M (show (12 : Int32) = i3 12 from rfl) (rfl : i3 a1 = i3 a1))) (show (8 : Int32) = i3 8 from rfl)) (by omega) (by omega) (by omega)) ?_
            refine wz_i1 (Eq.trans (i3E (i3A (i3W (i3A (zm_rd (Z := Z) (ν := ν) (k := 2) (show ((0 : Nat) : Int) = 0 from rfl) (show ((0 : Nat) : Int) = 0 from rfl) (i3I (y := (1215 + 12 * a1)) (i3A (i3A (show (1210 : Int32) = i3 1210 from rfl) (i3M (show (12 : Int32) = i3 12 from rfl) (rfl : i3 a1 = i3 a1))) (show (5 : Int32) = i3 5 from rfl)) (by omega) (by omega) (by omega))) (i3W (i3A (zm_rd (Z := Z) (ν := ν) (k := 2) (show ((0 : Nat) : Int) = 0 from rfl) (show ((0 : Nat) : Int) = 0 from rfl) (i3I (y := (1212 + 12 * a1)) (i3A (i3A (show (1210 : Int32) = i3 1210 from rfl) (i3M (show (12 : Int32) = i3 12 from rfl) (rfl : i3 a1 = i3 a1))) (show (2 : Int32) = i3 2 from rfl)) (by omega) (by omega) (by omega))) (zm_rd (Z := Z) (ν := ν) (k := 2) (show ((0 : Nat) : Int) = 0 from rfl) (show ((0 : Nat) : Int) = 0 from rfl) (i3I (y := (1216 + 12 * a1)) (i3A (i3A (show (1210 : Int32) = i3 1210 from rfl) (i3M (show (12 : Int32) = i3 12 from rfl) (rfl : i3 a1 = i3 a1))) (show (6 : Int32) = i3 6 from rfl)) (by omega) (by omega) (by omega))))))) (zm_rd (Z := Z) (ν := ν) (k := 2) (show ((0 : Nat) : Int) = 0 from rfl) (show ((0 : Nat) : Int) = 0 from rfl) (i3I (y := (1211 + 12 * a1)) (i3A (i3A (show (1210 : Int32) = i3 1210 from rfl) (i3M (show (12 : Int32) = i3 12 from rfl) (rfl : i3 a1 = i3 a1))) (show (1 : Int32) = i3 1 from rfl)) (by omega) (by omega) (by omega)))) (i3W (i3A (zm_rd (Z := Z) (ν := ν) (k := 2) (show ((0 : Nat) : Int) = 0 from rfl) (show ((0 : Nat) : Int) = 0 from rfl) (i3I (y := (1215 + 12 * a1)) (i3A (i3A (show (1210 : Int32) = i3 1210 from rfl) (i3M (show (12 : Int32) = i3 12 from rfl) (rfl : i3 a1 = i3 a1))) (show (5 : Int32) = i3 5 from rfl)) (by omega) (by omega) (by omega))) (i3W (i3A (zm_rd (Z := Z) (ν := ν) (k := 2) (show ((0 : Nat) : Int) = 0 from rfl) (show ((0 : Nat) : Int) = 0 from rfl) (i3I (y := (1212 + 12 * a1)) (i3A (i3A (show (1210 : Int32) = i3 1210 from rfl) (i3M (show (12 : Int32) = i3 12 from rfl) (rfl : i3 a1 = i3 a1))) (show (2 : Int32) = i3 2 from rfl)) (by omega) (by omega) (by omega))) (zm_rd (Z := Z) (ν := ν) (k := 2) (show ((0 : Nat) : Int) = 0 from rfl) (show ((0 : Nat) : Int) = 0 from rfl) (i3I (y := (1216 + 12 * a1)) (i3A (i3A (show (1210 : Int32) = i3 1210 from rfl) (i3M (show (12 : Int32) = i3 12 from rfl) (rfl : i3 a1 = i3 a1))) (show (6 : Int32) = i3 6 from rfl)) (by omega) (by omega) (by omega))))))) (by omega) (by omega) (by omega) (by omega)) (decide_eq_true (by omega))) ?_
            refine wz_i0 (i3O (n := 4400) (i3A (i3A (show (1210 : Int32) = i3 1210 from rfl) (i3M (show (12 : Int32) = i3 12 from rfl) (rfl : i3 a1 = i3 a1))) (show (8 : Int32) = i3 8 from rfl)) (by omega) (by omega) (by omega)) ?_
            have r325 := zM_f hZ324I 2 0 0 (1218 + 12 * a1)
            obtain ⟨Z326, hZ326⟩ := zx (zu Z324 2 0 0 (1218 + 12 * a1) ((Z324 2 0 0 (1218 + 12 * a1)) + 0))
            replace hP := zl_e hP hZ326
            have hZ326I := zM_u2 hZ324I hZ326 (lo := -2147483648) (hi := 2147483647) (zs_1210_8 (x := a1) (by omega) (by omega) (by omega)) (by omega) ⟨by decide, by decide⟩ (by simp only [zsp]; omega)
            have hZ326U : zU [] Z Z326 := zU_u hZ324U hZ326 (Or.inl rfl)
            have hZ326K : zC [2] Z Z326 := zC_u hZ324K hZ326 (zcl_2w (by omega) rfl)
            intro μ9 e9
            replace e9 := e9.trans (zm_wI (Z := Z324) (ν := ν) hZ326 (show ((0 : Nat) : Int) = 0 from rfl) (show ((0 : Nat) : Int) = 0 from rfl) (i3I (y := (1218 + 12 * a1)) (i3A (i3A (show (1210 : Int32) = i3 1210 from rfl) (i3M (show (12 : Int32) = i3 12 from rfl) (rfl : i3 a1 = i3 a1))) (show (8 : Int32) = i3 8 from rfl)) (by omega) (by omega) (by omega)) (i3A (zm_rd (Z := Z324) (ν := ν) (k := 2) (show ((0 : Nat) : Int) = 0 from rfl) (show ((0 : Nat) : Int) = 0 from rfl) (i3I (y := (1218 + 12 * a1)) (i3A (i3A (show (1210 : Int32) = i3 1210 from rfl) (i3M (show (12 : Int32) = i3 12 from rfl) (rfl : i3 a1 = i3 a1))) (show (8 : Int32) = i3 8 from rfl)) (by omega) (by omega) (by omega))) (show (0 : Int32) = i3 0 from rfl)))
            subst e9
            refine wz_i0 (i3O (n := 4400) (i3A (i3A (show (1210 : Int32) = i3 1210 from rfl) (i3M (show (12 : Int32) = i3 12 from rfl) (rfl : i3 a1 = i3 a1))) (show (6 : Int32) = i3 6 from rfl)) (by omega) (by omega) (by omega)) ?_
            obtain ⟨Z327, hZ327⟩ := zx (zu Z326 2 0 0 (1216 + 12 * a1) 0)
            replace hP := zl_e hP hZ327
            have hZ327I := zM_02 hZ326I hZ327 (by simp only [zsp]; omega)
            have hZ327U : zU [] Z Z327 := zU_u hZ326U hZ327 (Or.inl rfl)
            have hZ327K : zC [2] Z Z327 := zC_u hZ326K hZ327 (zcl_2w (by omega) rfl)
            intro μ9 e9
            replace e9 := e9.trans (zm_wI (Z := Z326) (ν := ν) hZ327 (show ((0 : Nat) : Int) = 0 from rfl) (show ((0 : Nat) : Int) = 0 from rfl) (i3I (y := (1216 + 12 * a1)) (i3A (i3A (show (1210 : Int32) = i3 1210 from rfl) (i3M (show (12 : Int32) = i3 12 from rfl) (rfl : i3 a1 = i3 a1))) (show (6 : Int32) = i3 6 from rfl)) (by omega) (by omega) (by omega)) (show (0 : Int32) = i3 0 from rfl))
            subst e9
            exact zlV hP ⟨hZ327I, hZ327K, hZ327U⟩
          · replace hP := zE_n hP h322
            refine wz_i0 (i3O (n := 4400) (i3A (i3A (show (1210 : Int32) = i3 1210 from rfl) (i3M (show (12 : Int32) = i3 12 from rfl) (rfl : i3 a1 = i3 a1))) (show (7 : Int32) = i3 7 from rfl)) (by omega) (by omega) (by omega)) ?_
            have r328 := zM_f hZ321I 2 0 0 (1217 + 12 * a1)
            have r329 := w3_r ((Z321 2 0 0 (1217 + 12 * a1)) + 1)
            obtain ⟨Z330, hZ330⟩ := zx (zu Z321 2 0 0 (1217 + 12 * a1) (w3 ((Z321 2 0 0 (1217 + 12 * a1)) + 1)))
            replace hP := zl_e hP hZ330
            have hZ330I := zM_u2 hZ321I hZ330 (lo := -2147483648) (hi := 2147483647) (zs_1210_7 (x := a1) (by omega) (by omega) (by omega)) (by omega) ⟨by decide, by decide⟩ (by simp only [zsp]; omega)
            have hZ330U : zU [] Z Z330 := zU_u hZ321U hZ330 (Or.inl rfl)
            have hZ330K : zC [2] Z Z330 := zC_u hZ321K hZ330 (zcl_2w (by omega) rfl)
            intro μ9 e9
            replace e9 := e9.trans (zm_wI (Z := Z321) (ν := ν) hZ330 (show ((0 : Nat) : Int) = 0 from rfl) (show ((0 : Nat) : Int) = 0 from rfl) (i3I (y := (1217 + 12 * a1)) (i3A (i3A (show (1210 : Int32) = i3 1210 from rfl) (i3M (show (12 : Int32) = i3 12 from rfl) (rfl : i3 a1 = i3 a1))) (show (7 : Int32) = i3 7 from rfl)) (by omega) (by omega) (by omega)) (i3W (i3A (zm_rd (Z := Z321) (ν := ν) (k := 2) (show ((0 : Nat) : Int) = 0 from rfl) (show ((0 : Nat) : Int) = 0 from rfl) (i3I (y := (1217 + 12 * a1)) (i3A (i3A (show (1210 : Int32) = i3 1210 from rfl) (i3M (show (12 : Int32) = i3 12 from rfl) (rfl : i3 a1 = i3 a1))) (show (7 : Int32) = i3 7 from rfl)) (by omega) (by omega) (by omega))) (show (1 : Int32) = i3 1 from rfl))))
            subst e9
            refine wz_i0 (i3O (n := 4400) (i3A (i3A (show (1210 : Int32) = i3 1210 from rfl) (i3M (show (12 : Int32) = i3 12 from rfl) (rfl : i3 a1 = i3 a1))) (show (8 : Int32) = i3 8 from rfl)) (by omega) (by omega) (by omega)) ?_
            refine wz_i0 (Eq.trans (i3E (i3A (i3W (i3A (zm_rd (Z := Z) (ν := ν) (k := 2) (show ((0 : Nat) : Int) = 0 from rfl) (show ((0 : Nat) : Int) = 0 from rfl) (i3I (y := (1215 + 12 * a1)) (i3A (i3A (show (1210 : Int32) = i3 1210 from rfl) (i3M (show (12 : Int32) = i3 12 from rfl) (rfl : i3 a1 = i3 a1))) (show (5 : Int32) = i3 5 from rfl)) (by omega) (by omega) (by omega))) (i3W (i3A (zm_rd (Z := Z) (ν := ν) (k := 2) (show ((0 : Nat) : Int) = 0 from rfl) (show ((0 : Nat) : Int) = 0 from rfl) (i3I (y := (1212 + 12 * a1)) (i3A (i3A (show (1210 : Int32) = i3 1210 from rfl) (i3M (show (12 : Int32) = i3 12 from rfl) (rfl : i3 a1 = i3 a1))) (show (2 : Int32) = i3 2 from rfl)) (by omega) (by omega) (by omega))) (zm_rd (Z := Z) (ν := ν) (k := 2) (show ((0 : Nat) : Int) = 0 from rfl) (show ((0 : Nat) : Int) = 0 from rfl) (i3I (y := (1216 + 12 * a1)) (i3A (i3A (show (1210 : Int32) = i3 1210 from rfl) (i3M (show (12 : Int32) = i3 12 from rfl) (rfl : i3 a1 = i3 a1))) (show (6 : Int32) = i3 6 from rfl)) (by omega) (by omega) (by omega))))))) (zm_rd (Z := Z) (ν := ν) (k := 2) (show ((0 : Nat) : Int) = 0 from rfl) (show ((0 : Nat) : Int) = 0 from rfl) (i3I (y := (1211 + 12 * a1)) (i3A (i3A (show (1210 : Int32) = i3 1210 from rfl) (i3M (show (12 : Int32) = i3 12 from rfl) (rfl : i3 a1 = i3 a1))) (show (1 : Int32) = i3 1 from rfl)) (by omega) (by omega) (by omega)))) (i3W (i3A (zm_rd (Z := Z) (ν := ν) (k := 2) (show ((0 : Nat) : Int) = 0 from rfl) (show ((0 : Nat) : Int) = 0 from rfl) (i3I (y := (1215 + 12 * a1)) (i3A (i3A (show (1210 : Int32) = i3 1210 from rfl) (i3M (show (12 : Int32) = i3 12 from rfl) (rfl : i3 a1 = i3 a1))) (show (5 : Int32) = i3 5 from rfl)) (by omega) (by omega) (by omega))) (i3W (i3A (zm_rd (Z := Z) (ν := ν) (k := 2) (show ((0 : Nat) : Int) = 0 from rfl) (show ((0 : Nat) : Int) = 0 from rfl) (i3I (y := (1212 + 12 * a1)) (i3A (i3A (show (1210 : Int32) = i3 1210 from rfl) (i3M (show (12 : Int32) = i3 12 from rfl) (rfl : i3 a1 = i3 a1))) (show (2 : Int32) = i3 2 from rfl)) (by omega) (by omega) (by omega))) (zm_rd (Z := Z) (ν := ν) (k := 2) (show ((0 : Nat) : Int) = 0 from rfl) (show ((0 : Nat) : Int) = 0 from rfl) (i3I (y := (1216 + 12 * a1)) (i3A (i3A (show (1210 : Int32) = i3 1210 from rfl) (i3M (show (12 : Int32) = i3 12 from rfl) (rfl : i3 a1 = i3 a1))) (show (6 : Int32) = i3 6 from rfl)) (by omega) (by omega) (by omega))))))) (by omega) (by omega) (by omega) (by omega)) (decide_eq_false (by omega))) ?_
            refine wz_i0 (i3O (n := 4400) (i3A (i3A (show (1210 : Int32) = i3 1210 from rfl) (i3M (show (12 : Int32) = i3 12 from rfl) (rfl : i3 a1 = i3 a1))) (show (8 : Int32) = i3 8 from rfl)) (by omega) (by omega) (by omega)) ?_
            have r331 := zM_f hZ330I 2 0 0 (1218 + 12 * a1)
            have r332 := w3_r ((Z330 2 0 0 (1218 + 12 * a1)) + 1)
            obtain ⟨Z333, hZ333⟩ := zx (zu Z330 2 0 0 (1218 + 12 * a1) (w3 ((Z330 2 0 0 (1218 + 12 * a1)) + 1)))
            replace hP := zl_e hP hZ333
            have hZ333I := zM_u2 hZ330I hZ333 (lo := -2147483648) (hi := 2147483647) (zs_1210_8 (x := a1) (by omega) (by omega) (by omega)) (by omega) ⟨by decide, by decide⟩ (by simp only [zsp]; omega)
            have hZ333U : zU [] Z Z333 := zU_u hZ330U hZ333 (Or.inl rfl)
            have hZ333K : zC [2] Z Z333 := zC_u hZ330K hZ333 (zcl_2w (by omega) rfl)
            intro μ9 e9
            replace e9 := e9.trans (zm_wI (Z := Z330) (ν := ν) hZ333 (show ((0 : Nat) : Int) = 0 from rfl) (show ((0 : Nat) : Int) = 0 from rfl) (i3I (y := (1218 + 12 * a1)) (i3A (i3A (show (1210 : Int32) = i3 1210 from rfl) (i3M (show (12 : Int32) = i3 12 from rfl) (rfl : i3 a1 = i3 a1))) (show (8 : Int32) = i3 8 from rfl)) (by omega) (by omega) (by omega)) (i3W (i3A (zm_rd (Z := Z330) (ν := ν) (k := 2) (show ((0 : Nat) : Int) = 0 from rfl) (show ((0 : Nat) : Int) = 0 from rfl) (i3I (y := (1218 + 12 * a1)) (i3A (i3A (show (1210 : Int32) = i3 1210 from rfl) (i3M (show (12 : Int32) = i3 12 from rfl) (rfl : i3 a1 = i3 a1))) (show (8 : Int32) = i3 8 from rfl)) (by omega) (by omega) (by omega))) (show (1 : Int32) = i3 1 from rfl))))
            subst e9
            refine wz_i0 (i3O (n := 4400) (i3A (i3A (show (1210 : Int32) = i3 1210 from rfl) (i3M (show (12 : Int32) = i3 12 from rfl) (rfl : i3 a1 = i3 a1))) (show (6 : Int32) = i3 6 from rfl)) (by omega) (by omega) (by omega)) ?_
            obtain ⟨Z334, hZ334⟩ := zx (zu Z333 2 0 0 (1216 + 12 * a1) 0)
            replace hP := zl_e hP hZ334
            have hZ334I := zM_02 hZ333I hZ334 (by simp only [zsp]; omega)
            have hZ334U : zU [] Z Z334 := zU_u hZ333U hZ334 (Or.inl rfl)
            have hZ334K : zC [2] Z Z334 := zC_u hZ333K hZ334 (zcl_2w (by omega) rfl)
            intro μ9 e9
            replace e9 := e9.trans (zm_wI (Z := Z333) (ν := ν) hZ334 (show ((0 : Nat) : Int) = 0 from rfl) (show ((0 : Nat) : Int) = 0 from rfl) (i3I (y := (1216 + 12 * a1)) (i3A (i3A (show (1210 : Int32) = i3 1210 from rfl) (i3M (show (12 : Int32) = i3 12 from rfl) (rfl : i3 a1 = i3 a1))) (show (6 : Int32) = i3 6 from rfl)) (by omega) (by omega) (by omega)) (show (0 : Int32) = i3 0 from rfl))
            subst e9
            exact zlV hP ⟨hZ334I, hZ334K, hZ334U⟩
/- yX12_rHour -/
def zl_471_1 : Nat → qz_Z → Int → qz_Z × Int
  | 0, Z, x1 => (Z, x1)
  | m + 1, Z, x1 => (if (Z 2 0 0 1200) ≤ x1 then (Z, x1) else (zlet (zf_490 Z x1) (fun Z3 => zl_471_1 m Z3 (x1 + 1))))
theorem sl_471_1 {s : zSM} {Zs Z : qz_Z} {ν : qz_N} (hZ : zM s Z) (hM : s.2 + 0 ≤ 1000000000) (hK : zC [2] Zs Z) {x1 : Int} (gx1 : 0 ≤ x1 ∧ x1 ≤ 6) (hU : zU [] Zs Z) {k : wz_K} {R : wz_R} {L : qz_L} (hL : qz_fg [true, true] L = [some (.inr (.inr (some (1, 0, 0)))), some (.inl (i3 x1))]) {T : qz_Z × Int} (hP : zE T (zl_471_1 ((6 - x1).toNat + 1) Z x1)) (hk : ∀ (L9 : qz_L) (Z9 : qz_Z) (yx1 : Int), qz_fg [true, false] L9 = [some (.inr (.inr (some (1, 0, 0)))), none] → zM s Z9 → zC [2] Zs Z9 → zU [] Zs Z9 → (0 ≤ yx1 ∧ yx1 ≤ 6) → zE T ((Z9, yx1)) → k 0 (L9, [], zm Z9 ν)) : wz_loop qb_471_1 65536 k R (L, [], zm Z ν) := by
  refine wz_lp sb_471_1 (fun m x => ∃ Z : qz_Z, ∃ x1 : Int, qz_fg [true, true] x.1 = [some (.inr (.inr (some (1, 0, 0)))), some (.inl (i3 x1))] ∧ x.2 = ([], zm Z ν) ∧ zM s Z ∧ zC [2] Zs Z ∧ zU [] Zs Z ∧ m = (6 - x1).toNat ∧ (0 ≤ x1 ∧ x1 ≤ 6) ∧ zE T (zl_471_1 (m + 1) Z x1)) ?_ 65536 ((6 - x1).toNat) _ (by omega) ⟨Z, x1, hL, rfl, hZ, hK, hU, rfl, gx1, hP⟩
  clear hP gx1 hZ hK hU hL
  clear x1
  clear Z
  rintro m ⟨L, st, μ⟩ ⟨Z, x1, hL, hx, hZ, hK, hU, hm, gx1, hP⟩
  cases hx
  refine fb_471_1 (i3 x1) _ _ _ _ hL ?_
  have r1 := zM_k hZ 2 0 0 1200 (lo := 0) (hi := 6) (by decide) rfl
  refine wz_br (i3Le (zm_rd (Z := Z) (ν := ν) (k := 2) (show ((0 : Nat) : Int) = 0 from rfl) (show ((0 : Nat) : Int) = 0 from rfl) (show ((1200 : Nat) : Int) = 1200 from rfl)) (rfl : i3 x1 = i3 x1) (by omega) (by omega) (by omega) (by omega)) (fun h2 => ?_) (fun h2 => ?_)
  · replace hP := zE_p hP h2
    exact hk _ _ _ (zconso rfl (zconso rfl rfl)) hZ hK hU (by omega)  hP
  · replace hP := zE_n hP h2
    obtain ⟨Z3, hZ3, c9, hZ3I, kZ3, jZ3⟩ := sp_490 (ν := ν) hZ (a1 := x1) (by omega) (zbh (c := 0) (k := 0) hM (Nat.le_of_ble_eq_true rfl))
    have hZ3U : zU [] Zs Z3 := zU_t hU jZ3 zU_b0
    have hZ3K : zC [2] Zs Z3 := zC_t hK kZ3 (by decide)
    replace hP := zl_e hP hZ3
    refine wz_cV_of (zas (zcons rfl (zcons (zvi (rfl : i3 x1 = i3 x1)) rfl)) c9) ?_
    clear c9
    obtain ⟨m2, rfl⟩ : ∃ m2, m = m2 + 1 := ⟨m - 1, by omega⟩
    exact wz_k1 ⟨m2, by omega, Z3, (x1 + 1), (zconso rfl (zconso (zvo (i3A (rfl : i3 x1 = i3 x1) (show (1 : Int32) = i3 1 from rfl))) rfl)), rfl, hZ3I, hZ3K, hZ3U, by omega, by omega,  hP⟩
/- yX12_rHour -/
def zl_471_2 : Nat → qz_Z → Int → qz_Z × Int
  | 0, Z, x1 => (Z, x1)
  | m + 1, Z, x1 => (if (Z 2 0 0 102) ≤ x1 then (Z, x1) else (if 1 < (Z 2 0 0 (210 + 20 * x1)) then zl_471_2 m Z (x1 + 1) else (zlet (zf_481 Z x1) (fun Z5 => zl_471_2 m Z5 (x1 + 1)))))
theorem sl_471_2 {s : zSM} {Zs Z : qz_Z} {ν : qz_N} (hZ : zM s Z) (hM : s.2 + 0 ≤ 1000000000) (hK : zC [2] Zs Z) {x1 : Int} (gx1 : 0 ≤ x1 ∧ x1 ≤ 48) (hU : zU [] Zs Z) {k : wz_K} {R : wz_R} {L : qz_L} (hL : qz_fg [true, true] L = [some (.inr (.inr (some (1, 0, 0)))), some (.inl (i3 x1))]) {T : qz_Z × Int} (hP : zE T (zl_471_2 ((48 - x1).toNat + 1) Z x1)) (hk : ∀ (L9 : qz_L) (Z9 : qz_Z) (yx1 : Int), qz_fg [true, false] L9 = [some (.inr (.inr (some (1, 0, 0)))), none] → zM s Z9 → zC [2] Zs Z9 → zU [] Zs Z9 → (0 ≤ yx1 ∧ yx1 ≤ 48) → zE T ((Z9, yx1)) → k 0 (L9, [], zm Z9 ν)) : wz_loop qb_471_2 65536 k R (L, [], zm Z ν) := by
  refine wz_lp sb_471_2 (fun m x => ∃ Z : qz_Z, ∃ x1 : Int, qz_fg [true, true] x.1 = [some (.inr (.inr (some (1, 0, 0)))), some (.inl (i3 x1))] ∧ x.2 = ([], zm Z ν) ∧ zM s Z ∧ zC [2] Zs Z ∧ zU [] Zs Z ∧ m = (48 - x1).toNat ∧ (0 ≤ x1 ∧ x1 ≤ 48) ∧ zE T (zl_471_2 (m + 1) Z x1)) ?_ 65536 ((48 - x1).toNat) _ (by omega) ⟨Z, x1, hL, rfl, hZ, hK, hU, rfl, gx1, hP⟩
  clear hP gx1 hZ hK hU hL
  clear x1
  clear Z
  rintro m ⟨L, st, μ⟩ ⟨Z, x1, hL, hx, hZ, hK, hU, hm, gx1, hP⟩
  cases hx
  refine fb_471_2 (i3 x1) _ _ _ _ hL ?_
  have r1 := zM_k hZ 2 0 0 102 (lo := 0) (hi := 48) (by decide) rfl
  refine wz_br (i3Le (zm_rd (Z := Z) (ν := ν) (k := 2) (show ((0 : Nat) : Int) = 0 from rfl) (show ((0 : Nat) : Int) = 0 from rfl) (show ((102 : Nat) : Int) = 102 from rfl)) (rfl : i3 x1 = i3 x1) (by omega) (by omega) (by omega) (by omega)) (fun h2 => ?_) (fun h2 => ?_)
  · replace hP := zE_p hP h2
    exact hk _ _ _ (zconso rfl (zconso rfl rfl)) hZ hK hU (by omega)  hP
  · replace hP := zE_n hP h2
    refine wz_i0 (i3O (n := 4400) (i3A (i3A (show (200 : Int32) = i3 200 from rfl) (i3M (show (20 : Int32) = i3 20 from rfl) (rfl : i3 x1 = i3 x1))) (show (10 : Int32) = i3 10 from rfl)) (by omega) (by omega) (by omega)) ?_
    have r3 := zM_k hZ 2 0 0 (210 + 20 * x1) (lo := 0) (hi := 4) (by decide) (zs_200_10 (x := x1) (by omega) (by omega) (by omega))
    refine wz_br (i3L (show (1 : Int32) = i3 1 from rfl) (zm_rd (Z := Z) (ν := ν) (k := 2) (show ((0 : Nat) : Int) = 0 from rfl) (show ((0 : Nat) : Int) = 0 from rfl) (i3I (y := (210 + 20 * x1)) (i3A (i3A (show (200 : Int32) = i3 200 from rfl) (i3M (show (20 : Int32) = i3 20 from rfl) (rfl : i3 x1 = i3 x1))) (show (10 : Int32) = i3 10 from rfl)) (by omega) (by omega) (by omega))) (by omega) (by omega) (by omega) (by omega)) (fun h4 => ?_) (fun h4 => ?_)
    · replace hP := zE_p hP h4
      obtain ⟨m2, rfl⟩ : ∃ m2, m = m2 + 1 := ⟨m - 1, by omega⟩
      exact wz_k1 ⟨m2, by omega, Z, (x1 + 1), (zconso rfl (zconso (zvo (i3A (rfl : i3 x1 = i3 x1) (show (1 : Int32) = i3 1 from rfl))) rfl)), rfl, hZ, hK, hU, by omega, by omega,  hP⟩
    · replace hP := zE_n hP h4
      obtain ⟨Z5, hZ5, c9, hZ5I, kZ5, jZ5⟩ := sp_481 (ν := ν) hZ (a1 := x1) (by omega) (zbh (c := 0) (k := 0) hM (Nat.le_of_ble_eq_true rfl))
      have hZ5U : zU [] Zs Z5 := zU_t hU jZ5 zU_b0
      have hZ5K : zC [2] Zs Z5 := zC_t hK kZ5 (by decide)
      replace hP := zl_e hP hZ5
      refine wz_cV_of (zas (zcons rfl (zcons (zvi (rfl : i3 x1 = i3 x1)) rfl)) c9) ?_
      clear c9
      obtain ⟨m2, rfl⟩ : ∃ m2, m = m2 + 1 := ⟨m - 1, by omega⟩
      exact wz_k1 ⟨m2, by omega, Z5, (x1 + 1), (zconso rfl (zconso (zvo (i3A (rfl : i3 x1 = i3 x1) (show (1 : Int32) = i3 1 from rfl))) rfl)), rfl, hZ5I, hZ5K, hZ5U, by omega, by omega,  hP⟩
/- yX12_rHour -/
def zl_471_3 : Nat → qz_Z → Int → qz_Z × Int
  | 0, Z, x1 => (Z, x1)
  | m + 1, Z, x1 => (if (Z 2 0 0 2000) ≤ x1 then (Z, x1) else (if (Z 2 0 0 (2019 + 16 * x1)) ≠ 1 then zl_471_3 m Z (x1 + 1) else (zlet (zf_482 Z x1) (fun Z6 => zl_471_3 m Z6 (x1 + 1)))))
theorem sl_471_3 {s : zSM} {Zs Z : qz_Z} {ν : qz_N} (hZ : zM s Z) (hM : s.2 + 0 ≤ 1000000000) (hK : zC [2] Zs Z) {x1 : Int} (gx1 : 0 ≤ x1 ∧ x1 ≤ 60) (hU : zU [] Zs Z) {k : wz_K} {R : wz_R} {L : qz_L} (hL : qz_fg [true, true] L = [some (.inr (.inr (some (1, 0, 0)))), some (.inl (i3 x1))]) {T : qz_Z × Int} (hP : zE T (zl_471_3 ((60 - x1).toNat + 1) Z x1)) (hk : ∀ (L9 : qz_L) (Z9 : qz_Z) (yx1 : Int), qz_fg [false, false] L9 = [none, none] → zM s Z9 → zC [2] Zs Z9 → zU [] Zs Z9 → (0 ≤ yx1 ∧ yx1 ≤ 60) → zE T ((Z9, yx1)) → k 0 (L9, [], zm Z9 ν)) : wz_loop qb_471_3 65536 k R (L, [], zm Z ν) := by
  refine wz_lp sb_471_3 (fun m x => ∃ Z : qz_Z, ∃ x1 : Int, qz_fg [true, true] x.1 = [some (.inr (.inr (some (1, 0, 0)))), some (.inl (i3 x1))] ∧ x.2 = ([], zm Z ν) ∧ zM s Z ∧ zC [2] Zs Z ∧ zU [] Zs Z ∧ m = (60 - x1).toNat ∧ (0 ≤ x1 ∧ x1 ≤ 60) ∧ zE T (zl_471_3 (m + 1) Z x1)) ?_ 65536 ((60 - x1).toNat) _ (by omega) ⟨Z, x1, hL, rfl, hZ, hK, hU, rfl, gx1, hP⟩
  clear hP gx1 hZ hK hU hL
  clear x1
  clear Z
  rintro m ⟨L, st, μ⟩ ⟨Z, x1, hL, hx, hZ, hK, hU, hm, gx1, hP⟩
  cases hx
  refine fb_471_3 (i3 x1) _ _ _ _ hL ?_
  have r1 := zM_k hZ 2 0 0 2000 (lo := 0) (hi := 60) (by decide) rfl
  refine wz_br (i3Le (zm_rd (Z := Z) (ν := ν) (k := 2) (show ((0 : Nat) : Int) = 0 from rfl) (show ((0 : Nat) : Int) = 0 from rfl) (show ((2000 : Nat) : Int) = 2000 from rfl)) (rfl : i3 x1 = i3 x1) (by omega) (by omega) (by omega) (by omega)) (fun h2 => ?_) (fun h2 => ?_)
  · replace hP := zE_p hP h2
    exact hk _ _ _ (zconso rfl (zconso rfl rfl)) hZ hK hU (by omega)  hP
  · replace hP := zE_n hP h2
    refine wz_i0 (i3O (n := 4400) (i3A (i3A (show (2010 : Int32) = i3 2010 from rfl) (i3M (show (16 : Int32) = i3 16 from rfl) (rfl : i3 x1 = i3 x1))) (show (9 : Int32) = i3 9 from rfl)) (by omega) (by omega) (by omega)) ?_
    have r3 := zM_k hZ 2 0 0 (2019 + 16 * x1) (lo := 0) (hi := 3) (by decide) (zs_2010_9 (x := x1) (by omega) (by omega) (by omega))
    have r4 := zM_lt2 hZ x1
    refine wz_br (i3NE (zm_rd (Z := Z) (ν := ν) (k := 2) (show ((0 : Nat) : Int) = 0 from rfl) (show ((0 : Nat) : Int) = 0 from rfl) (i3I (y := (2019 + 16 * x1)) (i3A (i3A (show (2010 : Int32) = i3 2010 from rfl) (i3M (show (16 : Int32) = i3 16 from rfl) (rfl : i3 x1 = i3 x1))) (show (9 : Int32) = i3 9 from rfl)) (by omega) (by omega) (by omega))) (show (1 : Int32) = i3 1 from rfl) (by omega) (by omega) (by omega) (by omega)) (fun h5 => ?_) (fun h5 => ?_)
    · replace hP := zE_p hP h5
      obtain ⟨m2, rfl⟩ : ∃ m2, m = m2 + 1 := ⟨m - 1, by omega⟩
      exact wz_k1 ⟨m2, by omega, Z, (x1 + 1), (zconso rfl (zconso (zvo (i3A (rfl : i3 x1 = i3 x1) (show (1 : Int32) = i3 1 from rfl))) rfl)), rfl, hZ, hK, hU, by omega, by omega,  hP⟩
    · replace hP := zE_n hP h5
      obtain ⟨Z6, hZ6, c9, hZ6I, kZ6, jZ6⟩ := sp_482 (ν := ν) hZ (a1 := x1) (by omega) (zbh (c := 0) (k := 0) hM (Nat.le_of_ble_eq_true rfl))
      have hZ6U : zU [] Zs Z6 := zU_t hU jZ6 zU_b0
      have hZ6K : zC [2] Zs Z6 := zC_t hK kZ6 (by decide)
      replace hP := zl_e hP hZ6
      refine wz_cV_of (zas (zcons rfl (zcons (zvi (rfl : i3 x1 = i3 x1)) rfl)) c9) ?_
      clear c9
      obtain ⟨m2, rfl⟩ : ∃ m2, m = m2 + 1 := ⟨m - 1, by omega⟩
      exact wz_k1 ⟨m2, by omega, Z6, (x1 + 1), (zconso rfl (zconso (zvo (i3A (rfl : i3 x1 = i3 x1) (show (1 : Int32) = i3 1 from rfl))) rfl)), rfl, hZ6I, hZ6K, hZ6U, by omega, by omega,  hP⟩
/- yX12_rHour -/
def zf_471 (Z : qz_Z) : qz_Z := (zlet2 (zl_471_1 7 Z 0) (fun Z2 y1 => (zlet2 (zl_471_2 49 Z2 0) (fun Z5 y4 => (zlet2 (zl_471_3 61 Z5 0) (fun Z8 y7 => Z8))))))
theorem sp_471 {s : zSM} {Z : qz_Z} {ν : qz_N} (hZ : zM s Z) (hM : s.2 + 0 ≤ 1000000000) : ∃ P : qz_Z, P = zf_471 Z ∧ (qf_471 [.inr (.inr (some (1, 0, 0)))] (zm Z ν) = some (zm P ν, .inl none) ∧ zM s P ∧ zC [2] Z P ∧ zU [] Z P) := by
  obtain ⟨P, hP⟩ := zx (zf_471 Z)
  refine zc_V (Q := fun P => zM s P ∧ zC [2] Z P ∧ zU [] Z P) hP (fw_471  _ _ ?_)
  replace hP : zE P (zf_471 Z) := hP
  unfold zf_471 at hP
  refine sl_471_1 (ν := ν) hZ (zbh (c := 0) (k := 0) hM (Nat.le_of_ble_eq_true rfl)) zC_r (x1 := 0) (by omega) zU_r  (zconso rfl (zconso (zvo (show (0 : Int32) = i3 0 from rfl)) rfl)) rfl ?_
  intro L3 Z2 y1 hL3 hZ2I kZ2 jZ2 gy1 q9
  replace hP := zl_e2 hP (Eq.symm q9)
  clear q9
  have hZ2U : zU [] Z Z2 := zU_t zU_r jZ2 zU_b0
  have hZ2K : zC [2] Z Z2 := zC_t zC_r kZ2 (by decide)
  refine fc_471_6  _ _ _ _ hL3 ?_
  refine sl_471_2 (ν := ν) hZ2I (zbh (c := 0) (k := 0) hM (Nat.le_of_ble_eq_true rfl)) zC_r (x1 := 0) (by omega) zU_r  (zconso rfl (zconso (zvo (show (0 : Int32) = i3 0 from rfl)) rfl)) rfl ?_
  intro L6 Z5 y4 hL6 hZ5I kZ5 jZ5 gy4 q9
  replace hP := zl_e2 hP (Eq.symm q9)
  clear q9
  have hZ5U : zU [] Z Z5 := zU_t hZ2U jZ5 zU_b0
  have hZ5K : zC [2] Z Z5 := zC_t hZ2K kZ5 (by decide)
  refine fc_471_5  _ _ _ _ hL6 ?_
  refine sl_471_3 (ν := ν) hZ5I (zbh (c := 0) (k := 0) hM (Nat.le_of_ble_eq_true rfl)) zC_r (x1 := 0) (by omega) zU_r  (zconso rfl (zconso (zvo (show (0 : Int32) = i3 0 from rfl)) rfl)) rfl ?_
  intro L9 Z8 y7 hL9 hZ8I kZ8 jZ8 gy7 q9
  replace hP := zl_e2 hP (Eq.symm q9)
  clear q9
  have hZ8U : zU [] Z Z8 := zU_t hZ5U jZ8 zU_b0
  have hZ8K : zC [2] Z Z8 := zC_t hZ5K kZ8 (by decide)
  refine fc_471_4  _ _ _ _ hL9 ?_
  exact zlV hP ⟨hZ8I, hZ8K, hZ8U⟩
/- yX12_rAlone -/
def zl_460_1 (x1 : Int) : Nat → qz_Z → qz_Z
  | 0, Z => Z
  | m + 1, Z => (if x1 ≤ (Z 2 0 0 0) then Z else (zlet (zu Z 2 0 0 0 ((Z 2 0 0 0) + 1)) (fun Z3 => (zlet (zf_471 Z3) (fun Z4 => zl_460_1 x1 m Z4)))))
theorem sl_460_1 {s : zSM} {Zs Z : qz_Z} {ν : qz_N} (hZ : zM s Z) (hM : s.2 + 0 ≤ 1000000000) (hK : zC [2, 1200] Zs Z) {x1 : Int} (gx1 : -1 ≤ x1 ∧ x1 ≤ 1342) (hU : zU [] Zs Z) {k : wz_K} {R : wz_R} {L : qz_L} (hL : qz_fg [true, true] L = [some (.inr (.inr (some (1, 0, 0)))), some (.inl (i3 x1))]) {T : qz_Z} (hP : zE T (zl_460_1 x1 ((x1 - Z 2 0 0 0).toNat + 1) Z)) (hk : ∀ (L9 : qz_L) (Z9 : qz_Z), qz_fg [false, false] L9 = [none, none] → zM s Z9 → zC [2, 1200] Zs Z9 → zU [] Zs Z9 → zE T (Z9) → k 0 (L9, [], zm Z9 ν)) : wz_loop qb_460_1 65536 k R (L, [], zm Z ν) := by
  refine wz_lp sb_460_1 (fun m x => ∃ Z : qz_Z, qz_fg [true, true] x.1 = [some (.inr (.inr (some (1, 0, 0)))), some (.inl (i3 x1))] ∧ x.2 = ([], zm Z ν) ∧ zM s Z ∧ zC [2, 1200] Zs Z ∧ zU [] Zs Z ∧ m = (x1 - Z 2 0 0 0).toNat ∧ zE T (zl_460_1 x1 (m + 1) Z)) ?_ 65536 ((x1 - Z 2 0 0 0).toNat) _ (by omega) ⟨Z, hL, rfl, hZ, hK, hU, rfl, hP⟩
  clear hP hZ hK hU hL
  clear Z
  rintro m ⟨L, st, μ⟩ ⟨Z, hL, hx, hZ, hK, hU, hm, hP⟩
  cases hx
  refine fb_460_1 (i3 x1) _ _ _ _ hL ?_
  have r1 := zM_k hZ 2 0 0 0 (lo := 0) (hi := 671) (by decide) rfl
  refine wz_br (i3Le (rfl : i3 x1 = i3 x1) (zm_rd (Z := Z) (ν := ν) (k := 2) (show ((0 : Nat) : Int) = 0 from rfl) (show ((0 : Nat) : Int) = 0 from rfl) (show ((0 : Nat) : Int) = 0 from rfl)) (by omega) (by omega) (by omega) (by omega)) (fun h2 => ?_) (fun h2 => ?_)
  · replace hP := zE_p hP h2
    exact hk _ _ (zconso rfl (zconso rfl rfl)) hZ hK hU   hP
  · replace hP := zE_n hP h2
    obtain ⟨Z3, hZ3⟩ := zx (zu Z 2 0 0 0 ((Z 2 0 0 0) + 1))
    replace hP := zl_e hP hZ3
    have hZ3I := zM_u2 hZ hZ3 (lo := 0) (hi := 671) rfl (by omega) ⟨by decide, by decide⟩ (by simp only [zsp]; omega)
    have hZ3U : zU [] Zs Z3 := zU_u hU hZ3 (Or.inl rfl)
    have hZ3K : zC [2, 1200] Zs Z3 := zC_u hK hZ3 (by decide)
    intro μ9 e9
    replace e9 := e9.trans (zm_wI (Z := Z) (ν := ν) hZ3 (show ((0 : Nat) : Int) = 0 from rfl) (show ((0 : Nat) : Int) = 0 from rfl) (show ((0 : Nat) : Int) = 0 from rfl) (i3A (zm_rd (Z := Z) (ν := ν) (k := 2) (show ((0 : Nat) : Int) = 0 from rfl) (show ((0 : Nat) : Int) = 0 from rfl) (show ((0 : Nat) : Int) = 0 from rfl)) (show (1 : Int32) = i3 1 from rfl)))
    subst e9
    obtain ⟨Z4, hZ4, c9, hZ4I, kZ4, jZ4⟩ := sp_471 (ν := ν) hZ3I (zbh (c := 0) (k := 0) hM (Nat.le_of_ble_eq_true rfl))
    have hZ4U : zU [] Zs Z4 := zU_t hZ3U jZ4 zU_b0
    have hZ4K : zC [2, 1200] Zs Z4 := zC_t hZ3K kZ4 (by decide)
    replace hP := zl_e hP hZ4
    refine wz_cV_of (zas (zcons rfl rfl) c9) ?_
    clear c9
    obtain ⟨m2, rfl⟩ : ∃ m2, m = m2 + 1 := ⟨m - 1, by omega⟩
    exact wz_k1 ⟨m2, by omega, Z4, (zconso rfl (zconso (zvo (rfl : i3 x1 = i3 x1)) rfl)), rfl, hZ4I, hZ4K, hZ4U, by omega,  hP⟩
/- yX12_rAlone -/
def zf_460 (Z : qz_Z) (a1 : Int) : qz_Z := (zlet (zl_460_1 a1 ((a1 - Z 2 0 0 0).toNat + 1) Z) (fun Z1 => Z1))
theorem sp_460 {s : zSM} {Z : qz_Z} {ν : qz_N} (hZ : zM s Z) {a1 : Int} (ga1 : -1 ≤ a1 ∧ a1 ≤ 1342) (hM : s.2 + 0 ≤ 1000000000) : ∃ P : qz_Z, P = zf_460 Z a1 ∧ (qf_460 [.inr (.inr (some (1, 0, 0))), .inl (i3 a1)] (zm Z ν) = some (zm P ν, .inl none) ∧ zM s P ∧ zC [2, 1200] Z P ∧ zU [] Z P) := by
  obtain ⟨P, hP⟩ := zx (zf_460 Z a1)
  refine zc_V (Q := fun P => zM s P ∧ zC [2, 1200] Z P ∧ zU [] Z P) hP (fw_460 (i3 a1) _ _ ?_)
  replace hP : zE P (zf_460 Z a1) := hP
  unfold zf_460 at hP
  refine sl_460_1 (ν := ν) hZ (zbh (c := 0) (k := 0) hM (Nat.le_of_ble_eq_true rfl)) zC_r (x1 := a1) (by omega) zU_r  (zconso rfl (zconso (zvo (rfl : i3 a1 = i3 a1)) rfl)) rfl ?_
  intro L2 Z1 hL2 hZ1I kZ1 jZ1 q9
  replace hP := zl_e hP (Eq.symm q9)
  clear q9
  have hZ1U : zU [] Z Z1 := zU_t zU_r jZ1 zU_b0
  have hZ1K : zC [2, 1200] Z Z1 := zC_t zC_r kZ1 (by decide)
  refine fc_460_2  _ _ _ _ hL2 ?_
  exact zlV hP ⟨hZ1I, hZ1K, hZ1U⟩
/- yX12_isShut -/
def zf_390 (Z : qz_Z) (a1 : Int) : Int := (if a1 < 0 then 0 else (if 5 < a1 then 0 else (if (Z 2 0 0 (3510 + a1)) ≤ (Z 2 0 0 0) then 0 else 1)))
theorem sp_390 {s : zSM} {Z : qz_Z} {ν : qz_N} (hZ : zM s Z) {a1 : Int} (ga1 : -1 ≤ a1 ∧ a1 ≤ 2147483647) (hM : s.2 + 0 ≤ 1000000000) : ∃ P : Int, P = zf_390 Z a1 ∧ (qf_390 [.inr (.inr (some (1, 0, 0))), .inl (i3 a1)] (zm Z ν) = some (zm Z ν, .inl (some (.inl (i3 P)))) ∧ 0 ≤ P ∧ P ≤ 1) := by
  obtain ⟨P, hP⟩ := zx (zf_390 Z a1)
  refine zc_R (Q := fun P => 0 ≤ P ∧ P ≤ 1) hP (fw_390 (i3 a1) _ _ ?_)
  replace hP : zE P (zf_390 Z a1) := hP
  unfold zf_390 at hP
  refine wz_br (i3L (rfl : i3 a1 = i3 a1) (show (0 : Int32) = i3 0 from rfl) (by omega) (by omega) (by omega) (by omega)) (fun h1 => ?_) (fun h1 => ?_)
  · replace hP := zE_p hP h1
    exact zlR hP (show (0 : Int32) = i3 0 from rfl) ⟨by omega, by omega⟩
  · replace hP := zE_n hP h1
    refine wz_br (i3L (show (5 : Int32) = i3 5 from rfl) (rfl : i3 a1 = i3 a1) (by omega) (by omega) (by omega) (by omega)) (fun h2 => ?_) (fun h2 => ?_)
    · replace hP := zE_p hP h2
      exact zlR hP (show (0 : Int32) = i3 0 from rfl) ⟨by omega, by omega⟩
    · replace hP := zE_n hP h2
      refine wz_i0 (i3O (n := 4400) (i3A (show (3510 : Int32) = i3 3510 from rfl) (rfl : i3 a1 = i3 a1)) (by omega) (by omega) (by omega)) ?_
      have r3 := zM_k hZ 2 0 0 (3510 + a1) (lo := 0) (hi := 695) (by decide) (zs_3509 (by omega) (by omega))
      have r4 := zM_k hZ 2 0 0 0 (lo := 0) (hi := 671) (by decide) rfl
      refine wz_br (i3Le (zm_rd (Z := Z) (ν := ν) (k := 2) (show ((0 : Nat) : Int) = 0 from rfl) (show ((0 : Nat) : Int) = 0 from rfl) (i3I (y := (3510 + a1)) (i3A (show (3510 : Int32) = i3 3510 from rfl) (rfl : i3 a1 = i3 a1)) (by omega) (by omega) (by omega))) (zm_rd (Z := Z) (ν := ν) (k := 2) (show ((0 : Nat) : Int) = 0 from rfl) (show ((0 : Nat) : Int) = 0 from rfl) (show ((0 : Nat) : Int) = 0 from rfl)) (by omega) (by omega) (by omega) (by omega)) (fun h5 => ?_) (fun h5 => ?_)
      · replace hP := zE_p hP h5
        exact zlR hP (show (0 : Int32) = i3 0 from rfl) ⟨by omega, by omega⟩
      · replace hP := zE_n hP h5
        exact zlR hP (show (1 : Int32) = i3 1 from rfl) ⟨by omega, by omega⟩
/- yX12_rInto -/
def zf_472 (Z : qz_Z) (a1 : Int) (a2 : Int) : qz_Z := (if (Z 2 0 0 (211 + 20 * a1)) < 0 then (if a2 < 0 then (zlet (zu Z 2 0 0 (211 + 20 * a1) a2) (fun Z4 => Z4)) else (if 5 < a2 then (zlet (zu Z 2 0 0 (211 + 20 * a1) a2) (fun Z6 => Z6)) else (zlet (zu Z 2 0 0 (1216 + 12 * a2) (w3 ((Z 2 0 0 (1216 + 12 * a2)) + 1))) (fun Z9 => (zlet (zu Z9 2 0 0 (211 + 20 * a1) a2) (fun Z10 => Z10)))))) else (if 5 < (Z 2 0 0 (211 + 20 * a1)) then (if a2 < 0 then (zlet (zu Z 2 0 0 (211 + 20 * a1) a2) (fun Z13 => Z13)) else (if 5 < a2 then (zlet (zu Z 2 0 0 (211 + 20 * a1) a2) (fun Z15 => Z15)) else (zlet (zu Z 2 0 0 (1216 + 12 * a2) (w3 ((Z 2 0 0 (1216 + 12 * a2)) + 1))) (fun Z18 => (zlet (zu Z18 2 0 0 (211 + 20 * a1) a2) (fun Z19 => Z19)))))) else (zlet (zu Z 2 0 0 (1216 + 12 * (Z 2 0 0 (211 + 20 * a1))) (w3 ((Z 2 0 0 (1216 + 12 * (Z 2 0 0 (211 + 20 * a1)))) + 1))) (fun Z22 => (if a2 < 0 then (zlet (zu Z22 2 0 0 (211 + 20 * a1) a2) (fun Z24 => Z24)) else (if 5 < a2 then (zlet (zu Z22 2 0 0 (211 + 20 * a1) a2) (fun Z26 => Z26)) else (zlet (zu Z22 2 0 0 (1216 + 12 * a2) (w3 ((Z22 2 0 0 (1216 + 12 * a2)) + 1))) (fun Z29 => (zlet (zu Z29 2 0 0 (211 + 20 * a1) a2) (fun Z30 => Z30))))))))))
theorem sp_472 {s : zSM} {Z : qz_Z} {ν : qz_N} (hZ : zM s Z) {a1 : Int} (ga1 : 0 ≤ a1 ∧ a1 ≤ 47) {a2 : Int} (ga2 : -1 ≤ a2 ∧ a2 ≤ 2147483647) (hM : s.2 + 0 ≤ 1000000000) : ∃ P : qz_Z, P = zf_472 Z a1 a2 ∧ (qf_472 [.inr (.inr (some (1, 0, 0))), .inl (i3 a1), .inl (i3 a2)] (zm Z ν) = some (zm P ν, .inl none) ∧ zM s P ∧ zC [2] Z P ∧ zU [] Z P) := by
  obtain ⟨P, hP⟩ := zx (zf_472 Z a1 a2)
  refine zc_V (Q := fun P => zM s P ∧ zC [2] Z P ∧ zU [] Z P) hP (fw_472 (i3 a1) (i3 a2) _ _ ?_)
  replace hP : zE P (zf_472 Z a1 a2) := hP
  unfold zf_472 at hP
  refine wz_i0 (i3O (n := 4400) (i3A (i3A (show (200 : Int32) = i3 200 from rfl) (i3M (show (20 : Int32) = i3 20 from rfl) (rfl : i3 a1 = i3 a1))) (show (11 : Int32) = i3 11 from rfl)) (by omega) (by omega) (by omega)) ?_
  have r1 := zM_k hZ 2 0 0 (211 + 20 * a1) (lo := -1) (hi := 6) (by decide) (zs_200_11 (x := a1) (by omega) (by omega) (by omega))
  refine wz_br (i3L (zm_rd (Z := Z) (ν := ν) (k := 2) (show ((0 : Nat) : Int) = 0 from rfl) (show ((0 : Nat) : Int) = 0 from rfl) (i3I (y := (211 + 20 * a1)) (i3A (i3A (show (200 : Int32) = i3 200 from rfl) (i3M (show (20 : Int32) = i3 20 from rfl) (rfl : i3 a1 = i3 a1))) (show (11 : Int32) = i3 11 from rfl)) (by omega) (by omega) (by omega))) (show (0 : Int32) = i3 0 from rfl) (by omega) (by omega) (by omega) (by omega)) (fun h2 => ?_) (fun h2 => ?_)
  · replace hP := zE_p hP h2
    refine wz_br (i3L (rfl : i3 a2 = i3 a2) (show (0 : Int32) = i3 0 from rfl) (by omega) (by omega) (by omega) (by omega)) (fun h3 => ?_) (fun h3 => ?_)
    · replace hP := zE_p hP h3
      refine wz_i0 (i3O (n := 4400) (i3A (i3A (show (200 : Int32) = i3 200 from rfl) (i3M (show (20 : Int32) = i3 20 from rfl) (rfl : i3 a1 = i3 a1))) (show (11 : Int32) = i3 11 from rfl)) (by omega) (by omega) (by omega)) ?_
      obtain ⟨Z4, hZ4⟩ := zx (zu Z 2 0 0 (211 + 20 * a1) a2)
      replace hP := zl_e hP hZ4
      have hZ4I := zM_u2 hZ hZ4 (lo := -1) (hi := 6) (zs_200_11 (x := a1) (by omega) (by omega) (by omega)) (by omega) ⟨by decide, by decide⟩ (by simp only [zsp]; omega)
      have hZ4U : zU [] Z Z4 := zU_u zU_r hZ4 (Or.inl rfl)
      have hZ4K : zC [2] Z Z4 := zC_u zC_r hZ4 (zcl_2w (by omega) rfl)
      intro μ9 e9
      replace e9 := e9.trans (zm_wI (Z := Z) (ν := ν) hZ4 (show ((0 : Nat) : Int) = 0 from rfl) (show ((0 : Nat) : Int) = 0 from rfl) (i3I (y := (211 + 20 * a1)) (i3A (i3A (show (200 : Int32) = i3 200 from rfl) (i3M (show (20 : Int32) = i3 20 from rfl) (rfl : i3 a1 = i3 a1))) (show (11 : Int32) = i3 11 from rfl)) (by omega) (by omega) (by omega)) (rfl : i3 a2 = i3 a2))
      subst e9
      exact zlV hP ⟨hZ4I, hZ4K, hZ4U⟩
    · replace hP := zE_n hP h3
      refine wz_br (i3L (show (5 : Int32) = i3 5 from rfl) (rfl : i3 a2 = i3 a2) (by omega) (by omega) (by omega) (by omega)) (fun h5 => ?_) (fun h5 => ?_)
      · replace hP := zE_p hP h5
        refine wz_i0 (i3O (n := 4400) (i3A (i3A (show (200 : Int32) = i3 200 from rfl) (i3M (show (20 : Int32) = i3 20 from rfl) (rfl : i3 a1 = i3 a1))) (show (11 : Int32) = i3 11 from rfl)) (by omega) (by omega) (by omega)) ?_
        obtain ⟨Z6, hZ6⟩ := zx (zu Z 2 0 0 (211 + 20 * a1) a2)
        replace hP := zl_e hP hZ6
        have hZ6I := zM_u2 hZ hZ6 (lo := -1) (hi := 6) (zs_200_11 (x := a1) (by omega) (by omega) (by omega)) (by omega) ⟨by decide, by decide⟩ (by simp only [zsp]; omega)
        have hZ6U : zU [] Z Z6 := zU_u zU_r hZ6 (Or.inl rfl)
        have hZ6K : zC [2] Z Z6 := zC_u zC_r hZ6 (zcl_2w (by omega) rfl)
        intro μ9 e9
        replace e9 := e9.trans (zm_wI (Z := Z) (ν := ν) hZ6 (show ((0 : Nat) : Int) = 0 from rfl) (show ((0 : Nat) : Int) = 0 from rfl) (i3I (y := (211 + 20 * a1)) (i3A (i3A (show (200 : Int32) = i3 200 from rfl) (i3M (show (20 : Int32) = i3 20 from rfl) (rfl : i3 a1 = i3 a1))) (show (11 : Int32) = i3 11 from rfl)) (by omega) (by omega) (by omega)) (rfl : i3 a2 = i3 a2))
        subst e9
        exact zlV hP ⟨hZ6I, hZ6K, hZ6U⟩
      · replace hP := zE_n hP h5
        refine wz_i0 (i3O (n := 4400) (i3A (i3A (show (1210 : Int32) = i3 1210 from rfl) (i3M (show (12 : Int32) = i3 12 from rfl) (rfl : i3 a2 = i3 a2))) (show (6 : Int32) = i3 6 from rfl)) (by omega) (by omega) (by omega)) ?_
        refine wz_i0 (i3O (n := 4400) (i3A (i3A (show (1210 : Int32) = i3 1210 from rfl) (i3M (show (12 : Int32) = i3 12 from rfl) (rfl : i3 a2 = i3 a2))) (show (6 : Int32) = i3 6 from rfl)) (by omega) (by omega) (by omega)) ?_
        have r7 := zM_f hZ 2 0 0 (1216 + 12 * a2)
        have r8 := w3_r ((Z 2 0 0 (1216 + 12 * a2)) + 1)
        obtain ⟨Z9, hZ9⟩ := zx (zu Z 2 0 0 (1216 + 12 * a2) (w3 ((Z 2 0 0 (1216 + 12 * a2)) + 1)))
        replace hP := zl_e hP hZ9
        have hZ9I := zM_u2 hZ hZ9 (lo := -2147483648) (hi := 2147483647) (zs_1210_6 (x := a2) (by omega) (by omega) (by omega)) (by omega) ⟨by decide, by decide⟩ (by simp only [zsp]; omega)
        have hZ9U : zU [] Z Z9 := zU_u zU_r hZ9 (Or.inl rfl)
        have hZ9K : zC [2] Z Z9 := zC_u zC_r hZ9 (zcl_2w (by omega) rfl)
        intro μ9 e9
        replace e9 := e9.trans (zm_wI (Z := Z) (ν := ν) hZ9 (show ((0 : Nat) : Int) = 0 from rfl) (show ((0 : Nat) : Int) = 0 from rfl) (i3I (y := (1216 + 12 * a2)) (i3A (i3A (show (1210 : Int32) = i3 1210 from rfl) (i3M (show (12 : Int32) = i3 12 from rfl) (rfl : i3 a2 = i3 a2))) (show (6 : Int32) = i3 6 from rfl)) (by omega) (by omega) (by omega)) (i3W (i3A (zm_rd (Z := Z) (ν := ν) (k := 2) (show ((0 : Nat) : Int) = 0 from rfl) (show ((0 : Nat) : Int) = 0 from rfl) (i3I (y := (1216 + 12 * a2)) (i3A (i3A (show (1210 : Int32) = i3 1210 from rfl) (i3M (show (12 : Int32) = i3 12 from rfl) (rfl : i3 a2 = i3 a2))) (show (6 : Int32) = i3 6 from rfl)) (by omega) (by omega) (by omega))) (show (1 : Int32) = i3 1 from rfl))))
        subst e9
        refine wz_i0 (i3O (n := 4400) (i3A (i3A (show (200 : Int32) = i3 200 from rfl) (i3M (show (20 : Int32) = i3 20 from rfl) (rfl : i3 a1 = i3 a1))) (show (11 : Int32) = i3 11 from rfl)) (by omega) (by omega) (by omega)) ?_
        obtain ⟨Z10, hZ10⟩ := zx (zu Z9 2 0 0 (211 + 20 * a1) a2)
        replace hP := zl_e hP hZ10
        have hZ10I := zM_u2 hZ9I hZ10 (lo := -1) (hi := 6) (zs_200_11 (x := a1) (by omega) (by omega) (by omega)) (by omega) ⟨by decide, by decide⟩ (by simp only [zsp]; omega)
        have hZ10U : zU [] Z Z10 := zU_u hZ9U hZ10 (Or.inl rfl)
        have hZ10K : zC [2] Z Z10 := zC_u hZ9K hZ10 (zcl_2w (by omega) rfl)
        intro μ9 e9
        replace e9 := e9.trans (zm_wI (Z := Z9) (ν := ν) hZ10 (show ((0 : Nat) : Int) = 0 from rfl) (show ((0 : Nat) : Int) = 0 from rfl) (i3I (y := (211 + 20 * a1)) (i3A (i3A (show (200 : Int32) = i3 200 from rfl) (i3M (show (20 : Int32) = i3 20 from rfl) (rfl : i3 a1 = i3 a1))) (show (11 : Int32) = i3 11 from rfl)) (by omega) (by omega) (by omega)) (rfl : i3 a2 = i3 a2))
        subst e9
        exact zlV hP ⟨hZ10I, hZ10K, hZ10U⟩
  · replace hP := zE_n hP h2
    refine wz_br (i3L (show (5 : Int32) = i3 5 from rfl) (zm_rd (Z := Z) (ν := ν) (k := 2) (show ((0 : Nat) : Int) = 0 from rfl) (show ((0 : Nat) : Int) = 0 from rfl) (i3I (y := (211 + 20 * a1)) (i3A (i3A (show (200 : Int32) = i3 200 from rfl) (i3M (show (20 : Int32) = i3 20 from rfl) (rfl : i3 a1 = i3 a1))) (show (11 : Int32) = i3 11 from rfl)) (by omega) (by omega) (by omega))) (by omega) (by omega) (by omega) (by omega)) (fun h11 => ?_) (fun h11 => ?_)
    · replace hP := zE_p hP h11
      refine wz_br (i3L (rfl : i3 a2 = i3 a2) (show (0 : Int32) = i3 0 from rfl) (by omega) (by omega) (by omega) (by omega)) (fun h12 => ?_) (fun h12 => ?_)
      · replace hP := zE_p hP h12
        refine wz_i0 (i3O (n := 4400) (i3A (i3A (show (200 : Int32) = i3 200 from rfl) (i3M (show (20 : Int32) = i3 20 from rfl) (rfl : i3 a1 = i3 a1))) (show (11 : Int32) = i3 11 from rfl)) (by omega) (by omega) (by omega)) ?_
        obtain ⟨Z13, hZ13⟩ := zx (zu Z 2 0 0 (211 + 20 * a1) a2)
        replace hP := zl_e hP hZ13
        have hZ13I := zM_u2 hZ hZ13 (lo := -1) (hi := 6) (zs_200_11 (x := a1) (by omega) (by omega) (by omega)) (by omega) ⟨by decide, by decide⟩ (by simp only [zsp]; omega)
        have hZ13U : zU [] Z Z13 := zU_u zU_r hZ13 (Or.inl rfl)
        have hZ13K : zC [2] Z Z13 := zC_u zC_r hZ13 (zcl_2w (by omega) rfl)
        intro μ9 e9
        replace e9 := e9.trans (zm_wI (Z := Z) (ν := ν) hZ13 (show ((0 : Nat) : Int) = 0 from rfl) (show ((0 : Nat) : Int) = 0 from rfl) (i3I (y := (211 + 20 * a1)) (i3A (i3A (show (200 : Int32) = i3 200 from rfl) (i3M (show (20 : Int32) = i3 20 from rfl) (rfl : i3 a1 = i3 a1))) (show (11 : Int32) = i3 11 from rfl)) (by omega) (by omega) (by omega)) (rfl : i3 a2 = i3 a2))
        subst e9
        exact zlV hP ⟨hZ13I, hZ13K, hZ13U⟩
      · replace hP := zE_n hP h12
        refine wz_br (i3L (show (5 : Int32) = i3 5 from rfl) (rfl : i3 a2 = i3 a2) (by omega) (by omega) (by omega) (by omega)) (fun h14 => ?_) (fun h14 => ?_)
        · replace hP := zE_p hP h14
          refine wz_i0 (i3O (n := 4400) (i3A (i3A (show (200 : Int32) = i3 200 from rfl) (i3M (show (20 : Int32) = i3 20 from rfl) (rfl : i3 a1 = i3 a1))) (show (11 : Int32) = i3 11 from rfl)) (by omega) (by omega) (by omega)) ?_
          obtain ⟨Z15, hZ15⟩ := zx (zu Z 2 0 0 (211 + 20 * a1) a2)
          replace hP := zl_e hP hZ15
          have hZ15I := zM_u2 hZ hZ15 (lo := -1) (hi := 6) (zs_200_11 (x := a1) (by omega) (by omega) (by omega)) (by omega) ⟨by decide, by decide⟩ (by simp only [zsp]; omega)
          have hZ15U : zU [] Z Z15 := zU_u zU_r hZ15 (Or.inl rfl)
          have hZ15K : zC [2] Z Z15 := zC_u zC_r hZ15 (zcl_2w (by omega) rfl)
          intro μ9 e9
          replace e9 := e9.trans (zm_wI (Z := Z) (ν := ν) hZ15 (show ((0 : Nat) : Int) = 0 from rfl) (show ((0 : Nat) : Int) = 0 from rfl) (i3I (y := (211 + 20 * a1)) (i3A (i3A (show (200 : Int32) = i3 200 from rfl) (i3M (show (20 : Int32) = i3 20 from rfl) (rfl : i3 a1 = i3 a1))) (show (11 : Int32) = i3 11 from rfl)) (by omega) (by omega) (by omega)) (rfl : i3 a2 = i3 a2))
          subst e9
          exact zlV hP ⟨hZ15I, hZ15K, hZ15U⟩
        · replace hP := zE_n hP h14
          refine wz_i0 (i3O (n := 4400) (i3A (i3A (show (1210 : Int32) = i3 1210 from rfl) (i3M (show (12 : Int32) = i3 12 from rfl) (rfl : i3 a2 = i3 a2))) (show (6 : Int32) = i3 6 from rfl)) (by omega) (by omega) (by omega)) ?_
          refine wz_i0 (i3O (n := 4400) (i3A (i3A (show (1210 : Int32) = i3 1210 from rfl) (i3M (show (12 : Int32) = i3 12 from rfl) (rfl : i3 a2 = i3 a2))) (show (6 : Int32) = i3 6 from rfl)) (by omega) (by omega) (by omega)) ?_
          have r16 := zM_f hZ 2 0 0 (1216 + 12 * a2)
          have r17 := w3_r ((Z 2 0 0 (1216 + 12 * a2)) + 1)
          obtain ⟨Z18, hZ18⟩ := zx (zu Z 2 0 0 (1216 + 12 * a2) (w3 ((Z 2 0 0 (1216 + 12 * a2)) + 1)))
          replace hP := zl_e hP hZ18
          have hZ18I := zM_u2 hZ hZ18 (lo := -2147483648) (hi := 2147483647) (zs_1210_6 (x := a2) (by omega) (by omega) (by omega)) (by omega) ⟨by decide, by decide⟩ (by simp only [zsp]; omega)
          have hZ18U : zU [] Z Z18 := zU_u zU_r hZ18 (Or.inl rfl)
          have hZ18K : zC [2] Z Z18 := zC_u zC_r hZ18 (zcl_2w (by omega) rfl)
          intro μ9 e9
          replace e9 := e9.trans (zm_wI (Z := Z) (ν := ν) hZ18 (show ((0 : Nat) : Int) = 0 from rfl) (show ((0 : Nat) : Int) = 0 from rfl) (i3I (y := (1216 + 12 * a2)) (i3A (i3A (show (1210 : Int32) = i3 1210 from rfl) (i3M (show (12 : Int32) = i3 12 from rfl) (rfl : i3 a2 = i3 a2))) (show (6 : Int32) = i3 6 from rfl)) (by omega) (by omega) (by omega)) (i3W (i3A (zm_rd (Z := Z) (ν := ν) (k := 2) (show ((0 : Nat) : Int) = 0 from rfl) (show ((0 : Nat) : Int) = 0 from rfl) (i3I (y := (1216 + 12 * a2)) (i3A (i3A (show (1210 : Int32) = i3 1210 from rfl) (i3M (show (12 : Int32) = i3 12 from rfl) (rfl : i3 a2 = i3 a2))) (show (6 : Int32) = i3 6 from rfl)) (by omega) (by omega) (by omega))) (show (1 : Int32) = i3 1 from rfl))))
          subst e9
          refine wz_i0 (i3O (n := 4400) (i3A (i3A (show (200 : Int32) = i3 200 from rfl) (i3M (show (20 : Int32) = i3 20 from rfl) (rfl : i3 a1 = i3 a1))) (show (11 : Int32) = i3 11 from rfl)) (by omega) (by omega) (by omega)) ?_
          obtain ⟨Z19, hZ19⟩ := zx (zu Z18 2 0 0 (211 + 20 * a1) a2)
          replace hP := zl_e hP hZ19
          have hZ19I := zM_u2 hZ18I hZ19 (lo := -1) (hi := 6) (zs_200_11 (x := a1) (by omega) (by omega) (by omega)) (by omega) ⟨by decide, by decide⟩ (by simp only [zsp]; omega)
          have hZ19U : zU [] Z Z19 := zU_u hZ18U hZ19 (Or.inl rfl)
          have hZ19K : zC [2] Z Z19 := zC_u hZ18K hZ19 (zcl_2w (by omega) rfl)
          intro μ9 e9
          replace e9 := e9.trans (zm_wI (Z := Z18) (ν := ν) hZ19 (show ((0 : Nat) : Int) = 0 from rfl) (show ((0 : Nat) : Int) = 0 from rfl) (i3I (y := (211 + 20 * a1)) (i3A (i3A (show (200 : Int32) = i3 200 from rfl) (i3M (show (20 : Int32) = i3 20 from rfl) (rfl : i3 a1 = i3 a1))) (show (11 : Int32) = i3 11 from rfl)) (by omega) (by omega) (by omega)) (rfl : i3 a2 = i3 a2))
          subst e9
          exact zlV hP ⟨hZ19I, hZ19K, hZ19U⟩
    · replace hP := zE_n hP h11
      refine wz_i0 (i3O (n := 4400) (i3A (i3A (show (1210 : Int32) = i3 1210 from rfl) (i3M (show (12 : Int32) = i3 12 from rfl) (zm_rd (Z := Z) (ν := ν) (k := 2) (show ((0 : Nat) : Int) = 0 from rfl) (show ((0 : Nat) : Int) = 0 from rfl) (i3I (y := (211 + 20 * a1)) (i3A (i3A (show (200 : Int32) = i3 200 from rfl) (i3M (show (20 : Int32) = i3 20 from rfl) (rfl : i3 a1 = i3 a1))) (show (11 : Int32) = i3 11 from rfl)) (by omega) (by omega) (by omega))))) (show (6 : Int32) = i3 6 from rfl)) (by omega) (by omega) (by omega)) ?_
      refine wz_i0 (i3O (n := 4400) (i3A (i3A (show (1210 : Int32) = i3 1210 from rfl) (i3M (show (12 : Int32) = i3 12 from rfl) (zm_rd (Z := Z) (ν := ν) (k := 2) (show ((0 : Nat) : Int) = 0 from rfl) (show ((0 : Nat) : Int) = 0 from rfl) (i3I (y := (211 + 20 * a1)) (i3A (i3A (show (200 : Int32) = i3 200 from rfl) (i3M (show (20 : Int32) = i3 20 from rfl) (rfl : i3 a1 = i3 a1))) (show (11 : Int32) = i3 11 from rfl)) (by omega) (by omega) (by omega))))) (show (6 : Int32) = i3 6 from rfl)) (by omega) (by omega) (by omega)) ?_
      have r20 := zM_f hZ 2 0 0 (1216 + 12 * (Z 2 0 0 (211 + 20 * a1)))
      have r21 := w3_r ((Z 2 0 0 (1216 + 12 * (Z 2 0 0 (211 + 20 * a1)))) + 1)
      obtain ⟨Z22, hZ22⟩ := zx (zu Z 2 0 0 (1216 + 12 * (Z 2 0 0 (211 + 20 * a1))) (w3 ((Z 2 0 0 (1216 + 12 * (Z 2 0 0 (211 + 20 * a1)))) + 1)))
      replace hP := zl_e hP hZ22
      have hZ22I := zM_u2 hZ hZ22 (lo := -2147483648) (hi := 2147483647) (zs_1210_6 (x := (Z 2 0 0 (211 + 20 * a1))) (by omega) (by omega) (by omega)) (by omega) ⟨by decide, by decide⟩ (by simp only [zsp]; omega)
      have hZ22U : zU [] Z Z22 := zU_u zU_r hZ22 (Or.inl rfl)
      have hZ22K : zC [2] Z Z22 := zC_u zC_r hZ22 (zcl_2w (by omega) rfl)
      intro μ9 e9
      replace e9 := e9.trans (zm_wI (Z := Z) (ν := ν) hZ22 (show ((0 : Nat) : Int) = 0 from rfl) (show ((0 : Nat) : Int) = 0 from rfl) (i3I (y := (1216 + 12 * (Z 2 0 0 (211 + 20 * a1)))) (i3A (i3A (show (1210 : Int32) = i3 1210 from rfl) (i3M (show (12 : Int32) = i3 12 from rfl) (zm_rd (Z := Z) (ν := ν) (k := 2) (show ((0 : Nat) : Int) = 0 from rfl) (show ((0 : Nat) : Int) = 0 from rfl) (i3I (y := (211 + 20 * a1)) (i3A (i3A (show (200 : Int32) = i3 200 from rfl) (i3M (show (20 : Int32) = i3 20 from rfl) (rfl : i3 a1 = i3 a1))) (show (11 : Int32) = i3 11 from rfl)) (by omega) (by omega) (by omega))))) (show (6 : Int32) = i3 6 from rfl)) (by omega) (by omega) (by omega)) (i3W (i3A (zm_rd (Z := Z) (ν := ν) (k := 2) (show ((0 : Nat) : Int) = 0 from rfl) (show ((0 : Nat) : Int) = 0 from rfl) (i3I (y := (1216 + 12 * (Z 2 0 0 (211 + 20 * a1)))) (i3A (i3A (show (1210 : Int32) = i3 1210 from rfl) (i3M (show (12 : Int32) = i3 12 from rfl) (zm_rd (Z := Z) (ν := ν) (k := 2) (show ((0 : Nat) : Int) = 0 from rfl) (show ((0 : Nat) : Int) = 0 from rfl) (i3I (y := (211 + 20 * a1)) (i3A (i3A (show (200 : Int32) = i3 200 from rfl) (i3M (show (20 : Int32) = i3 20 from rfl) (rfl : i3 a1 = i3 a1))) (show (11 : Int32) = i3 11 from rfl)) (by omega) (by omega) (by omega))))) (show (6 : Int32) = i3 6 from rfl)) (by omega) (by omega) (by omega))) (show (1 : Int32) = i3 1 from rfl))))
      subst e9
      refine wz_br (i3L (rfl : i3 a2 = i3 a2) (show (0 : Int32) = i3 0 from rfl) (by omega) (by omega) (by omega) (by omega)) (fun h23 => ?_) (fun h23 => ?_)
      · replace hP := zE_p hP h23
        refine wz_i0 (i3O (n := 4400) (i3A (i3A (show (200 : Int32) = i3 200 from rfl) (i3M (show (20 : Int32) = i3 20 from rfl) (rfl : i3 a1 = i3 a1))) (show (11 : Int32) = i3 11 from rfl)) (by omega) (by omega) (by omega)) ?_
        obtain ⟨Z24, hZ24⟩ := zx (zu Z22 2 0 0 (211 + 20 * a1) a2)
        replace hP := zl_e hP hZ24
        have hZ24I := zM_u2 hZ22I hZ24 (lo := -1) (hi := 6) (zs_200_11 (x := a1) (by omega) (by omega) (by omega)) (by omega) ⟨by decide, by decide⟩ (by simp only [zsp]; omega)
        have hZ24U : zU [] Z Z24 := zU_u hZ22U hZ24 (Or.inl rfl)
        have hZ24K : zC [2] Z Z24 := zC_u hZ22K hZ24 (zcl_2w (by omega) rfl)
        intro μ9 e9
        replace e9 := e9.trans (zm_wI (Z := Z22) (ν := ν) hZ24 (show ((0 : Nat) : Int) = 0 from rfl) (show ((0 : Nat) : Int) = 0 from rfl) (i3I (y := (211 + 20 * a1)) (i3A (i3A (show (200 : Int32) = i3 200 from rfl) (i3M (show (20 : Int32) = i3 20 from rfl) (rfl : i3 a1 = i3 a1))) (show (11 : Int32) = i3 11 from rfl)) (by omega) (by omega) (by omega)) (rfl : i3 a2 = i3 a2))
        subst e9
        exact zlV hP ⟨hZ24I, hZ24K, hZ24U⟩
      · replace hP := zE_n hP h23
        refine wz_br (i3L (show (5 : Int32) = i3 5 from rfl) (rfl : i3 a2 = i3 a2) (by omega) (by omega) (by omega) (by omega)) (fun h25 => ?_) (fun h25 => ?_)
        · replace hP := zE_p hP h25
          refine wz_i0 (i3O (n := 4400) (i3A (i3A (show (200 : Int32) = i3 200 from rfl) (i3M (show (20 : Int32) = i3 20 from rfl) (rfl : i3 a1 = i3 a1))) (show (11 : Int32) = i3 11 from rfl)) (by omega) (by omega) (by omega)) ?_
          obtain ⟨Z26, hZ26⟩ := zx (zu Z22 2 0 0 (211 + 20 * a1) a2)
          replace hP := zl_e hP hZ26
          have hZ26I := zM_u2 hZ22I hZ26 (lo := -1) (hi := 6) (zs_200_11 (x := a1) (by omega) (by omega) (by omega)) (by omega) ⟨by decide, by decide⟩ (by simp only [zsp]; omega)
          have hZ26U : zU [] Z Z26 := zU_u hZ22U hZ26 (Or.inl rfl)
          have hZ26K : zC [2] Z Z26 := zC_u hZ22K hZ26 (zcl_2w (by omega) rfl)
          intro μ9 e9
          replace e9 := e9.trans (zm_wI (Z := Z22) (ν := ν) hZ26 (show ((0 : Nat) : Int) = 0 from rfl) (show ((0 : Nat) : Int) = 0 from rfl) (i3I (y := (211 + 20 * a1)) (i3A (i3A (show (200 : Int32) = i3 200 from rfl) (i3M (show (20 : Int32) = i3 20 from rfl) (rfl : i3 a1 = i3 a1))) (show (11 : Int32) = i3 11 from rfl)) (by omega) (by omega) (by omega)) (rfl : i3 a2 = i3 a2))
          subst e9
          exact zlV hP ⟨hZ26I, hZ26K, hZ26U⟩
        · replace hP := zE_n hP h25
          refine wz_i0 (i3O (n := 4400) (i3A (i3A (show (1210 : Int32) = i3 1210 from rfl) (i3M (show (12 : Int32) = i3 12 from rfl) (rfl : i3 a2 = i3 a2))) (show (6 : Int32) = i3 6 from rfl)) (by omega) (by omega) (by omega)) ?_
          refine wz_i0 (i3O (n := 4400) (i3A (i3A (show (1210 : Int32) = i3 1210 from rfl) (i3M (show (12 : Int32) = i3 12 from rfl) (rfl : i3 a2 = i3 a2))) (show (6 : Int32) = i3 6 from rfl)) (by omega) (by omega) (by omega)) ?_
          have r27 := zM_f hZ22I 2 0 0 (1216 + 12 * a2)
          have r28 := w3_r ((Z22 2 0 0 (1216 + 12 * a2)) + 1)
          obtain ⟨Z29, hZ29⟩ := zx (zu Z22 2 0 0 (1216 + 12 * a2) (w3 ((Z22 2 0 0 (1216 + 12 * a2)) + 1)))
          replace hP := zl_e hP hZ29
          have hZ29I := zM_u2 hZ22I hZ29 (lo := -2147483648) (hi := 2147483647) (zs_1210_6 (x := a2) (by omega) (by omega) (by omega)) (by omega) ⟨by decide, by decide⟩ (by simp only [zsp]; omega)
          have hZ29U : zU [] Z Z29 := zU_u hZ22U hZ29 (Or.inl rfl)
          have hZ29K : zC [2] Z Z29 := zC_u hZ22K hZ29 (zcl_2w (by omega) rfl)
          intro μ9 e9
          replace e9 := e9.trans (zm_wI (Z := Z22) (ν := ν) hZ29 (show ((0 : Nat) : Int) = 0 from rfl) (show ((0 : Nat) : Int) = 0 from rfl) (i3I (y := (1216 + 12 * a2)) (i3A (i3A (show (1210 : Int32) = i3 1210 from rfl) (i3M (show (12 : Int32) = i3 12 from rfl) (rfl : i3 a2 = i3 a2))) (show (6 : Int32) = i3 6 from rfl)) (by omega) (by omega) (by omega)) (i3W (i3A (zm_rd (Z := Z22) (ν := ν) (k := 2) (show ((0 : Nat) : Int) = 0 from rfl) (show ((0 : Nat) : Int) = 0 from rfl) (i3I (y := (1216 + 12 * a2)) (i3A (i3A (show (1210 : Int32) = i3 1210 from rfl) (i3M (show (12 : Int32) = i3 12 from rfl) (rfl : i3 a2 = i3 a2))) (show (6 : Int32) = i3 6 from rfl)) (by omega) (by omega) (by omega))) (show (1 : Int32) = i3 1 from rfl))))
          subst e9
          refine wz_i0 (i3O (n := 4400) (i3A (i3A (show (200 : Int32) = i3 200 from rfl) (i3M (show (20 : Int32) = i3 20 from rfl) (rfl : i3 a1 = i3 a1))) (show (11 : Int32) = i3 11 from rfl)) (by omega) (by omega) (by omega)) ?_
          obtain ⟨Z30, hZ30⟩ := zx (zu Z29 2 0 0 (211 + 20 * a1) a2)
          replace hP := zl_e hP hZ30
          have hZ30I := zM_u2 hZ29I hZ30 (lo := -1) (hi := 6) (zs_200_11 (x := a1) (by omega) (by omega) (by omega)) (by omega) ⟨by decide, by decide⟩ (by simp only [zsp]; omega)
          have hZ30U : zU [] Z Z30 := zU_u hZ29U hZ30 (Or.inl rfl)
          have hZ30K : zC [2] Z Z30 := zC_u hZ29K hZ30 (zcl_2w (by omega) rfl)
          intro μ9 e9
          replace e9 := e9.trans (zm_wI (Z := Z29) (ν := ν) hZ30 (show ((0 : Nat) : Int) = 0 from rfl) (show ((0 : Nat) : Int) = 0 from rfl) (i3I (y := (211 + 20 * a1)) (i3A (i3A (show (200 : Int32) = i3 200 from rfl) (i3M (show (20 : Int32) = i3 20 from rfl) (rfl : i3 a1 = i3 a1))) (show (11 : Int32) = i3 11 from rfl)) (by omega) (by omega) (by omega)) (rfl : i3 a2 = i3 a2))
          subst e9
          exact zlV hP ⟨hZ30I, hZ30K, hZ30U⟩
/- yX12_rStanding -/
def zl_488_1 (x1 : Int) : Nat → qz_Z → Int → Int → Int × Int
  | 0, Z, x2, x3 => (x2, x3)
  | m + 1, Z, x2, x3 => (if (Z 2 0 0 102) ≤ x3 then (x2, x3) else (if 1 < (Z 2 0 0 (210 + 20 * x3)) then zl_488_1 x1 m Z (x2 + 0) (x3 + 1) else (if (Z 2 0 0 (211 + 20 * x3)) ≠ x1 then zl_488_1 x1 m Z (x2 + 0) (x3 + 1) else zl_488_1 x1 m Z (x2 + 1) (x3 + 1))))
theorem sl_488_1 {s : zSM} {Z : qz_Z} {ν : qz_N} (hZ : zM s Z) (hM : s.2 + 0 ≤ 1000000000) {x1 : Int} (gx1 : -1 ≤ x1 ∧ x1 ≤ 2147483647) {x2 : Int} (gx2 : 0 ≤ x2 ∧ x2 ≤ 48) {x3 : Int} (gx3 : 0 ≤ x3 ∧ x3 ≤ 48) (gr0 : x2 ≤ x3) {k : wz_K} {R : wz_R} {L : qz_L} (hL : qz_fg [true, true, true, true] L = [some (.inr (.inr (some (1, 0, 0)))), some (.inl (i3 x1)), some (.inl (i3 x2)), some (.inl (i3 x3))]) {T : Int × Int} (hP : zE T (zl_488_1 x1 ((48 - x3).toNat + 1) Z x2 x3)) (hk : ∀ (L9 : qz_L) (yx2 yx3 : Int), qz_fg [false, false, true, false] L9 = [none, none, some (.inl (i3 yx2)), none] → (0 ≤ yx2 ∧ yx2 ≤ 48) → (0 ≤ yx3 ∧ yx3 ≤ 48) → (yx2 ≤ yx3) → zE T ((yx2, yx3)) → k 0 (L9, [], zm Z ν)) : wz_loop qb_488_1 65536 k R (L, [], zm Z ν) := by
  refine wz_lp sb_488_1 (fun m x => ∃ x2 : Int, ∃ x3 : Int, qz_fg [true, true, true, true] x.1 = [some (.inr (.inr (some (1, 0, 0)))), some (.inl (i3 x1)), some (.inl (i3 x2)), some (.inl (i3 x3))] ∧ x.2 = ([], zm Z ν) ∧ m = (48 - x3).toNat ∧ (0 ≤ x2 ∧ x2 ≤ 48) ∧ (0 ≤ x3 ∧ x3 ≤ 48) ∧ (x2 ≤ x3) ∧ zE T (zl_488_1 x1 (m + 1) Z x2 x3)) ?_ 65536 ((48 - x3).toNat) _ (by omega) ⟨x2, x3, hL, rfl, rfl, gx2, gx3, gr0, hP⟩
  clear hP gr0 gx2 gx3 hL
  clear x2 x3
  rintro m ⟨L, st, μ⟩ ⟨x2, x3, hL, hx, hm, gx2, gx3, gr0, hP⟩
  cases hx
  refine fb_488_1 (i3 x1) (i3 x2) (i3 x3) _ _ _ _ hL ?_
  have r1 := zM_k hZ 2 0 0 102 (lo := 0) (hi := 48) (by decide) rfl
  refine wz_br (i3Le (zm_rd (Z := Z) (ν := ν) (k := 2) (show ((0 : Nat) : Int) = 0 from rfl) (show ((0 : Nat) : Int) = 0 from rfl) (show ((102 : Nat) : Int) = 102 from rfl)) (rfl : i3 x3 = i3 x3) (by omega) (by omega) (by omega) (by omega)) (fun h2 => ?_) (fun h2 => ?_)
  · replace hP := zE_p hP h2
    exact hk _ _ _ (zconso rfl (zconso rfl (zconso (zvo (rfl : i3 x2 = i3 x2)) (zconso rfl rfl))))  (by omega) (by omega) (by omega) hP
  · replace hP := zE_n hP h2
    refine wz_i0 (i3O (n := 4400) (i3A (i3A (show (200 : Int32) = i3 200 from rfl) (i3M (show (20 : Int32) = i3 20 from rfl) (rfl : i3 x3 = i3 x3))) (show (10 : Int32) = i3 10 from rfl)) (by omega) (by omega) (by omega)) ?_
    have r3 := zM_k hZ 2 0 0 (210 + 20 * x3) (lo := 0) (hi := 4) (by decide) (zs_200_10 (x := x3) (by omega) (by omega) (by omega))
    refine wz_br (i3L (show (1 : Int32) = i3 1 from rfl) (zm_rd (Z := Z) (ν := ν) (k := 2) (show ((0 : Nat) : Int) = 0 from rfl) (show ((0 : Nat) : Int) = 0 from rfl) (i3I (y := (210 + 20 * x3)) (i3A (i3A (show (200 : Int32) = i3 200 from rfl) (i3M (show (20 : Int32) = i3 20 from rfl) (rfl : i3 x3 = i3 x3))) (show (10 : Int32) = i3 10 from rfl)) (by omega) (by omega) (by omega))) (by omega) (by omega) (by omega) (by omega)) (fun h4 => ?_) (fun h4 => ?_)
    · replace hP := zE_p hP h4
      obtain ⟨m2, rfl⟩ : ∃ m2, m = m2 + 1 := ⟨m - 1, by omega⟩
      exact wz_k1 ⟨m2, by omega, (x2 + 0), (x3 + 1), (zconso rfl (zconso (zvo (rfl : i3 x1 = i3 x1)) (zconso (zvo (i3A (rfl : i3 x2 = i3 x2) (show (0 : Int32) = i3 0 from rfl))) (zconso (zvo (i3A (rfl : i3 x3 = i3 x3) (show (1 : Int32) = i3 1 from rfl))) rfl)))), rfl,  by omega, by omega, by omega, by omega,  hP⟩
    · replace hP := zE_n hP h4
      refine wz_i0 (i3O (n := 4400) (i3A (i3A (show (200 : Int32) = i3 200 from rfl) (i3M (show (20 : Int32) = i3 20 from rfl) (rfl : i3 x3 = i3 x3))) (show (11 : Int32) = i3 11 from rfl)) (by omega) (by omega) (by omega)) ?_
      have r5 := zM_k hZ 2 0 0 (211 + 20 * x3) (lo := -1) (hi := 6) (by decide) (zs_200_11 (x := x3) (by omega) (by omega) (by omega))
      refine wz_br (i3NE (zm_rd (Z := Z) (ν := ν) (k := 2) (show ((0 : Nat) : Int) = 0 from rfl) (show ((0 : Nat) : Int) = 0 from rfl) (i3I (y := (211 + 20 * x3)) (i3A (i3A (show (200 : Int32) = i3 200 from rfl) (i3M (show (20 : Int32) = i3 20 from rfl) (rfl : i3 x3 = i3 x3))) (show (11 : Int32) = i3 11 from rfl)) (by omega) (by omega) (by omega))) (rfl : i3 x1 = i3 x1) (by omega) (by omega) (by omega) (by omega)) (fun h6 => ?_) (fun h6 => ?_)
      · replace hP := zE_p hP h6
        obtain ⟨m2, rfl⟩ : ∃ m2, m = m2 + 1 := ⟨m - 1, by omega⟩
        exact wz_k1 ⟨m2, by omega, (x2 + 0), (x3 + 1), (zconso rfl (zconso (zvo (rfl : i3 x1 = i3 x1)) (zconso (zvo (i3A (rfl : i3 x2 = i3 x2) (show (0 : Int32) = i3 0 from rfl))) (zconso (zvo (i3A (rfl : i3 x3 = i3 x3) (show (1 : Int32) = i3 1 from rfl))) rfl)))), rfl,  by omega, by omega, by omega, by omega,  hP⟩
      · replace hP := zE_n hP h6
        obtain ⟨m2, rfl⟩ : ∃ m2, m = m2 + 1 := ⟨m - 1, by omega⟩
        exact wz_k1 ⟨m2, by omega, (x2 + 1), (x3 + 1), (zconso rfl (zconso (zvo (rfl : i3 x1 = i3 x1)) (zconso (zvo (i3A (rfl : i3 x2 = i3 x2) (show (1 : Int32) = i3 1 from rfl))) (zconso (zvo (i3A (rfl : i3 x3 = i3 x3) (show (1 : Int32) = i3 1 from rfl))) rfl)))), rfl,  by omega, by omega, by omega, by omega,  hP⟩
/- yX12_rStanding -/
def zf_488 (Z : qz_Z) (a1 : Int) : Int := (zlet2 (zl_488_1 a1 49 Z 0 0) (fun y1 y2 => y1))
theorem sp_488 {s : zSM} {Z : qz_Z} {ν : qz_N} (hZ : zM s Z) {a1 : Int} (ga1 : -1 ≤ a1 ∧ a1 ≤ 2147483647) (hM : s.2 + 0 ≤ 1000000000) : ∃ P : Int, P = zf_488 Z a1 ∧ (qf_488 [.inr (.inr (some (1, 0, 0))), .inl (i3 a1)] (zm Z ν) = some (zm Z ν, .inl (some (.inl (i3 P)))) ∧ 0 ≤ P ∧ P ≤ 48) := by
  obtain ⟨P, hP⟩ := zx (zf_488 Z a1)
  refine zc_R (Q := fun P => 0 ≤ P ∧ P ≤ 48) hP (fw_488 (i3 a1) _ _ ?_)
  replace hP : zE P (zf_488 Z a1) := hP
  unfold zf_488 at hP
  refine sl_488_1 (ν := ν) hZ (zbh (c := 0) (k := 0) hM (Nat.le_of_ble_eq_true rfl)) (x1 := a1) (by omega) (x2 := 0) (by omega) (x3 := 0) (by omega) (by omega) (zconso rfl (zconso (zvo (rfl : i3 a1 = i3 a1)) (zconso (zvo (show (0 : Int32) = i3 0 from rfl)) (zconso (zvo (show (0 : Int32) = i3 0 from rfl)) rfl)))) rfl ?_
  intro L3 y1 y2 hL3 gy1 gy2 gL3_0 q9
  replace hP := zl_e2 hP (Eq.symm q9)
  clear q9
  refine fc_488_2 (i3 y1) _ _ _ _ hL3 ?_
  exact zlR hP (rfl : i3 y1 = i3 y1) ⟨by omega, by omega⟩
