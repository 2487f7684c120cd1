/- yX12_rWarms -/
def zf_490 (Z : qz_Z) (a1 : Int) : qz_Z := (if (Z 2 0 0 (1300 + ((Z 2 0 0 0) / 24))) ≤ (Z 2 0 0 (1215 + 12 * a1)) then (if (w3 ((Z 2 0 0 (1215 + 12 * a1)) - (w3 ((Z 2 0 0 (1212 + 12 * a1)) + (Z 2 0 0 (1216 + 12 * a1)))))) ≤ (Z 2 0 0 (1300 + ((Z 2 0 0 0) / 24))) then (if (Z 2 0 0 (1213 + 12 * a1)) ≤ (Z 2 0 0 (1300 + ((Z 2 0 0 0) / 24))) then (if ((Z 2 0 0 (1300 + ((Z 2 0 0 0) / 24))) - (Z 2 0 0 (1211 + 12 * a1))) ≤ (Z 2 0 0 (1213 + 12 * a1)) then (zlet (zu Z 2 0 0 (1215 + 12 * a1) (Z 2 0 0 (1213 + 12 * a1))) (fun Z14 => (if (Z 2 0 0 (1213 + 12 * a1)) = (Z 2 0 0 (1300 + ((Z 2 0 0 0) / 24))) then (zlet (zu Z14 2 0 0 (1217 + 12 * a1) ((Z14 2 0 0 (1217 + 12 * a1)) + 0)) (fun Z17 => (if (Z 2 0 0 (1213 + 12 * a1)) = (Z 2 0 0 (1300 + ((Z 2 0 0 0) / 24))) then (zlet (zu Z17 2 0 0 (1218 + 12 * a1) ((Z17 2 0 0 (1218 + 12 * a1)) + 0)) (fun Z20 => (zlet (zu Z20 2 0 0 (1216 + 12 * a1) 0) (fun Z21 => Z21)))) else (zlet (zu Z17 2 0 0 (1218 + 12 * a1) (w3 ((Z17 2 0 0 (1218 + 12 * a1)) + 1))) (fun Z24 => (zlet (zu Z24 2 0 0 (1216 + 12 * a1) 0) (fun Z25 => Z25))))))) else (zlet (zu Z14 2 0 0 (1217 + 12 * a1) (w3 ((Z14 2 0 0 (1217 + 12 * a1)) + 1))) (fun Z28 => (if (Z 2 0 0 (1213 + 12 * a1)) = (Z 2 0 0 (1300 + ((Z 2 0 0 0) / 24))) then (zlet (zu Z28 2 0 0 (1218 + 12 * a1) ((Z28 2 0 0 (1218 + 12 * a1)) + 0)) (fun Z31 => (zlet (zu Z31 2 0 0 (1216 + 12 * a1) 0) (fun Z32 => Z32)))) else (zlet (zu Z28 2 0 0 (1218 + 12 * a1) (w3 ((Z28 2 0 0 (1218 + 12 * a1)) + 1))) (fun Z35 => (zlet (zu Z35 2 0 0 (1216 + 12 * a1) 0) (fun Z36 => Z36)))))))))) else (zlet (zu Z 2 0 0 (1215 + 12 * a1) ((Z 2 0 0 (1300 + ((Z 2 0 0 0) / 24))) - (Z 2 0 0 (1211 + 12 * a1)))) (fun Z37 => (if ((Z 2 0 0 (1300 + ((Z 2 0 0 0) / 24))) - (Z 2 0 0 (1211 + 12 * a1))) = (Z 2 0 0 (1300 + ((Z 2 0 0 0) / 24))) then (zlet (zu Z37 2 0 0 (1217 + 12 * a1) ((Z37 2 0 0 (1217 + 12 * a1)) + 0)) (fun Z40 => (zlet (zu Z40 2 0 0 (1218 + 12 * a1) ((Z40 2 0 0 (1218 + 12 * a1)) + 0)) (fun Z42 => (zlet (zu Z42 2 0 0 (1216 + 12 * a1) 0) (fun Z43 => Z43)))))) else (zlet (zu Z37 2 0 0 (1217 + 12 * a1) (w3 ((Z37 2 0 0 (1217 + 12 * a1)) + 1))) (fun Z46 => (zlet (zu Z46 2 0 0 (1218 + 12 * a1) (w3 ((Z46 2 0 0 (1218 + 12 * a1)) + 1))) (fun Z49 => (zlet (zu Z49 2 0 0 (1216 + 12 * a1) 0) (fun Z50 => Z50)))))))))) else (if (Z 2 0 0 (1213 + 12 * a1)) ≤ ((Z 2 0 0 (1300 + ((Z 2 0 0 0) / 24))) + (Z 2 0 0 (1211 + 12 * a1))) then (zlet (zu Z 2 0 0 (1215 + 12 * a1) (Z 2 0 0 (1213 + 12 * a1))) (fun Z53 => (if (Z 2 0 0 (1213 + 12 * a1)) = (Z 2 0 0 (1300 + ((Z 2 0 0 0) / 24))) then (zlet (zu Z53 2 0 0 (1217 + 12 * a1) ((Z53 2 0 0 (1217 + 12 * a1)) + 0)) (fun Z56 => (if (Z 2 0 0 (1213 + 12 * a1)) = (Z 2 0 0 (1300 + ((Z 2 0 0 0) / 24))) then (zlet (zu Z56 2 0 0 (1218 + 12 * a1) ((Z56 2 0 0 (1218 + 12 * a1)) + 0)) (fun Z59 => (zlet (zu Z59 2 0 0 (1216 + 12 * a1) 0) (fun Z60 => Z60)))) else (zlet (zu Z56 2 0 0 (1218 + 12 * a1) (w3 ((Z56 2 0 0 (1218 + 12 * a1)) + 1))) (fun Z63 => (zlet (zu Z63 2 0 0 (1216 + 12 * a1) 0) (fun Z64 => Z64))))))) else (zlet (zu Z53 2 0 0 (1217 + 12 * a1) (w3 ((Z53 2 0 0 (1217 + 12 * a1)) + 1))) (fun Z67 => (if (Z 2 0 0 (1213 + 12 * a1)) = (Z 2 0 0 (1300 + ((Z 2 0 0 0) / 24))) then (zlet (zu Z67 2 0 0 (1218 + 12 * a1) ((Z67 2 0 0 (1218 + 12 * a1)) + 0)) (fun Z70 => (zlet (zu Z70 2 0 0 (1216 + 12 * a1) 0) (fun Z71 => Z71)))) else (zlet (zu Z67 2 0 0 (1218 + 12 * a1) (w3 ((Z67 2 0 0 (1218 + 12 * a1)) + 1))) (fun Z74 => (zlet (zu Z74 2 0 0 (1216 + 12 * a1) 0) (fun Z75 => Z75)))))))))) else (zlet (zu Z 2 0 0 (1215 + 12 * a1) ((Z 2 0 0 (1300 + ((Z 2 0 0 0) / 24))) + (Z 2 0 0 (1211 + 12 * a1)))) (fun Z76 => (if ((Z 2 0 0 (1300 + ((Z 2 0 0 0) / 24))) + (Z 2 0 0 (1211 + 12 * a1))) = (Z 2 0 0 (1300 + ((Z 2 0 0 0) / 24))) then (zlet (zu Z76 2 0 0 (1217 + 12 * a1) ((Z76 2 0 0 (1217 + 12 * a1)) + 0)) (fun Z79 => (zlet (zu Z79 2 0 0 (1218 + 12 * a1) ((Z79 2 0 0 (1218 + 12 * a1)) + 0)) (fun Z81 => (zlet (zu Z81 2 0 0 (1216 + 12 * a1) 0) (fun Z82 => Z82)))))) else (zlet (zu Z76 2 0 0 (1217 + 12 * a1) (w3 ((Z76 2 0 0 (1217 + 12 * a1)) + 1))) (fun Z85 => (zlet (zu Z85 2 0 0 (1218 + 12 * a1) (w3 ((Z85 2 0 0 (1218 + 12 * a1)) + 1))) (fun Z88 => (zlet (zu Z88 2 0 0 (1216 + 12 * a1) 0) (fun Z89 => Z89))))))))))) else (if (Z 2 0 0 (1213 + 12 * a1)) ≤ (w3 ((Z 2 0 0 (1215 + 12 * a1)) - (w3 ((Z 2 0 0 (1212 + 12 * a1)) + (Z 2 0 0 (1216 + 12 * a1)))))) then (if ((w3 ((Z 2 0 0 (1215 + 12 * a1)) - (w3 ((Z 2 0 0 (1212 + 12 * a1)) + (Z 2 0 0 (1216 + 12 * a1)))))) - (Z 2 0 0 (1211 + 12 * a1))) ≤ (Z 2 0 0 (1213 + 12 * a1)) then (zlet (zu Z 2 0 0 (1215 + 12 * a1) (Z 2 0 0 (1213 + 12 * a1))) (fun Z94 => (if (Z 2 0 0 (1213 + 12 * a1)) = (w3 ((Z 2 0 0 (1215 + 12 * a1)) - (w3 ((Z 2 0 0 (1212 + 12 * a1)) + (Z 2 0 0 (1216 + 12 * a1)))))) then (zlet (zu Z94 2 0 0 (1217 + 12 * a1) ((Z94 2 0 0 (1217 + 12 * a1)) + 0)) (fun Z97 => (if (Z 2 0 0 (1213 + 12 * a1)) = (w3 ((Z 2 0 0 (1215 + 12 * a1)) - (w3 ((Z 2 0 0 (1212 + 12 * a1)) + (Z 2 0 0 (1216 + 12 * a1)))))) then (zlet (zu Z97 2 0 0 (1218 + 12 * a1) ((Z97 2 0 0 (1218 + 12 * a1)) + 0)) (fun Z100 => (zlet (zu Z100 2 0 0 (1216 + 12 * a1) 0) (fun Z101 => Z101)))) else (zlet (zu Z97 2 0 0 (1218 + 12 * a1) (w3 ((Z97 2 0 0 (1218 + 12 * a1)) + 1))) (fun Z104 => (zlet (zu Z104 2 0 0 (1216 + 12 * a1) 0) (fun Z105 => Z105))))))) else (zlet (zu Z94 2 0 0 (1217 + 12 * a1) (w3 ((Z94 2 0 0 (1217 + 12 * a1)) + 1))) (fun Z108 => (if (Z 2 0 0 (1213 + 12 * a1)) = (w3 ((Z 2 0 0 (1215 + 12 * a1)) - (w3 ((Z 2 0 0 (1212 + 12 * a1)) + (Z 2 0 0 (1216 + 12 * a1)))))) then (zlet (zu Z108 2 0 0 (1218 + 12 * a1) ((Z108 2 0 0 (1218 + 12 * a1)) + 0)) (fun Z111 => (zlet (zu Z111 2 0 0 (1216 + 12 * a1) 0) (fun Z112 => Z112)))) else (zlet (zu Z108 2 0 0 (1218 + 12 * a1) (w3 ((Z108 2 0 0 (1218 + 12 * a1)) + 1))) (fun Z115 => (zlet (zu Z115 2 0 0 (1216 + 12 * a1) 0) (fun Z116 => Z116)))))))))) else (zlet (zu Z 2 0 0 (1215 + 12 * a1) ((w3 ((Z 2 0 0 (1215 + 12 * a1)) - (w3 ((Z 2 0 0 (1212 + 12 * a1)) + (Z 2 0 0 (1216 + 12 * a1)))))) - (Z 2 0 0 (1211 + 12 * a1)))) (fun Z117 => (if ((w3 ((Z 2 0 0 (1215 + 12 * a1)) - (w3 ((Z 2 0 0 (1212 + 12 * a1)) + (Z 2 0 0 (1216 + 12 * a1)))))) - (Z 2 0 0 (1211 + 12 * a1))) = (w3 ((Z 2 0 0 (1215 + 12 * a1)) - (w3 ((Z 2 0 0 (1212 + 12 * a1)) + (Z 2 0 0 (1216 + 12 * a1)))))) then (zlet (zu Z117 2 0 0 (1217 + 12 * a1) ((Z117 2 0 0 (1217 + 12 * a1)) + 0)) (fun Z120 => (zlet (zu Z120 2 0 0 (1218 + 12 * a1) ((Z120 2 0 0 (1218 + 12 * a1)) + 0)) (fun Z122 => (zlet (zu Z122 2 0 0 (1216 + 12 * a1) 0) (fun Z123 => Z123)))))) else (zlet (zu Z117 2 0 0 (1217 + 12 * a1) (w3 ((Z117 2 0 0 (1217 + 12 * a1)) + 1))) (fun Z126 => (zlet (zu Z126 2 0 0 (1218 + 12 * a1) (w3 ((Z126 2 0 0 (1218 + 12 * a1)) + 1))) (fun Z129 => (zlet (zu Z129 2 0 0 (1216 + 12 * a1) 0) (fun Z130 => Z130)))))))))) else (if (Z 2 0 0 (1213 + 12 * a1)) ≤ ((w3 ((Z 2 0 0 (1215 + 12 * a1)) - (w3 ((Z 2 0 0 (1212 + 12 * a1)) + (Z 2 0 0 (1216 + 12 * a1)))))) + (Z 2 0 0 (1211 + 12 * a1))) then (zlet (zu Z 2 0 0 (1215 + 12 * a1) (Z 2 0 0 (1213 + 12 * a1))) (fun Z133 => (if (Z 2 0 0 (1213 + 12 * a1)) = (w3 ((Z 2 0 0 (1215 + 12 * a1)) - (w3 ((Z 2 0 0 (1212 + 12 * a1)) + (Z 2 0 0 (1216 + 12 * a1)))))) then (zlet (zu Z133 2 0 0 (1217 + 12 * a1) ((Z133 2 0 0 (1217 + 12 * a1)) + 0)) (fun Z136 => (if (Z 2 0 0 (1213 + 12 * a1)) = (w3 ((Z 2 0 0 (1215 + 12 * a1)) - (w3 ((Z 2 0 0 (1212 + 12 * a1)) + (Z 2 0 0 (1216 + 12 * a1)))))) then (zlet (zu Z136 2 0 0 (1218 + 12 * a1) ((Z136 2 0 0 (1218 + 12 * a1)) + 0)) (fun Z139 => (zlet (zu Z139 2 0 0 (1216 + 12 * a1) 0) (fun Z140 => Z140)))) else (zlet (zu Z136 2 0 0 (1218 + 12 * a1) (w3 ((Z136 2 0 0 (1218 + 12 * a1)) + 1))) (fun Z143 => (zlet (zu Z143 2 0 0 (1216 + 12 * a1) 0) (fun Z144 => Z144))))))) else (zlet (zu Z133 2 0 0 (1217 + 12 * a1) (w3 ((Z133 2 0 0 (1217 + 12 * a1)) + 1))) (fun Z147 => (if (Z 2 0 0 (1213 + 12 * a1)) = (w3 ((Z 2 0 0 (1215 + 12 * a1)) - (w3 ((Z 2 0 0 (1212 + 12 * a1)) + (Z 2 0 0 (1216 + 12 * a1)))))) then (zlet (zu Z147 2 0 0 (1218 + 12 * a1) ((Z147 2 0 0 (1218 + 12 * a1)) + 0)) (fun Z150 => (zlet (zu Z150 2 0 0 (1216 + 12 * a1) 0) (fun Z151 => Z151)))) else (zlet (zu Z147 2 0 0 (1218 + 12 * a1) (w3 ((Z147 2 0 0 (1218 + 12 * a1)) + 1))) (fun Z154 => (zlet (zu Z154 2 0 0 (1216 + 12 * a1) 0) (fun Z155 => Z155)))))))))) else (zlet (zu Z 2 0 0 (1215 + 12 * a1) ((w3 ((Z 2 0 0 (1215 + 12 * a1)) - (w3 ((Z 2 0 0 (1212 + 12 * a1)) + (Z 2 0 0 (1216 + 12 * a1)))))) + (Z 2 0 0 (1211 + 12 * a1)))) (fun Z156 => (if ((w3 ((Z 2 0 0 (1215 + 12 * a1)) - (w3 ((Z 2 0 0 (1212 + 12 * a1)) + (Z 2 0 0 (1216 + 12 * a1)))))) + (Z 2 0 0 (1211 + 12 * a1))) = (w3 ((Z 2 0 0 (1215 + 12 * a1)) - (w3 ((Z 2 0 0 (1212 + 12 * a1)) + (Z 2 0 0 (1216 + 12 * a1)))))) then (zlet (zu Z156 2 0 0 (1217 + 12 * a1) ((Z156 2 0 0 (1217 + 12 * a1)) + 0)) (fun Z159 => (zlet (zu Z159 2 0 0 (1218 + 12 * a1) ((Z159 2 0 0 (1218 + 12 * a1)) + 0)) (fun Z161 => (zlet (zu Z161 2 0 0 (1216 + 12 * a1) 0) (fun Z162 => Z162)))))) else (zlet (zu Z156 2 0 0 (1217 + 12 * a1) (w3 ((Z156 2 0 0 (1217 + 12 * a1)) + 1))) (fun Z165 => (zlet (zu Z165 2 0 0 (1218 + 12 * a1) (w3 ((Z165 2 0 0 (1218 + 12 * a1)) + 1))) (fun Z168 => (zlet (zu Z168 2 0 0 (1216 + 12 * a1) 0) (fun Z169 => Z169)))))))))))) else (if (Z 2 0 0 (1300 + ((Z 2 0 0 0) / 24))) ≤ (w3 ((Z 2 0 0 (1215 + 12 * a1)) + (w3 ((Z 2 0 0 (1212 + 12 * a1)) + (Z 2 0 0 (1216 + 12 * a1)))))) then (if (Z 2 0 0 (1213 + 12 * a1)) ≤ (Z 2 0 0 (1300 + ((Z 2 0 0 0) / 24))) then (if ((Z 2 0 0 (1300 + ((Z 2 0 0 0) / 24))) - (Z 2 0 0 (1211 + 12 * a1))) ≤ (Z 2 0 0 (1213 + 12 * a1)) then (zlet (zu Z 2 0 0 (1215 + 12 * a1) (Z 2 0 0 (1213 + 12 * a1))) (fun Z179 => (if (Z 2 0 0 (1213 + 12 * a1)) = (Z 2 0 0 (1300 + ((Z 2 0 0 0) / 24))) then (zlet (zu Z179 2 0 0 (1217 + 12 * a1) ((Z179 2 0 0 (1217 + 12 * a1)) + 0)) (fun Z182 => (if (Z 2 0 0 (1213 + 12 * a1)) = (Z 2 0 0 (1300 + ((Z 2 0 0 0) / 24))) then (zlet (zu Z182 2 0 0 (1218 + 12 * a1) ((Z182 2 0 0 (1218 + 12 * a1)) + 0)) (fun Z185 => (zlet (zu Z185 2 0 0 (1216 + 12 * a1) 0) (fun Z186 => Z186)))) else (zlet (zu Z182 2 0 0 (1218 + 12 * a1) (w3 ((Z182 2 0 0 (1218 + 12 * a1)) + 1))) (fun Z189 => (zlet (zu Z189 2 0 0 (1216 + 12 * a1) 0) (fun Z190 => Z190))))))) else (zlet (zu Z179 2 0 0 (1217 + 12 * a1) (w3 ((Z179 2 0 0 (1217 + 12 * a1)) + 1))) (fun Z193 => (if (Z 2 0 0 (1213 + 12 * a1)) = (Z 2 0 0 (1300 + ((Z 2 0 0 0) / 24))) then (zlet (zu Z193 2 0 0 (1218 + 12 * a1) ((Z193 2 0 0 (1218 + 12 * a1)) + 0)) (fun Z196 => (zlet (zu Z196 2 0 0 (1216 + 12 * a1) 0) (fun Z197 => Z197)))) else (zlet (zu Z193 2 0 0 (1218 + 12 * a1) (w3 ((Z193 2 0 0 (1218 + 12 * a1)) + 1))) (fun Z200 => (zlet (zu Z200 2 0 0 (1216 + 12 * a1) 0) (fun Z201 => Z201)))))))))) else (zlet (zu Z 2 0 0 (1215 + 12 * a1) ((Z 2 0 0 (1300 + ((Z 2 0 0 0) / 24))) - (Z 2 0 0 (1211 + 12 * a1)))) (fun Z202 => (if ((Z 2 0 0 (1300 + ((Z 2 0 0 0) / 24))) - (Z 2 0 0 (1211 + 12 * a1))) = (Z 2 0 0 (1300 + ((Z 2 0 0 0) / 24))) then (zlet (zu Z202 2 0 0 (1217 + 12 * a1) ((Z202 2 0 0 (1217 + 12 * a1)) + 0)) (fun Z205 => (zlet (zu Z205 2 0 0 (1218 + 12 * a1) ((Z205 2 0 0 (1218 + 12 * a1)) + 0)) (fun Z207 => (zlet (zu Z207 2 0 0 (1216 + 12 * a1) 0) (fun Z208 => Z208)))))) else (zlet (zu Z202 2 0 0 (1217 + 12 * a1) (w3 ((Z202 2 0 0 (1217 + 12 * a1)) + 1))) (fun Z211 => (zlet (zu Z211 2 0 0 (1218 + 12 * a1) (w3 ((Z211 2 0 0 (1218 + 12 * a1)) + 1))) (fun Z214 => (zlet (zu Z214 2 0 0 (1216 + 12 * a1) 0) (fun Z215 => Z215)))))))))) else (if (Z 2 0 0 (1213 + 12 * a1)) ≤ ((Z 2 0 0 (1300 + ((Z 2 0 0 0) / 24))) + (Z 2 0 0 (1211 + 12 * a1))) then (zlet (zu Z 2 0 0 (1215 + 12 * a1) (Z 2 0 0 (1213 + 12 * a1))) (fun Z218 => (if (Z 2 0 0 (1213 + 12 * a1)) = (Z 2 0 0 (1300 + ((Z 2 0 0 0) / 24))) then (zlet (zu Z218 2 0 0 (1217 + 12 * a1) ((Z218 2 0 0 (1217 + 12 * a1)) + 0)) (fun Z221 => (if (Z 2 0 0 (1213 + 12 * a1)) = (Z 2 0 0 (1300 + ((Z 2 0 0 0) / 24))) then (zlet (zu Z221 2 0 0 (1218 + 12 * a1) ((Z221 2 0 0 (1218 + 12 * a1)) + 0)) (fun Z224 => (zlet (zu Z224 2 0 0 (1216 + 12 * a1) 0) (fun Z225 => Z225)))) else (zlet (zu Z221 2 0 0 (1218 + 12 * a1) (w3 ((Z221 2 0 0 (1218 + 12 * a1)) + 1))) (fun Z228 => (zlet (zu Z228 2 0 0 (1216 + 12 * a1) 0) (fun Z229 => Z229))))))) else (zlet (zu Z218 2 0 0 (1217 + 12 * a1) (w3 ((Z218 2 0 0 (1217 + 12 * a1)) + 1))) (fun Z232 => (if (Z 2 0 0 (1213 + 12 * a1)) = (Z 2 0 0 (1300 + ((Z 2 0 0 0) / 24))) then (zlet (zu Z232 2 0 0 (1218 + 12 * a1) ((Z232 2 0 0 (1218 + 12 * a1)) + 0)) (fun Z235 => (zlet (zu Z235 2 0 0 (1216 + 12 * a1) 0) (fun Z236 => Z236)))) else (zlet (zu Z232 2 0 0 (1218 + 12 * a1) (w3 ((Z232 2 0 0 (1218 + 12 * a1)) + 1))) (fun Z239 => (zlet (zu Z239 2 0 0 (1216 + 12 * a1) 0) (fun Z240 => Z240)))))))))) else (zlet (zu Z 2 0 0 (1215 + 12 * a1) ((Z 2 0 0 (1300 + ((Z 2 0 0 0) / 24))) + (Z 2 0 0 (1211 + 12 * a1)))) (fun Z241 => (if ((Z 2 0 0 (1300 + ((Z 2 0 0 0) / 24))) + (Z 2 0 0 (1211 + 12 * a1))) = (Z 2 0 0 (1300 + ((Z 2 0 0 0) / 24))) then (zlet (zu Z241 2 0 0 (1217 + 12 * a1) ((Z241 2 0 0 (1217 + 12 * a1)) + 0)) (fun Z244 => (zlet (zu Z244 2 0 0 (1218 + 12 * a1) ((Z244 2 0 0 (1218 + 12 * a1)) + 0)) (fun Z246 => (zlet (zu Z246 2 0 0 (1216 + 12 * a1) 0) (fun Z247 => Z247)))))) else (zlet (zu Z241 2 0 0 (1217 + 12 * a1) (w3 ((Z241 2 0 0 (1217 + 12 * a1)) + 1))) (fun Z250 => (zlet (zu Z250 2 0 0 (1218 + 12 * a1) (w3 ((Z250 2 0 0 (1218 + 12 * a1)) + 1))) (fun Z253 => (zlet (zu Z253 2 0 0 (1216 + 12 * a1) 0) (fun Z254 => Z254))))))))))) else (if (Z 2 0 0 (1213 + 12 * a1)) ≤ (w3 ((Z 2 0 0 (1215 + 12 * a1)) + (w3 ((Z 2 0 0 (1212 + 12 * a1)) + (Z 2 0 0 (1216 + 12 * a1)))))) then (if ((w3 ((Z 2 0 0 (1215 + 12 * a1)) + (w3 ((Z 2 0 0 (1212 + 12 * a1)) + (Z 2 0 0 (1216 + 12 * a1)))))) - (Z 2 0 0 (1211 + 12 * a1))) ≤ (Z 2 0 0 (1213 + 12 * a1)) then (zlet (zu Z 2 0 0 (1215 + 12 * a1) (Z 2 0 0 (1213 + 12 * a1))) (fun Z259 => (if (Z 2 0 0 (1213 + 12 * a1)) = (w3 ((Z 2 0 0 (1215 + 12 * a1)) + (w3 ((Z 2 0 0 (1212 + 12 * a1)) + (Z 2 0 0 (1216 + 12 * a1)))))) then (zlet (zu Z259 2 0 0 (1217 + 12 * a1) ((Z259 2 0 0 (1217 + 12 * a1)) + 0)) (fun Z262 => (if (Z 2 0 0 (1213 + 12 * a1)) = (w3 ((Z 2 0 0 (1215 + 12 * a1)) + (w3 ((Z 2 0 0 (1212 + 12 * a1)) + (Z 2 0 0 (1216 + 12 * a1)))))) then (zlet (zu Z262 2 0 0 (1218 + 12 * a1) ((Z262 2 0 0 (1218 + 12 * a1)) + 0)) (fun Z265 => (zlet (zu Z265 2 0 0 (1216 + 12 * a1) 0) (fun Z266 => Z266)))) else (zlet (zu Z262 2 0 0 (1218 + 12 * a1) (w3 ((Z262 2 0 0 (1218 + 12 * a1)) + 1))) (fun Z269 => (zlet (zu Z269 2 0 0 (1216 + 12 * a1) 0) (fun Z270 => Z270))))))) else (zlet (zu Z259 2 0 0 (1217 + 12 * a1) (w3 ((Z259 2 0 0 (1217 + 12 * a1)) + 1))) (fun Z273 => (if (Z 2 0 0 (1213 + 12 * a1)) = (w3 ((Z 2 0 0 (1215 + 12 * a1)) + (w3 ((Z 2 0 0 (1212 + 12 * a1)) + (Z 2 0 0 (1216 + 12 * a1)))))) then (zlet (zu Z273 2 0 0 (1218 + 12 * a1) ((Z273 2 0 0 (1218 + 12 * a1)) + 0)) (fun Z276 => (zlet (zu Z276 2 0 0 (1216 + 12 * a1) 0) (fun Z277 => Z277)))) else (zlet (zu Z273 2 0 0 (1218 + 12 * a1) (w3 ((Z273 2 0 0 (1218 + 12 * a1)) + 1))) (fun Z280 => (zlet (zu Z280 2 0 0 (1216 + 12 * a1) 0) (fun Z281 => Z281)))))))))) else (zlet (zu Z 2 0 0 (1215 + 12 * a1) ((w3 ((Z 2 0 0 (1215 + 12 * a1)) + (w3 ((Z 2 0 0 (1212 + 12 * a1)) + (Z 2 0 0 (1216 + 12 * a1)))))) - (Z 2 0 0 (1211 + 12 * a1)))) (fun Z282 => (if ((w3 ((Z 2 0 0 (1215 + 12 * a1)) + (w3 ((Z 2 0 0 (1212 + 12 * a1)) + (Z 2 0 0 (1216 + 12 * a1)))))) - (Z 2 0 0 (1211 + 12 * a1))) = (w3 ((Z 2 0 0 (1215 + 12 * a1)) + (w3 ((Z 2 0 0 (1212 + 12 * a1)) + (Z 2 0 0 (1216 + 12 * a1)))))) then (zlet (zu Z282 2 0 0 (1217 + 12 * a1) ((Z282 2 0 0 (1217 + 12 * a1)) + 0)) (fun Z285 => (zlet (zu Z285 2 0 0 (1218 + 12 * a1) ((Z285 2 0 0 (1218 + 12 * a1)) + 0)) (fun Z287 => (zlet (zu Z287 2 0 0 (1216 + 12 * a1) 0) (fun Z288 => Z288)))))) else (zlet (zu Z282 2 0 0 (1217 + 12 * a1) (w3 ((Z282 2 0 0 (1217 + 12 * a1)) + 1))) (fun Z291 => (zlet (zu Z291 2 0 0 (1218 + 12 * a1) (w3 ((Z291 2 0 0 (1218 + 12 * a1)) + 1))) (fun Z294 => (zlet (zu Z294 2 0 0 (1216 + 12 * a1) 0) (fun Z295 => Z295)))))))))) else (if (Z 2 0 0 (1213 + 12 * a1)) ≤ ((w3 ((Z 2 0 0 (1215 + 12 * a1)) + (w3 ((Z 2 0 0 (1212 + 12 * a1)) + (Z 2 0 0 (1216 + 12 * a1)))))) + (Z 2 0 0 (1211 + 12 * a1))) then (zlet (zu Z 2 0 0 (1215 + 12 * a1) (Z 2 0 0 (1213 + 12 * a1))) (fun Z298 => (if (Z 2 0 0 (1213 + 12 * a1)) = (w3 ((Z 2 0 0 (1215 + 12 * a1)) + (w3 ((Z 2 0 0 (1212 + 12 * a1)) + (Z 2 0 0 (1216 + 12 * a1)))))) then (zlet (zu Z298 2 0 0 (1217 + 12 * a1) ((Z298 2 0 0 (1217 + 12 * a1)) + 0)) (fun Z301 => (if (Z 2 0 0 (1213 + 12 * a1)) = (w3 ((Z 2 0 0 (1215 + 12 * a1)) + (w3 ((Z 2 0 0 (1212 + 12 * a1)) + (Z 2 0 0 (1216 + 12 * a1)))))) then (zlet (zu Z301 2 0 0 (1218 + 12 * a1) ((Z301 2 0 0 (1218 + 12 * a1)) + 0)) (fun Z304 => (zlet (zu Z304 2 0 0 (1216 + 12 * a1) 0) (fun Z305 => Z305)))) else (zlet (zu Z301 2 0 0 (1218 + 12 * a1) (w3 ((Z301 2 0 0 (1218 + 12 * a1)) + 1))) (fun Z308 => (zlet (zu Z308 2 0 0 (1216 + 12 * a1) 0) (fun Z309 => Z309))))))) else (zlet (zu Z298 2 0 0 (1217 + 12 * a1) (w3 ((Z298 2 0 0 (1217 + 12 * a1)) + 1))) (fun Z312 => (if (Z 2 0 0 (1213 + 12 * a1)) = (w3 ((Z 2 0 0 (1215 + 12 * a1)) + (w3 ((Z 2 0 0 (1212 + 12 * a1)) + (Z 2 0 0 (1216 + 12 * a1)))))) then (zlet (zu Z312 2 0 0 (1218 + 12 * a1) ((Z312 2 0 0 (1218 + 12 * a1)) + 0)) (fun Z315 => (zlet (zu Z315 2 0 0 (1216 + 12 * a1) 0) (fun Z316 => Z316)))) else (zlet (zu Z312 2 0 0 (1218 + 12 * a1) (w3 ((Z312 2 0 0 (1218 + 12 * a1)) + 1))) (fun Z319 => (zlet (zu Z319 2 0 0 (1216 + 12 * a1) 0) (fun Z320 => Z320)))))))))) else (zlet (zu Z 2 0 0 (1215 + 12 * a1) ((w3 ((Z 2 0 0 (1215 + 12 * a1)) + (w3 ((Z 2 0 0 (1212 + 12 * a1)) + (Z 2 0 0 (1216 + 12 * a1)))))) + (Z 2 0 0 (1211 + 12 * a1)))) (fun Z321 => (if ((w3 ((Z 2 0 0 (1215 + 12 * a1)) + (w3 ((Z 2 0 0 (1212 + 12 * a1)) + (Z 2 0 0 (1216 + 12 * a1)))))) + (Z 2 0 0 (1211 + 12 * a1))) = (w3 ((Z 2 0 0 (1215 + 12 * a1)) + (w3 ((Z 2 0 0 (1212 + 12 * a1)) + (Z 2 0 0 (1216 + 12 * a1)))))) then (zlet (zu Z321 2 0 0 (1217 + 12 * a1) ((Z321 2 0 0 (1217 + 12 * a1)) + 0)) (fun Z324 => (zlet (zu Z324 2 0 0 (1218 + 12 * a1) ((Z324 2 0 0 (1218 + 12 * a1)) + 0)) (fun Z326 => (zlet (zu Z326 2 0 0 (1216 + 12 * a1) 0) (fun Z327 => Z327)))))) else (zlet (zu Z321 2 0 0 (1217 + 12 * a1) (w3 ((Z321 2 0 0 (1217 + 12 * a1)) + 1))) (fun Z330 => (zlet (zu Z330 2 0 0 (1218 + 12 * a1) (w3 ((Z330 2 0 0 (1218 + 12 * a1)) + 1))) (fun Z333 => (zlet (zu Z333 2 0 0 (1216 + 12 * a1) 0) (fun Z334 => Z334)))))))))))))
theorem sp_490 {s : zSM} {Z : qz_Z} {ν : qz_N} (hZ : zM s Z) {a1 : Int} (ga1 : 0 ≤ a1 ∧ a1 ≤ 5) (hM : s.2 + 0 ≤ 1000000000) : ∃ P : qz_Z, P = zf_490 Z a1 ∧ (qf_490 [.inr (.inr (some (1, 0, 0))), .inl (i3 a1)] (zm Z ν) = some (zm P ν, .inl none) ∧ zM s P ∧ zC [2] Z P ∧ zU [] Z P) := by sorry
/- yX12_rHour -/
def zl_471_1 : Nat → qz_Z → Int → qz_Z × Int
  | 0, Z, x1 => (Z, x1)
  | m + 1, Z, x1 => (if (Z 2 0 0 1200) ≤ x1 then (Z, x1) else (zlet (zf_490 Z x1) (fun Z3 => zl_471_1 m Z3 (x1 + 1))))
theorem sl_471_1 {s : zSM} {Zs Z : qz_Z} {ν : qz_N} (hZ : zM s Z) (hM : s.2 + 0 ≤ 1000000000) (hK : zC [2] Zs Z) {x1 : Int} (gx1 : 0 ≤ x1 ∧ x1 ≤ 6) (hU : zU [] Zs Z) {k : wz_K} {R : wz_R} {L : qz_L} (hL : qz_fg [true, true] L = [some (.inr (.inr (some (1, 0, 0)))), some (.inl (i3 x1))]) {T : qz_Z × Int} (hP : zE T (zl_471_1 ((6 - x1).toNat + 1) Z x1)) (hk : ∀ (L9 : qz_L) (Z9 : qz_Z) (yx1 : Int), qz_fg [true, false] L9 = [some (.inr (.inr (some (1, 0, 0)))), none] → zM s Z9 → zC [2] Zs Z9 → zU [] Zs Z9 → (0 ≤ yx1 ∧ yx1 ≤ 6) → zE T ((Z9, yx1)) → k 0 (L9, [], zm Z9 ν)) : wz_loop qb_471_1 65536 k R (L, [], zm Z ν) := by
  refine wz_lp sb_471_1 (fun m x => ∃ Z : qz_Z, ∃ x1 : Int, qz_fg [true, true] x.1 = [some (.inr (.inr (some (1, 0, 0)))), some (.inl (i3 x1))] ∧ x.2 = ([], zm Z ν) ∧ zM s Z ∧ zC [2] Zs Z ∧ zU [] Zs Z ∧ m = (6 - x1).toNat ∧ (0 ≤ x1 ∧ x1 ≤ 6) ∧ zE T (zl_471_1 (m + 1) Z x1)) ?_ 65536 ((6 - x1).toNat) _ (by omega) ⟨Z, x1, hL, rfl, hZ, hK, hU, rfl, gx1, hP⟩
  clear hP gx1 hZ hK hU hL
  clear x1
  clear Z
  rintro m ⟨L, st, μ⟩ ⟨Z, x1, hL, hx, hZ, hK, hU, hm, gx1, hP⟩
  cases hx
  refine fb_471_1 (i3 x1) _ _ _ _ hL ?_
  have r1 := zM_k hZ 2 0 0 1200 (lo := 0) (hi := 6) (by decide) rfl
  refine wz_br (i3Le (zm_rd (Z := Z) (ν := ν) (k := 2) (show ((0 : Nat) : Int) = 0 from rfl) (show ((0 : Nat) : Int) = 0 from rfl) (show ((1200 : Nat) : Int) = 1200 from rfl)) (rfl : i3 x1 = i3 x1) (by omega) (by omega) (by omega) (by omega)) (fun h2 => ?_) (fun h2 => ?_)
  · replace hP := zE_p hP h2
    exact hk _ _ _ (zconso rfl (zconso rfl rfl)) hZ hK hU (by omega)  hP
  · replace hP := zE_n hP h2
    obtain ⟨Z3, hZ3, c9, hZ3I, kZ3, jZ3⟩ := sp_490 (ν := ν) hZ (a1 := x1) (by omega) (zbh (c := 0) (k := 0) hM (Nat.le_of_ble_eq_true rfl))
    have hZ3U : zU [] Zs Z3 := zU_t hU jZ3 zU_b0
    have hZ3K : zC [2] Zs Z3 := zC_t hK kZ3 (by decide)
    replace hP := zl_e hP hZ3
    refine wz_cV_of (zas (zcons rfl (zcons (zvi (rfl : i3 x1 = i3 x1)) rfl)) c9) ?_
    clear c9
    obtain ⟨m2, rfl⟩ : ∃ m2, m = m2 + 1 := ⟨m - 1, by omega⟩
    exact wz_k1 ⟨m2, by omega, Z3, (x1 + 1), (zconso rfl (zconso (zvo (i3A (rfl : i3 x1 = i3 x1) (show (1 : Int32) = i3 1 from rfl))) rfl)), rfl, hZ3I, hZ3K, hZ3U, by omega, by omega,  hP⟩
/- yX12_rHour -/
def zl_471_2 : Nat → qz_Z → Int → qz_Z × Int
  | 0, Z, x1 => (Z, x1)
  | m + 1, Z, x1 => (if (Z 2 0 0 102) ≤ x1 then (Z, x1) else (if 1 < (Z 2 0 0 (210 + 20 * x1)) then zl_471_2 m Z (x1 + 1) else (zlet (zf_481 Z x1) (fun Z5 => zl_471_2 m Z5 (x1 + 1)))))
theorem sl_471_2 {s : zSM} {Zs Z : qz_Z} {ν : qz_N} (hZ : zM s Z) (hM : s.2 + 0 ≤ 1000000000) (hK : zC [2] Zs Z) {x1 : Int} (gx1 : 0 ≤ x1 ∧ x1 ≤ 48) (hU : zU [] Zs Z) {k : wz_K} {R : wz_R} {L : qz_L} (hL : qz_fg [true, true] L = [some (.inr (.inr (some (1, 0, 0)))), some (.inl (i3 x1))]) {T : qz_Z × Int} (hP : zE T (zl_471_2 ((48 - x1).toNat + 1) Z x1)) (hk : ∀ (L9 : qz_L) (Z9 : qz_Z) (yx1 : Int), qz_fg [true, false] L9 = [some (.inr (.inr (some (1, 0, 0)))), none] → zM s Z9 → zC [2] Zs Z9 → zU [] Zs Z9 → (0 ≤ yx1 ∧ yx1 ≤ 48) → zE T ((Z9, yx1)) → k 0 (L9, [], zm Z9 ν)) : wz_loop qb_471_2 65536 k R (L, [], zm Z ν) := by
  refine wz_lp sb_471_2 (fun m x => ∃ Z : qz_Z, ∃ x1 : Int, qz_fg [true, true] x.1 = [some (.inr (.inr (some (1, 0, 0)))), some (.inl (i3 x1))] ∧ x.2 = ([], zm Z ν) ∧ zM s Z ∧ zC [2] Zs Z ∧ zU [] Zs Z ∧ m = (48 - x1).toNat ∧ (0 ≤ x1 ∧ x1 ≤ 48) ∧ zE T (zl_471_2 (m + 1) Z x1)) ?_ 65536 ((48 - x1).toNat) _ (by omega) ⟨Z, x1, hL, rfl, hZ, hK, hU, rfl, gx1, hP⟩
  clear hP gx1 hZ hK hU hL
  clear x1
  clear Z
  rintro m ⟨L, st, μ⟩ ⟨Z, x1, hL, hx, hZ, hK, hU, hm, gx1, hP⟩
  cases hx
  refine fb_471_2 (i3 x1) _ _ _ _ hL ?_
  have r1 := zM_k hZ 2 0 0 102 (lo := 0) (hi := 48) (by decide) rfl
  refine wz_br (i3Le (zm_rd (Z := Z) (ν := ν) (k := 2) (show ((0 : Nat) : Int) = 0 from rfl) (show ((0 : Nat) : Int) = 0 from rfl) (show ((102 : Nat) : Int) = 102 from rfl)) (rfl : i3 x1 = i3 x1) (by omega) (by omega) (by omega) (by omega)) (fun h2 => ?_) (fun h2 => ?_)
  · replace hP := zE_p hP h2
    exact hk _ _ _ (zconso rfl (zconso rfl rfl)) hZ hK hU (by omega)  hP
  · replace hP := zE_n hP h2
    refine wz_i0 (i3O (n := 4400) (i3A (i3A (show (200 : Int32) = i3 200 from rfl) (i3M (show (20 : Int32) = i3 20 from rfl) (rfl : i3 x1 = i3 x1))) (show (10 : Int32) = i3 10 from rfl)) (by omega) (by omega) (by omega)) ?_
    have r3 := zM_k hZ 2 0 0 (210 + 20 * x1) (lo := 0) (hi := 4) (by decide) (zs_200_10 (x := x1) (by omega) (by omega) (by omega))
    refine wz_br (i3L (show (1 : Int32) = i3 1 from rfl) (zm_rd (Z := Z) (ν := ν) (k := 2) (show ((0 : Nat) : Int) = 0 from rfl) (show ((0 : Nat) : Int) = 0 from rfl) (i3I (y := (210 + 20 * x1)) (i3A (i3A (show (200 : Int32) = i3 200 from rfl) (i3M (show (20 : Int32) = i3 20 from rfl) (rfl : i3 x1 = i3 x1))) (show (10 : Int32) = i3 10 from rfl)) (by omega) (by omega) (by omega))) (by omega) (by omega) (by omega) (by omega)) (fun h4 => ?_) (fun h4 => ?_)
    · replace hP := zE_p hP h4
      obtain ⟨m2, rfl⟩ : ∃ m2, m = m2 + 1 := ⟨m - 1, by omega⟩
      exact wz_k1 ⟨m2, by omega, Z, (x1 + 1), (zconso rfl (zconso (zvo (i3A (rfl : i3 x1 = i3 x1) (show (1 : Int32) = i3 1 from rfl))) rfl)), rfl, hZ, hK, hU, by omega, by omega,  hP⟩
    · replace hP := zE_n hP h4
      obtain ⟨Z5, hZ5, c9, hZ5I, kZ5, jZ5⟩ := sp_481 (ν := ν) hZ (a1 := x1) (by omega) (zbh (c := 0) (k := 0) hM (Nat.le_of_ble_eq_true rfl))
      have hZ5U : zU [] Zs Z5 := zU_t hU jZ5 zU_b0
      have hZ5K : zC [2] Zs Z5 := zC_t hK kZ5 (by decide)
      replace hP := zl_e hP hZ5
      refine wz_cV_of (zas (zcons rfl (zcons (zvi (rfl : i3 x1 = i3 x1)) rfl)) c9) ?_
      clear c9
      obtain ⟨m2, rfl⟩ : ∃ m2, m = m2 + 1 := ⟨m - 1, by omega⟩
      exact wz_k1 ⟨m2, by omega, Z5, (x1 + 1), (zconso rfl (zconso (zvo (i3A (rfl : i3 x1 = i3 x1) (show (1 : Int32) = i3 1 from rfl))) rfl)), rfl, hZ5I, hZ5K, hZ5U, by omega, by omega,  hP⟩
/- yX12_rHour -/
def zl_471_3 : Nat → qz_Z → Int → qz_Z × Int
  | 0, Z, x1 => (Z, x1)
  | m + 1, Z, x1 => (if (Z 2 0 0 2000) ≤ x1 then (Z, x1) else (if (Z 2 0 0 (2019 + 16 * x1)) ≠ 1 then zl_471_3 m Z (x1 + 1) else (zlet (zf_482 Z x1) (fun Z6 => zl_471_3 m Z6 (x1 + 1)))))
theorem sl_471_3 {s : zSM} {Zs Z : qz_Z} {ν : qz_N} (hZ : zM s Z) (hM : s.2 + 0 ≤ 1000000000) (hK : zC [2] Zs Z) {x1 : Int} (gx1 : 0 ≤ x1 ∧ x1 ≤ 60) (hU : zU [] Zs Z) {k : wz_K} {R : wz_R} {L : qz_L} (hL : qz_fg [true, true] L = [some (.inr (.inr (some (1, 0, 0)))), some (.inl (i3 x1))]) {T : qz_Z × Int} (hP : zE T (zl_471_3 ((60 - x1).toNat + 1) Z x1)) (hk : ∀ (L9 : qz_L) (Z9 : qz_Z) (yx1 : Int), qz_fg [false, false] L9 = [none, none] → zM s Z9 → zC [2] Zs Z9 → zU [] Zs Z9 → (0 ≤ yx1 ∧ yx1 ≤ 60) → zE T ((Z9, yx1)) → k 0 (L9, [], zm Z9 ν)) : wz_loop qb_471_3 65536 k R (L, [], zm Z ν) := by
  refine wz_lp sb_471_3 (fun m x => ∃ Z : qz_Z, ∃ x1 : Int, qz_fg [true, true] x.1 = [some (.inr (.inr (some (1, 0, 0)))), some (.inl (i3 x1))] ∧ x.2 = ([], zm Z ν) ∧ zM s Z ∧ zC [2] Zs Z ∧ zU [] Zs Z ∧ m = (60 - x1).toNat ∧ (0 ≤ x1 ∧ x1 ≤ 60) ∧ zE T (zl_471_3 (m + 1) Z x1)) ?_ 65536 ((60 - x1).toNat) _ (by omega) ⟨Z, x1, hL, rfl, hZ, hK, hU, rfl, gx1, hP⟩
  clear hP gx1 hZ hK hU hL
  clear x1
  clear Z
  rintro m ⟨L, st, μ⟩ ⟨Z, x1, hL, hx, hZ, hK, hU, hm, gx1, hP⟩
  cases hx
  refine fb_471_3 (i3 x1) _ _ _ _ hL ?_
  have r1 := zM_k hZ 2 0 0 2000 (lo := 0) (hi := 60) (by decide) rfl
  refine wz_br (i3Le (zm_rd (Z := Z) (ν := ν) (k := 2) (show ((0 : Nat) : Int) = 0 from rfl) (show ((0 : Nat) : Int) = 0 from rfl) (show ((2000 : Nat) : Int) = 2000 from rfl)) (rfl : i3 x1 = i3 x1) (by omega) (by omega) (by omega) (by omega)) (fun h2 => ?_) (fun h2 => ?_)
  · replace hP := zE_p hP h2
    exact hk _ _ _ (zconso rfl (zconso rfl rfl)) hZ hK hU (by omega)  hP
  · replace hP := zE_n hP h2
    refine wz_i0 (i3O (n := 4400) (i3A (i3A (show (2010 : Int32) = i3 2010 from rfl) (i3M (show (16 : Int32) = i3 16 from rfl) (rfl : i3 x1 = i3 x1))) (show (9 : Int32) = i3 9 from rfl)) (by omega) (by omega) (by omega)) ?_
    have r3 := zM_k hZ 2 0 0 (2019 + 16 * x1) (lo := 0) (hi := 3) (by decide) (zs_2010_9 (x := x1) (by omega) (by omega) (by omega))
    have r4 := zM_lt2 hZ x1
    refine wz_br (i3NE (zm_rd (Z := Z) (ν := ν) (k := 2) (show ((0 : Nat) : Int) = 0 from rfl) (show ((0 : Nat) : Int) = 0 from rfl) (i3I (y := (2019 + 16 * x1)) (i3A (i3A (show (2010 : Int32) = i3 2010 from rfl) (i3M (show (16 : Int32) = i3 16 from rfl) (rfl : i3 x1 = i3 x1))) (show (9 : Int32) = i3 9 from rfl)) (by omega) (by omega) (by omega))) (show (1 : Int32) = i3 1 from rfl) (by omega) (by omega) (by omega) (by omega)) (fun h5 => ?_) (fun h5 => ?_)
    · replace hP := zE_p hP h5
      obtain ⟨m2, rfl⟩ : ∃ m2, m = m2 + 1 := ⟨m - 1, by omega⟩
      exact wz_k1 ⟨m2, by omega, Z, (x1 + 1), (zconso rfl (zconso (zvo (i3A (rfl : i3 x1 = i3 x1) (show (1 : Int32) = i3 1 from rfl))) rfl)), rfl, hZ, hK, hU, by omega, by omega,  hP⟩
    · replace hP := zE_n hP h5
      obtain ⟨Z6, hZ6, c9, hZ6I, kZ6, jZ6⟩ := sp_482 (ν := ν) hZ (a1 := x1) (by omega) (zbh (c := 0) (k := 0) hM (Nat.le_of_ble_eq_true rfl))
      have hZ6U : zU [] Zs Z6 := zU_t hU jZ6 zU_b0
      have hZ6K : zC [2] Zs Z6 := zC_t hK kZ6 (by decide)
      replace hP := zl_e hP hZ6
      refine wz_cV_of (zas (zcons rfl (zcons (zvi (rfl : i3 x1 = i3 x1)) rfl)) c9) ?_
      clear c9
      obtain ⟨m2, rfl⟩ : ∃ m2, m = m2 + 1 := ⟨m - 1, by omega⟩
      exact wz_k1 ⟨m2, by omega, Z6, (x1 + 1), (zconso rfl (zconso (zvo (i3A (rfl : i3 x1 = i3 x1) (show (1 : Int32) = i3 1 from rfl))) rfl)), rfl, hZ6I, hZ6K, hZ6U, by omega, by omega,  hP⟩
/- yX12_rHour -/
def zf_471 (Z : qz_Z) : qz_Z := (zlet2 (zl_471_1 7 Z 0) (fun Z2 y1 => (zlet2 (zl_471_2 49 Z2 0) (fun Z5 y4 => (zlet2 (zl_471_3 61 Z5 0) (fun Z8 y7 => Z8))))))
theorem sp_471 {s : zSM} {Z : qz_Z} {ν : qz_N} (hZ : zM s Z) (hM : s.2 + 0 ≤ 1000000000) : ∃ P : qz_Z, P = zf_471 Z ∧ (qf_471 [.inr (.inr (some (1, 0, 0)))] (zm Z ν) = some (zm P ν, .inl none) ∧ zM s P ∧ zC [2] Z P ∧ zU [] Z P) := by
  obtain ⟨P, hP⟩ := zx (zf_471 Z)
  refine zc_V (Q := fun P => zM s P ∧ zC [2] Z P ∧ zU [] Z P) hP (fw_471  _ _ ?_)
  replace hP : zE P (zf_471 Z) := hP
  unfold zf_471 at hP
  refine sl_471_1 (ν := ν) hZ (zbh (c := 0) (k := 0) hM (Nat.le_of_ble_eq_true rfl)) zC_r (x1 := 0) (by omega) zU_r  (zconso rfl (zconso (zvo (show (0 : Int32) = i3 0 from rfl)) rfl)) rfl ?_
  intro L3 Z2 y1 hL3 hZ2I kZ2 jZ2 gy1 q9
  replace hP := zl_e2 hP (Eq.symm q9)
  clear q9
  have hZ2U : zU [] Z Z2 := zU_t zU_r jZ2 zU_b0
  have hZ2K : zC [2] Z Z2 := zC_t zC_r kZ2 (by decide)
  refine fc_471_6  _ _ _ _ hL3 ?_
  refine sl_471_2 (ν := ν) hZ2I (zbh (c := 0) (k := 0) hM (Nat.le_of_ble_eq_true rfl)) zC_r (x1 := 0) (by omega) zU_r  (zconso rfl (zconso (zvo (show (0 : Int32) = i3 0 from rfl)) rfl)) rfl ?_
  intro L6 Z5 y4 hL6 hZ5I kZ5 jZ5 gy4 q9
  replace hP := zl_e2 hP (Eq.symm q9)
  clear q9
  have hZ5U : zU [] Z Z5 := zU_t hZ2U jZ5 zU_b0
  have hZ5K : zC [2] Z Z5 := zC_t hZ2K kZ5 (by decide)
  refine fc_471_5  _ _ _ _ hL6 ?_
  refine sl_471_3 (ν := ν) hZ5I (zbh (c := 0) (k := 0) hM (Nat.le_of_ble_eq_true rfl)) zC_r (x1 := 0) (by omega) zU_r  (zconso rfl (zconso (zvo (show (0 : Int32) = i3 0 from rfl)) rfl)) rfl ?_
  intro L9 Z8 y7 hL9 hZ8I kZ8 jZ8 gy7 q9
  replace hP := zl_e2 hP (Eq.symm q9)
  clear q9
  have hZ8U : zU [] Z Z8 := zU_t hZ5U jZ8 zU_b0
  have hZ8K : zC [2] Z Z8 := zC_t hZ5K kZ8 (by decide)
  refine fc_471_4  _ _ _ _ hL9 ?_
  exact zlV hP ⟨hZ8I, hZ8K, hZ8U⟩
/- yX12_rAlone -/
def zl_460_1 (x1 : Int) : Nat → qz_Z → qz_Z
  | 0, Z => Z
  | m + 1, Z => (if x1 ≤ (Z 2 0 0 0) then Z else (zlet (zu Z 2 0 0 0 ((Z 2 0 0 0) + 1)) (fun Z3 => (zlet (zf_471 Z3) (fun Z4 => zl_460_1 x1 m Z4)))))
theorem sl_460_1 {s : zSM} {Zs Z : qz_Z} {ν : qz_N} (hZ : zM s Z) (hM : s.2 + 0 ≤ 1000000000) (hK : zC [2, 1200] Zs Z) {x1 : Int} (gx1 : -1 ≤ x1 ∧ x1 ≤ 1342) (hU : zU [] Zs Z) {k : wz_K} {R : wz_R} {L : qz_L} (hL : qz_fg [true, true] L = [some (.inr (.inr (some (1, 0, 0)))), some (.inl (i3 x1))]) {T : qz_Z} (hP : zE T (zl_460_1 x1 ((x1 - Z 2 0 0 0).toNat + 1) Z)) (hk : ∀ (L9 : qz_L) (Z9 : qz_Z), qz_fg [false, false] L9 = [none, none] → zM s Z9 → zC [2, 1200] Zs Z9 → zU [] Zs Z9 → zE T (Z9) → k 0 (L9, [], zm Z9 ν)) : wz_loop qb_460_1 65536 k R (L, [], zm Z ν) := by sorry
/- yX12_rAlone -/
def zf_460 (Z : qz_Z) (a1 : Int) : qz_Z := (zlet (zl_460_1 a1 ((a1 - Z 2 0 0 0).toNat + 1) Z) (fun Z1 => Z1))
theorem sp_460 {s : zSM} {Z : qz_Z} {ν : qz_N} (hZ : zM s Z) {a1 : Int} (ga1 : -1 ≤ a1 ∧ a1 ≤ 1342) (hM : s.2 + 0 ≤ 1000000000) : ∃ P : qz_Z, P = zf_460 Z a1 ∧ (qf_460 [.inr (.inr (some (1, 0, 0))), .inl (i3 a1)] (zm Z ν) = some (zm P ν, .inl none) ∧ zM s P ∧ zC [2, 1200] Z P ∧ zU [] Z P) := by
  obtain ⟨P, hP⟩ := zx (zf_460 Z a1)
  refine zc_V (Q := fun P => zM s P ∧ zC [2, 1200] Z P ∧ zU [] Z P) hP (fw_460 (i3 a1) _ _ ?_)
  replace hP : zE P (zf_460 Z a1) := hP
  unfold zf_460 at hP
  refine sl_460_1 (ν := ν) hZ (zbh (c := 0) (k := 0) hM (Nat.le_of_ble_eq_true rfl)) zC_r (x1 := a1) (by omega) zU_r  (zconso rfl (zconso (zvo (rfl : i3 a1 = i3 a1)) rfl)) rfl ?_
  intro L2 Z1 hL2 hZ1I kZ1 jZ1 q9
  replace hP := zl_e hP (Eq.symm q9)
  clear q9
  have hZ1U : zU [] Z Z1 := zU_t zU_r jZ1 zU_b0
  have hZ1K : zC [2, 1200] Z Z1 := zC_t zC_r kZ1 (by decide)
  refine fc_460_2  _ _ _ _ hL2 ?_
  exact zlV hP ⟨hZ1I, hZ1K, hZ1U⟩
/- yX12_isShut -/
def zf_390 (Z : qz_Z) (a1 : Int) : Int := (if a1 < 0 then 0 else (if 5 < a1 then 0 else (if (Z 2 0 0 (3510 + a1)) ≤ (Z 2 0 0 0) then 0 else 1)))
theorem sp_390 {s : zSM} {Z : qz_Z} {ν : qz_N} (hZ : zM s Z) {a1 : Int} (ga1 : -1 ≤ a1 ∧ a1 ≤ 2147483647) (hM : s.2 + 0 ≤ 1000000000) : ∃ P : Int, P = zf_390 Z a1 ∧ (qf_390 [.inr (.inr (some (1, 0, 0))), .inl (i3 a1)] (zm Z ν) = some (zm Z ν, .inl (some (.inl (i3 P)))) ∧ 0 ≤ P ∧ P ≤ 1) := by
  obtain ⟨P, hP⟩ := zx (zf_390 Z a1)
  refine zc_R (Q := fun P => 0 ≤ P ∧ P ≤ 1) hP (fw_390 (i3 a1) _ _ ?_)
  replace hP : zE P (zf_390 Z a1) := hP
  unfold zf_390 at hP
  refine wz_br (i3L (rfl : i3 a1 = i3 a1) (show (0 : Int32) = i3 0 from rfl) (by omega) (by omega) (by omega) (by omega)) (fun h1 => ?_) (fun h1 => ?_)
  · replace hP := zE_p hP h1
    exact zlR hP (show (0 : Int32) = i3 0 from rfl) ⟨by omega, by omega⟩
  · replace hP := zE_n hP h1
    refine wz_br (i3L (show (5 : Int32) = i3 5 from rfl) (rfl : i3 a1 = i3 a1) (by omega) (by omega) (by omega) (by omega)) (fun h2 => ?_) (fun h2 => ?_)
    · replace hP := zE_p hP h2
      exact zlR hP (show (0 : Int32) = i3 0 from rfl) ⟨by omega, by omega⟩
    · replace hP := zE_n hP h2
      refine wz_i0 (i3O (n := 4400) (i3A (show (3510 : Int32) = i3 3510 from rfl) (rfl : i3 a1 = i3 a1)) (by omega) (by omega) (by omega)) ?_
      have r3 := zM_k hZ 2 0 0 (3510 + a1) (lo := 0) (hi := 695) (by decide) (zs_3509 (by omega) (by omega))
      have r4 := zM_k hZ 2 0 0 0 (lo := 0) (hi := 671) (by decide) rfl
      refine wz_br (i3Le (zm_rd (Z := Z) (ν := ν) (k := 2) (show ((0 : Nat) : Int) = 0 from rfl) (show ((0 : Nat) : Int) = 0 from rfl) (i3I (y := (3510 + a1)) (i3A (show (3510 : Int32) = i3 3510 from rfl) (rfl : i3 a1 = i3 a1)) (by omega) (by omega) (by omega))) (zm_rd (Z := Z) (ν := ν) (k := 2) (show ((0 : Nat) : Int) = 0 from rfl) (show ((0 : Nat) : Int) = 0 from rfl) (show ((0 : Nat) : Int) = 0 from rfl)) (by omega) (by omega) (by omega) (by omega)) (fun h5 => ?_) (fun h5 => ?_)
      · replace hP := zE_p hP h5
        exact zlR hP (show (0 : Int32) = i3 0 from rfl) ⟨by omega, by omega⟩
      · replace hP := zE_n hP h5
        exact zlR hP (show (1 : Int32) = i3 1 from rfl) ⟨by omega, by omega⟩
/- yX12_rInto -/
def zf_472 (Z : qz_Z) (a1 : Int) (a2 : Int) : qz_Z := (if (Z 2 0 0 (211 + 20 * a1)) < 0 then (if a2 < 0 then (zlet (zu Z 2 0 0 (211 + 20 * a1) a2) (fun Z4 => Z4)) else (if 5 < a2 then (zlet (zu Z 2 0 0 (211 + 20 * a1) a2) (fun Z6 => Z6)) else (zlet (zu Z 2 0 0 (1216 + 12 * a2) (w3 ((Z 2 0 0 (1216 + 12 * a2)) + 1))) (fun Z9 => (zlet (zu Z9 2 0 0 (211 + 20 * a1) a2) (fun Z10 => Z10)))))) else (if 5 < (Z 2 0 0 (211 + 20 * a1)) then (if a2 < 0 then (zlet (zu Z 2 0 0 (211 + 20 * a1) a2) (fun Z13 => Z13)) else (if 5 < a2 then (zlet (zu Z 2 0 0 (211 + 20 * a1) a2) (fun Z15 => Z15)) else (zlet (zu Z 2 0 0 (1216 + 12 * a2) (w3 ((Z 2 0 0 (1216 + 12 * a2)) + 1))) (fun Z18 => (zlet (zu Z18 2 0 0 (211 + 20 * a1) a2) (fun Z19 => Z19)))))) else (zlet (zu Z 2 0 0 (1216 + 12 * (Z 2 0 0 (211 + 20 * a1))) (w3 ((Z 2 0 0 (1216 + 12 * (Z 2 0 0 (211 + 20 * a1)))) + 1))) (fun Z22 => (if a2 < 0 then (zlet (zu Z22 2 0 0 (211 + 20 * a1) a2) (fun Z24 => Z24)) else (if 5 < a2 then (zlet (zu Z22 2 0 0 (211 + 20 * a1) a2) (fun Z26 => Z26)) else (zlet (zu Z22 2 0 0 (1216 + 12 * a2) (w3 ((Z22 2 0 0 (1216 + 12 * a2)) + 1))) (fun Z29 => (zlet (zu Z29 2 0 0 (211 + 20 * a1) a2) (fun Z30 => Z30))))))))))
theorem sp_472 {s : zSM} {Z : qz_Z} {ν : qz_N} (hZ : zM s Z) {a1 : Int} (ga1 : 0 ≤ a1 ∧ a1 ≤ 47) {a2 : Int} (ga2 : -1 ≤ a2 ∧ a2 ≤ 2147483647) (hM : s.2 + 0 ≤ 1000000000) : ∃ P : qz_Z, P = zf_472 Z a1 a2 ∧ (qf_472 [.inr (.inr (some (1, 0, 0))), .inl (i3 a1), .inl (i3 a2)] (zm Z ν) = some (zm P ν, .inl none) ∧ zM s P ∧ zC [2] Z P ∧ zU [] Z P) := by sorry
/- yX12_rStanding -/
def zl_488_1 (x1 : Int) : Nat → qz_Z → Int → Int → Int × Int
  | 0, Z, x2, x3 => (x2, x3)
  | m + 1, Z, x2, x3 => (if (Z 2 0 0 102) ≤ x3 then (x2, x3) else (if 1 < (Z 2 0 0 (210 + 20 * x3)) then zl_488_1 x1 m Z (x2 + 0) (x3 + 1) else (if (Z 2 0 0 (211 + 20 * x3)) ≠ x1 then zl_488_1 x1 m Z (x2 + 0) (x3 + 1) else zl_488_1 x1 m Z (x2 + 1) (x3 + 1))))
theorem sl_488_1 {s : zSM} {Z : qz_Z} {ν : qz_N} (hZ : zM s Z) (hM : s.2 + 0 ≤ 1000000000) {x1 : Int} (gx1 : -1 ≤ x1 ∧ x1 ≤ 2147483647) {x2 : Int} (gx2 : 0 ≤ x2 ∧ x2 ≤ 48) {x3 : Int} (gx3 : 0 ≤ x3 ∧ x3 ≤ 48) (gr0 : x2 ≤ x3) {k : wz_K} {R : wz_R} {L : qz_L} (hL : qz_fg [true, true, true, true] L = [some (.inr (.inr (some (1, 0, 0)))), some (.inl (i3 x1)), some (.inl (i3 x2)), some (.inl (i3 x3))]) {T : Int × Int} (hP : zE T (zl_488_1 x1 ((48 - x3).toNat + 1) Z x2 x3)) (hk : ∀ (L9 : qz_L) (yx2 yx3 : Int), qz_fg [false, false, true, false] L9 = [none, none, some (.inl (i3 yx2)), none] → (0 ≤ yx2 ∧ yx2 ≤ 48) → (0 ≤ yx3 ∧ yx3 ≤ 48) → (yx2 ≤ yx3) → zE T ((yx2, yx3)) → k 0 (L9, [], zm Z ν)) : wz_loop qb_488_1 65536 k R (L, [], zm Z ν) := by
  refine wz_lp sb_488_1 (fun m x => ∃ x2 : Int, ∃ x3 : Int, qz_fg [true, true, true, true] x.1 = [some (.inr (.inr (some (1, 0, 0)))), some (.inl (i3 x1)), some (.inl (i3 x2)), some (.inl (i3 x3))] ∧ x.2 = ([], zm Z ν) ∧ m = (48 - x3).toNat ∧ (0 ≤ x2 ∧ x2 ≤ 48) ∧ (0 ≤ x3 ∧ x3 ≤ 48) ∧ (x2 ≤ x3) ∧ zE T (zl_488_1 x1 (m + 1) Z x2 x3)) ?_ 65536 ((48 - x3).toNat) _ (by omega) ⟨x2, x3, hL, rfl, rfl, gx2, gx3, gr0, hP⟩
  clear hP gr0 gx2 gx3 hL
  clear x2 x3
  rintro m ⟨L, st, μ⟩ ⟨x2, x3, hL, hx, hm, gx2, gx3, gr0, hP⟩
  cases hx
  refine fb_488_1 (i3 x1) (i3 x2) (i3 x3) _ _ _ _ hL ?_
  have r1 := zM_k hZ 2 0 0 102 (lo := 0) (hi := 48) (by decide) rfl
  refine wz_br (i3Le (zm_rd (Z := Z) (ν := ν) (k := 2) (show ((0 : Nat) : Int) = 0 from rfl) (show ((0 : Nat) : Int) = 0 from rfl) (show ((102 : Nat) : Int) = 102 from rfl)) (rfl : i3 x3 = i3 x3) (by omega) (by omega) (by omega) (by omega)) (fun h2 => ?_) (fun h2 => ?_)
  · replace hP := zE_p hP h2
    exact hk _ _ _ (zconso rfl (zconso rfl (zconso (zvo (rfl : i3 x2 = i3 x2)) (zconso rfl rfl))))  (by omega) (by omega) (by omega) hP
  · replace hP := zE_n hP h2
    refine wz_i0 (i3O (n := 4400) (i3A (i3A (show (200 : Int32) = i3 200 from rfl) (i3M (show (20 : Int32) = i3 20 from rfl) (rfl : i3 x3 = i3 x3))) (show (10 : Int32) = i3 10 from rfl)) (by omega) (by omega) (by omega)) ?_
    have r3 := zM_k hZ 2 0 0 (210 + 20 * x3) (lo := 0) (hi := 4) (by decide) (zs_200_10 (x := x3) (by omega) (by omega) (by omega))
    refine wz_br (i3L (show (1 : Int32) = i3 1 from rfl) (zm_rd (Z := Z) (ν := ν) (k := 2) (show ((0 : Nat) : Int) = 0 from rfl) (show ((0 : Nat) : Int) = 0 from rfl) (i3I (y := (210 + 20 * x3)) (i3A (i3A (show (200 : Int32) = i3 200 from rfl) (i3M (show (20 : Int32) = i3 20 from rfl) (rfl : i3 x3 = i3 x3))) (show (10 : Int32) = i3 10 from rfl)) (by omega) (by omega) (by omega))) (by omega) (by omega) (by omega) (by omega)) (fun h4 => ?_) (fun h4 => ?_)
    · replace hP := zE_p hP h4
      obtain ⟨m2, rfl⟩ : ∃ m2, m = m2 + 1 := ⟨m - 1, by omega⟩
      exact wz_k1 ⟨m2, by omega, (x2 + 0), (x3 + 1), (zconso rfl (zconso (zvo (rfl : i3 x1 = i3 x1)) (zconso (zvo (i3A (rfl : i3 x2 = i3 x2) (show (0 : Int32) = i3 0 from rfl))) (zconso (zvo (i3A (rfl : i3 x3 = i3 x3) (show (1 : Int32) = i3 1 from rfl))) rfl)))), rfl,  by omega, by omega, by omega, by omega,  hP⟩
    · replace hP := zE_n hP h4
      refine wz_i0 (i3O (n := 4400) (i3A (i3A (show (200 : Int32) = i3 200 from rfl) (i3M (show (20 : Int32) = i3 20 from rfl) (rfl : i3 x3 = i3 x3))) (show (11 : Int32) = i3 11 from rfl)) (by omega) (by omega) (by omega)) ?_
      have r5 := zM_k hZ 2 0 0 (211 + 20 * x3) (lo := -1) (hi := 6) (by decide) (zs_200_11 (x := x3) (by omega) (by omega) (by omega))
      refine wz_br (i3NE (zm_rd (Z := Z) (ν := ν) (k := 2) (show ((0 : Nat) : Int) = 0 from rfl) (show ((0 : Nat) : Int) = 0 from rfl) (i3I (y := (211 + 20 * x3)) (i3A (i3A (show (200 : Int32) = i3 200 from rfl) (i3M (show (20 : Int32) = i3 20 from rfl) (rfl : i3 x3 = i3 x3))) (show (11 : Int32) = i3 11 from rfl)) (by omega) (by omega) (by omega))) (rfl : i3 x1 = i3 x1) (by omega) (by omega) (by omega) (by omega)) (fun h6 => ?_) (fun h6 => ?_)
      · replace hP := zE_p hP h6
        obtain ⟨m2, rfl⟩ : ∃ m2, m = m2 + 1 := ⟨m - 1, by omega⟩
        exact wz_k1 ⟨m2, by omega, (x2 + 0), (x3 + 1), (zconso rfl (zconso (zvo (rfl : i3 x1 = i3 x1)) (zconso (zvo (i3A (rfl : i3 x2 = i3 x2) (show (0 : Int32) = i3 0 from rfl))) (zconso (zvo (i3A (rfl : i3 x3 = i3 x3) (show (1 : Int32) = i3 1 from rfl))) rfl)))), rfl,  by omega, by omega, by omega, by omega,  hP⟩
      · replace hP := zE_n hP h6
        obtain ⟨m2, rfl⟩ : ∃ m2, m = m2 + 1 := ⟨m - 1, by omega⟩
        exact wz_k1 ⟨m2, by omega, (x2 + 1), (x3 + 1), (zconso rfl (zconso (zvo (rfl : i3 x1 = i3 x1)) (zconso (zvo (i3A (rfl : i3 x2 = i3 x2) (show (1 : Int32) = i3 1 from rfl))) (zconso (zvo (i3A (rfl : i3 x3 = i3 x3) (show (1 : Int32) = i3 1 from rfl))) rfl)))), rfl,  by omega, by omega, by omega, by omega,  hP⟩
/- yX12_rStanding -/
def zf_488 (Z : qz_Z) (a1 : Int) : Int := (zlet2 (zl_488_1 a1 49 Z 0 0) (fun y1 y2 => y1))
theorem sp_488 {s : zSM} {Z : qz_Z} {ν : qz_N} (hZ : zM s Z) {a1 : Int} (ga1 : -1 ≤ a1 ∧ a1 ≤ 2147483647) (hM : s.2 + 0 ≤ 1000000000) : ∃ P : Int, P = zf_488 Z a1 ∧ (qf_488 [.inr (.inr (some (1, 0, 0))), .inl (i3 a1)] (zm Z ν) = some (zm Z ν, .inl (some (.inl (i3 P)))) ∧ 0 ≤ P ∧ P ≤ 48) := by
  obtain ⟨P, hP⟩ := zx (zf_488 Z a1)
  refine zc_R (Q := fun P => 0 ≤ P ∧ P ≤ 48) hP (fw_488 (i3 a1) _ _ ?_)
  replace hP : zE P (zf_488 Z a1) := hP
  unfold zf_488 at hP
  refine sl_488_1 (ν := ν) hZ (zbh (c := 0) (k := 0) hM (Nat.le_of_ble_eq_true rfl)) (x1 := a1) (by omega) (x2 := 0) (by omega) (x3 := 0) (by omega) (by omega) (zconso rfl (zconso (zvo (rfl : i3 a1 = i3 a1)) (zconso (zvo (show (0 : Int32) = i3 0 from rfl)) (zconso (zvo (show (0 : Int32) = i3 0 from rfl)) rfl)))) rfl ?_
  intro L3 y1 y2 hL3 gy1 gy2 gL3_0 q9
  replace hP := zl_e2 hP (Eq.symm q9)
  clear q9
  refine fc_488_2 (i3 y1) _ _ _ _ hL3 ?_
  exact zlR hP (rfl : i3 y1 = i3 y1) ⟨by omega, by omega⟩
