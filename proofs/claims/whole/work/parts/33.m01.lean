/- yX12_rWarms -/
def zf_490 (Z : qz_Z) (a1 : Int) : qz_Z := (if (Z 2 0 0 (1300 + ((Z 2 0 0 0) / 24))) ≤ (Z 2 0 0 (1215 + 12 * a1)) then (if ((Z 2 0 0 (1215 + 12 * a1)) - ((Z 2 0 0 (1212 + 12 * a1)) + (Z 2 0 0 (1216 + 12 * a1)))) ≤ (Z 2 0 0 (1300 + ((Z 2 0 0 0) / 24))) then (if (Z 2 0 0 (1213 + 12 * a1)) ≤ (Z 2 0 0 (1300 + ((Z 2 0 0 0) / 24))) then (if ((Z 2 0 0 (1300 + ((Z 2 0 0 0) / 24))) - (Z 2 0 0 (1211 + 12 * a1))) ≤ (Z 2 0 0 (1213 + 12 * a1)) then (zlet (zu Z 2 0 0 (1215 + 12 * a1) (Z 2 0 0 (1213 + 12 * a1))) (fun Z12 => (if (Z 2 0 0 (1213 + 12 * a1)) = (Z 2 0 0 (1300 + ((Z 2 0 0 0) / 24))) then (zlet (zu Z12 2 0 0 (1217 + 12 * a1) ((Z12 2 0 0 (1217 + 12 * a1)) + 0)) (fun Z15 => (if (Z 2 0 0 (1213 + 12 * a1)) = (Z 2 0 0 (1300 + ((Z 2 0 0 0) / 24))) then (zlet (zu Z15 2 0 0 (1218 + 12 * a1) ((Z15 2 0 0 (1218 + 12 * a1)) + 0)) (fun Z18 => (zlet (zu Z18 2 0 0 (1216 + 12 * a1) 0) (fun Z19 => Z19)))) else (zlet (zu Z15 2 0 0 (1218 + 12 * a1) (w3 ((Z15 2 0 0 (1218 + 12 * a1)) + 1))) (fun Z22 => (zlet (zu Z22 2 0 0 (1216 + 12 * a1) 0) (fun Z23 => Z23))))))) else (zlet (zu Z12 2 0 0 (1217 + 12 * a1) (w3 ((Z12 2 0 0 (1217 + 12 * a1)) + 1))) (fun Z26 => (if (Z 2 0 0 (1213 + 12 * a1)) = (Z 2 0 0 (1300 + ((Z 2 0 0 0) / 24))) then (zlet (zu Z26 2 0 0 (1218 + 12 * a1) ((Z26 2 0 0 (1218 + 12 * a1)) + 0)) (fun Z29 => (zlet (zu Z29 2 0 0 (1216 + 12 * a1) 0) (fun Z30 => Z30)))) else (zlet (zu Z26 2 0 0 (1218 + 12 * a1) (w3 ((Z26 2 0 0 (1218 + 12 * a1)) + 1))) (fun Z33 => (zlet (zu Z33 2 0 0 (1216 + 12 * a1) 0) (fun Z34 => Z34)))))))))) else (zlet (zu Z 2 0 0 (1215 + 12 * a1) ((Z 2 0 0 (1300 + ((Z 2 0 0 0) / 24))) - (Z 2 0 0 (1211 + 12 * a1)))) (fun Z35 => (if ((Z 2 0 0 (1300 + ((Z 2 0 0 0) / 24))) - (Z 2 0 0 (1211 + 12 * a1))) = (Z 2 0 0 (1300 + ((Z 2 0 0 0) / 24))) then (zlet (zu Z35 2 0 0 (1217 + 12 * a1) ((Z35 2 0 0 (1217 + 12 * a1)) + 0)) (fun Z38 => (zlet (zu Z38 2 0 0 (1218 + 12 * a1) ((Z38 2 0 0 (1218 + 12 * a1)) + 0)) (fun Z40 => (zlet (zu Z40 2 0 0 (1216 + 12 * a1) 0) (fun Z41 => Z41)))))) else (zlet (zu Z35 2 0 0 (1217 + 12 * a1) (w3 ((Z35 2 0 0 (1217 + 12 * a1)) + 1))) (fun Z44 => (zlet (zu Z44 2 0 0 (1218 + 12 * a1) (w3 ((Z44 2 0 0 (1218 + 12 * a1)) + 1))) (fun Z47 => (zlet (zu Z47 2 0 0 (1216 + 12 * a1) 0) (fun Z48 => Z48)))))))))) else (if (Z 2 0 0 (1213 + 12 * a1)) ≤ ((Z 2 0 0 (1300 + ((Z 2 0 0 0) / 24))) + (Z 2 0 0 (1211 + 12 * a1))) then (zlet (zu Z 2 0 0 (1215 + 12 * a1) (Z 2 0 0 (1213 + 12 * a1))) (fun Z51 => (if (Z 2 0 0 (1213 + 12 * a1)) = (Z 2 0 0 (1300 + ((Z 2 0 0 0) / 24))) then (zlet (zu Z51 2 0 0 (1217 + 12 * a1) ((Z51 2 0 0 (1217 + 12 * a1)) + 0)) (fun Z54 => (if (Z 2 0 0 (1213 + 12 * a1)) = (Z 2 0 0 (1300 + ((Z 2 0 0 0) / 24))) then (zlet (zu Z54 2 0 0 (1218 + 12 * a1) ((Z54 2 0 0 (1218 + 12 * a1)) + 0)) (fun Z57 => (zlet (zu Z57 2 0 0 (1216 + 12 * a1) 0) (fun Z58 => Z58)))) else (zlet (zu Z54 2 0 0 (1218 + 12 * a1) (w3 ((Z54 2 0 0 (1218 + 12 * a1)) + 1))) (fun Z61 => (zlet (zu Z61 2 0 0 (1216 + 12 * a1) 0) (fun Z62 => Z62))))))) else (zlet (zu Z51 2 0 0 (1217 + 12 * a1) (w3 ((Z51 2 0 0 (1217 + 12 * a1)) + 1))) (fun Z65 => (if (Z 2 0 0 (1213 + 12 * a1)) = (Z 2 0 0 (1300 + ((Z 2 0 0 0) / 24))) then (zlet (zu Z65 2 0 0 (1218 + 12 * a1) ((Z65 2 0 0 (1218 + 12 * a1)) + 0)) (fun Z68 => (zlet (zu Z68 2 0 0 (1216 + 12 * a1) 0) (fun Z69 => Z69)))) else (zlet (zu Z65 2 0 0 (1218 + 12 * a1) (w3 ((Z65 2 0 0 (1218 + 12 * a1)) + 1))) (fun Z72 => (zlet (zu Z72 2 0 0 (1216 + 12 * a1) 0) (fun Z73 => Z73)))))))))) else (zlet (zu Z 2 0 0 (1215 + 12 * a1) ((Z 2 0 0 (1300 + ((Z 2 0 0 0) / 24))) + (Z 2 0 0 (1211 + 12 * a1)))) (fun Z74 => (if ((Z 2 0 0 (1300 + ((Z 2 0 0 0) / 24))) + (Z 2 0 0 (1211 + 12 * a1))) = (Z 2 0 0 (1300 + ((Z 2 0 0 0) / 24))) then (zlet (zu Z74 2 0 0 (1217 + 12 * a1) ((Z74 2 0 0 (1217 + 12 * a1)) + 0)) (fun Z77 => (zlet (zu Z77 2 0 0 (1218 + 12 * a1) ((Z77 2 0 0 (1218 + 12 * a1)) + 0)) (fun Z79 => (zlet (zu Z79 2 0 0 (1216 + 12 * a1) 0) (fun Z80 => Z80)))))) else (zlet (zu Z74 2 0 0 (1217 + 12 * a1) (w3 ((Z74 2 0 0 (1217 + 12 * a1)) + 1))) (fun Z83 => (zlet (zu Z83 2 0 0 (1218 + 12 * a1) (w3 ((Z83 2 0 0 (1218 + 12 * a1)) + 1))) (fun Z86 => (zlet (zu Z86 2 0 0 (1216 + 12 * a1) 0) (fun Z87 => Z87))))))))))) else (if (Z 2 0 0 (1213 + 12 * a1)) ≤ ((Z 2 0 0 (1215 + 12 * a1)) - ((Z 2 0 0 (1212 + 12 * a1)) + (Z 2 0 0 (1216 + 12 * a1)))) then (if (((Z 2 0 0 (1215 + 12 * a1)) - ((Z 2 0 0 (1212 + 12 * a1)) + (Z 2 0 0 (1216 + 12 * a1)))) - (Z 2 0 0 (1211 + 12 * a1))) ≤ (Z 2 0 0 (1213 + 12 * a1)) then (zlet (zu Z 2 0 0 (1215 + 12 * a1) (Z 2 0 0 (1213 + 12 * a1))) (fun Z92 => (if (Z 2 0 0 (1213 + 12 * a1)) = ((Z 2 0 0 (1215 + 12 * a1)) - ((Z 2 0 0 (1212 + 12 * a1)) + (Z 2 0 0 (1216 + 12 * a1)))) then (zlet (zu Z92 2 0 0 (1217 + 12 * a1) ((Z92 2 0 0 (1217 + 12 * a1)) + 0)) (fun Z95 => (if (Z 2 0 0 (1213 + 12 * a1)) = ((Z 2 0 0 (1215 + 12 * a1)) - ((Z 2 0 0 (1212 + 12 * a1)) + (Z 2 0 0 (1216 + 12 * a1)))) then (zlet (zu Z95 2 0 0 (1218 + 12 * a1) ((Z95 2 0 0 (1218 + 12 * a1)) + 0)) (fun Z98 => (zlet (zu Z98 2 0 0 (1216 + 12 * a1) 0) (fun Z99 => Z99)))) else (zlet (zu Z95 2 0 0 (1218 + 12 * a1) (w3 ((Z95 2 0 0 (1218 + 12 * a1)) + 1))) (fun Z102 => (zlet (zu Z102 2 0 0 (1216 + 12 * a1) 0) (fun Z103 => Z103))))))) else (zlet (zu Z92 2 0 0 (1217 + 12 * a1) (w3 ((Z92 2 0 0 (1217 + 12 * a1)) + 1))) (fun Z106 => (if (Z 2 0 0 (1213 + 12 * a1)) = ((Z 2 0 0 (1215 + 12 * a1)) - ((Z 2 0 0 (1212 + 12 * a1)) + (Z 2 0 0 (1216 + 12 * a1)))) then (zlet (zu Z106 2 0 0 (1218 + 12 * a1) ((Z106 2 0 0 (1218 + 12 * a1)) + 0)) (fun Z109 => (zlet (zu Z109 2 0 0 (1216 + 12 * a1) 0) (fun Z110 => Z110)))) else (zlet (zu Z106 2 0 0 (1218 + 12 * a1) (w3 ((Z106 2 0 0 (1218 + 12 * a1)) + 1))) (fun Z113 => (zlet (zu Z113 2 0 0 (1216 + 12 * a1) 0) (fun Z114 => Z114)))))))))) else (zlet (zu Z 2 0 0 (1215 + 12 * a1) (((Z 2 0 0 (1215 + 12 * a1)) - ((Z 2 0 0 (1212 + 12 * a1)) + (Z 2 0 0 (1216 + 12 * a1)))) - (Z 2 0 0 (1211 + 12 * a1)))) (fun Z115 => (if (((Z 2 0 0 (1215 + 12 * a1)) - ((Z 2 0 0 (1212 + 12 * a1)) + (Z 2 0 0 (1216 + 12 * a1)))) - (Z 2 0 0 (1211 + 12 * a1))) = ((Z 2 0 0 (1215 + 12 * a1)) - ((Z 2 0 0 (1212 + 12 * a1)) + (Z 2 0 0 (1216 + 12 * a1)))) then (zlet (zu Z115 2 0 0 (1217 + 12 * a1) ((Z115 2 0 0 (1217 + 12 * a1)) + 0)) (fun Z118 => (zlet (zu Z118 2 0 0 (1218 + 12 * a1) ((Z118 2 0 0 (1218 + 12 * a1)) + 0)) (fun Z120 => (zlet (zu Z120 2 0 0 (1216 + 12 * a1) 0) (fun Z121 => Z121)))))) else (zlet (zu Z115 2 0 0 (1217 + 12 * a1) (w3 ((Z115 2 0 0 (1217 + 12 * a1)) + 1))) (fun Z124 => (zlet (zu Z124 2 0 0 (1218 + 12 * a1) (w3 ((Z124 2 0 0 (1218 + 12 * a1)) + 1))) (fun Z127 => (zlet (zu Z127 2 0 0 (1216 + 12 * a1) 0) (fun Z128 => Z128)))))))))) else (if (Z 2 0 0 (1213 + 12 * a1)) ≤ (((Z 2 0 0 (1215 + 12 * a1)) - ((Z 2 0 0 (1212 + 12 * a1)) + (Z 2 0 0 (1216 + 12 * a1)))) + (Z 2 0 0 (1211 + 12 * a1))) then (zlet (zu Z 2 0 0 (1215 + 12 * a1) (Z 2 0 0 (1213 + 12 * a1))) (fun Z131 => (if (Z 2 0 0 (1213 + 12 * a1)) = ((Z 2 0 0 (1215 + 12 * a1)) - ((Z 2 0 0 (1212 + 12 * a1)) + (Z 2 0 0 (1216 + 12 * a1)))) then (zlet (zu Z131 2 0 0 (1217 + 12 * a1) ((Z131 2 0 0 (1217 + 12 * a1)) + 0)) (fun Z134 => (if (Z 2 0 0 (1213 + 12 * a1)) = ((Z 2 0 0 (1215 + 12 * a1)) - ((Z 2 0 0 (1212 + 12 * a1)) + (Z 2 0 0 (1216 + 12 * a1)))) then (zlet (zu Z134 2 0 0 (1218 + 12 * a1) ((Z134 2 0 0 (1218 + 12 * a1)) + 0)) (fun Z137 => (zlet (zu Z137 2 0 0 (1216 + 12 * a1) 0) (fun Z138 => Z138)))) else (zlet (zu Z134 2 0 0 (1218 + 12 * a1) (w3 ((Z134 2 0 0 (1218 + 12 * a1)) + 1))) (fun Z141 => (zlet (zu Z141 2 0 0 (1216 + 12 * a1) 0) (fun Z142 => Z142))))))) else (zlet (zu Z131 2 0 0 (1217 + 12 * a1) (w3 ((Z131 2 0 0 (1217 + 12 * a1)) + 1))) (fun Z145 => (if (Z 2 0 0 (1213 + 12 * a1)) = ((Z 2 0 0 (1215 + 12 * a1)) - ((Z 2 0 0 (1212 + 12 * a1)) + (Z 2 0 0 (1216 + 12 * a1)))) then (zlet (zu Z145 2 0 0 (1218 + 12 * a1) ((Z145 2 0 0 (1218 + 12 * a1)) + 0)) (fun Z148 => (zlet (zu Z148 2 0 0 (1216 + 12 * a1) 0) (fun Z149 => Z149)))) else (zlet (zu Z145 2 0 0 (1218 + 12 * a1) (w3 ((Z145 2 0 0 (1218 + 12 * a1)) + 1))) (fun Z152 => (zlet (zu Z152 2 0 0 (1216 + 12 * a1) 0) (fun Z153 => Z153)))))))))) else (zlet (zu Z 2 0 0 (1215 + 12 * a1) (((Z 2 0 0 (1215 + 12 * a1)) - ((Z 2 0 0 (1212 + 12 * a1)) + (Z 2 0 0 (1216 + 12 * a1)))) + (Z 2 0 0 (1211 + 12 * a1)))) (fun Z154 => (if (((Z 2 0 0 (1215 + 12 * a1)) - ((Z 2 0 0 (1212 + 12 * a1)) + (Z 2 0 0 (1216 + 12 * a1)))) + (Z 2 0 0 (1211 + 12 * a1))) = ((Z 2 0 0 (1215 + 12 * a1)) - ((Z 2 0 0 (1212 + 12 * a1)) + (Z 2 0 0 (1216 + 12 * a1)))) then (zlet (zu Z154 2 0 0 (1217 + 12 * a1) ((Z154 2 0 0 (1217 + 12 * a1)) + 0)) (fun Z157 => (zlet (zu Z157 2 0 0 (1218 + 12 * a1) ((Z157 2 0 0 (1218 + 12 * a1)) + 0)) (fun Z159 => (zlet (zu Z159 2 0 0 (1216 + 12 * a1) 0) (fun Z160 => Z160)))))) else (zlet (zu Z154 2 0 0 (1217 + 12 * a1) (w3 ((Z154 2 0 0 (1217 + 12 * a1)) + 1))) (fun Z163 => (zlet (zu Z163 2 0 0 (1218 + 12 * a1) (w3 ((Z163 2 0 0 (1218 + 12 * a1)) + 1))) (fun Z166 => (zlet (zu Z166 2 0 0 (1216 + 12 * a1) 0) (fun Z167 => Z167)))))))))))) else (if (Z 2 0 0 (1300 + ((Z 2 0 0 0) / 24))) ≤ ((Z 2 0 0 (1215 + 12 * a1)) + ((Z 2 0 0 (1212 + 12 * a1)) + (Z 2 0 0 (1216 + 12 * a1)))) then (if (Z 2 0 0 (1213 + 12 * a1)) ≤ (Z 2 0 0 (1300 + ((Z 2 0 0 0) / 24))) then (if ((Z 2 0 0 (1300 + ((Z 2 0 0 0) / 24))) - (Z 2 0 0 (1211 + 12 * a1))) ≤ (Z 2 0 0 (1213 + 12 * a1)) then (zlet (zu Z 2 0 0 (1215 + 12 * a1) (Z 2 0 0 (1213 + 12 * a1))) (fun Z175 => (if (Z 2 0 0 (1213 + 12 * a1)) = (Z 2 0 0 (1300 + ((Z 2 0 0 0) / 24))) then (zlet (zu Z175 2 0 0 (1217 + 12 * a1) ((Z175 2 0 0 (1217 + 12 * a1)) + 0)) (fun Z178 => (if (Z 2 0 0 (1213 + 12 * a1)) = (Z 2 0 0 (1300 + ((Z 2 0 0 0) / 24))) then (zlet (zu Z178 2 0 0 (1218 + 12 * a1) ((Z178 2 0 0 (1218 + 12 * a1)) + 0)) (fun Z181 => (zlet (zu Z181 2 0 0 (1216 + 12 * a1) 0) (fun Z182 => Z182)))) else (zlet (zu Z178 2 0 0 (1218 + 12 * a1) (w3 ((Z178 2 0 0 (1218 + 12 * a1)) + 1))) (fun Z185 => (zlet (zu Z185 2 0 0 (1216 + 12 * a1) 0) (fun Z186 => Z186))))))) else (zlet (zu Z175 2 0 0 (1217 + 12 * a1) (w3 ((Z175 2 0 0 (1217 + 12 * a1)) + 1))) (fun Z189 => (if (Z 2 0 0 (1213 + 12 * a1)) = (Z 2 0 0 (1300 + ((Z 2 0 0 0) / 24))) then (zlet (zu Z189 2 0 0 (1218 + 12 * a1) ((Z189 2 0 0 (1218 + 12 * a1)) + 0)) (fun Z192 => (zlet (zu Z192 2 0 0 (1216 + 12 * a1) 0) (fun Z193 => Z193)))) else (zlet (zu Z189 2 0 0 (1218 + 12 * a1) (w3 ((Z189 2 0 0 (1218 + 12 * a1)) + 1))) (fun Z196 => (zlet (zu Z196 2 0 0 (1216 + 12 * a1) 0) (fun Z197 => Z197)))))))))) else (zlet (zu Z 2 0 0 (1215 + 12 * a1) ((Z 2 0 0 (1300 + ((Z 2 0 0 0) / 24))) - (Z 2 0 0 (1211 + 12 * a1)))) (fun Z198 => (if ((Z 2 0 0 (1300 + ((Z 2 0 0 0) / 24))) - (Z 2 0 0 (1211 + 12 * a1))) = (Z 2 0 0 (1300 + ((Z 2 0 0 0) / 24))) then (zlet (zu Z198 2 0 0 (1217 + 12 * a1) ((Z198 2 0 0 (1217 + 12 * a1)) + 0)) (fun Z201 => (zlet (zu Z201 2 0 0 (1218 + 12 * a1) ((Z201 2 0 0 (1218 + 12 * a1)) + 0)) (fun Z203 => (zlet (zu Z203 2 0 0 (1216 + 12 * a1) 0) (fun Z204 => Z204)))))) else (zlet (zu Z198 2 0 0 (1217 + 12 * a1) (w3 ((Z198 2 0 0 (1217 + 12 * a1)) + 1))) (fun Z207 => (zlet (zu Z207 2 0 0 (1218 + 12 * a1) (w3 ((Z207 2 0 0 (1218 + 12 * a1)) + 1))) (fun Z210 => (zlet (zu Z210 2 0 0 (1216 + 12 * a1) 0) (fun Z211 => Z211)))))))))) else (if (Z 2 0 0 (1213 + 12 * a1)) ≤ ((Z 2 0 0 (1300 + ((Z 2 0 0 0) / 24))) + (Z 2 0 0 (1211 + 12 * a1))) then (zlet (zu Z 2 0 0 (1215 + 12 * a1) (Z 2 0 0 (1213 + 12 * a1))) (fun Z214 => (if (Z 2 0 0 (1213 + 12 * a1)) = (Z 2 0 0 (1300 + ((Z 2 0 0 0) / 24))) then (zlet (zu Z214 2 0 0 (1217 + 12 * a1) ((Z214 2 0 0 (1217 + 12 * a1)) + 0)) (fun Z217 => (if (Z 2 0 0 (1213 + 12 * a1)) = (Z 2 0 0 (1300 + ((Z 2 0 0 0) / 24))) then (zlet (zu Z217 2 0 0 (1218 + 12 * a1) ((Z217 2 0 0 (1218 + 12 * a1)) + 0)) (fun Z220 => (zlet (zu Z220 2 0 0 (1216 + 12 * a1) 0) (fun Z221 => Z221)))) else (zlet (zu Z217 2 0 0 (1218 + 12 * a1) (w3 ((Z217 2 0 0 (1218 + 12 * a1)) + 1))) (fun Z224 => (zlet (zu Z224 2 0 0 (1216 + 12 * a1) 0) (fun Z225 => Z225))))))) else (zlet (zu Z214 2 0 0 (1217 + 12 * a1) (w3 ((Z214 2 0 0 (1217 + 12 * a1)) + 1))) (fun Z228 => (if (Z 2 0 0 (1213 + 12 * a1)) = (Z 2 0 0 (1300 + ((Z 2 0 0 0) / 24))) then (zlet (zu Z228 2 0 0 (1218 + 12 * a1) ((Z228 2 0 0 (1218 + 12 * a1)) + 0)) (fun Z231 => (zlet (zu Z231 2 0 0 (1216 + 12 * a1) 0) (fun Z232 => Z232)))) else (zlet (zu Z228 2 0 0 (1218 + 12 * a1) (w3 ((Z228 2 0 0 (1218 + 12 * a1)) + 1))) (fun Z235 => (zlet (zu Z235 2 0 0 (1216 + 12 * a1) 0) (fun Z236 => Z236)))))))))) else (zlet (zu Z 2 0 0 (1215 + 12 * a1) ((Z 2 0 0 (1300 + ((Z 2 0 0 0) / 24))) + (Z 2 0 0 (1211 + 12 * a1)))) (fun Z237 => (if ((Z 2 0 0 (1300 + ((Z 2 0 0 0) / 24))) + (Z 2 0 0 (1211 + 12 * a1))) = (Z 2 0 0 (1300 + ((Z 2 0 0 0) / 24))) then (zlet (zu Z237 2 0 0 (1217 + 12 * a1) ((Z237 2 0 0 (1217 + 12 * a1)) + 0)) (fun Z240 => (zlet (zu Z240 2 0 0 (1218 + 12 * a1) ((Z240 2 0 0 (1218 + 12 * a1)) + 0)) (fun Z242 => (zlet (zu Z242 2 0 0 (1216 + 12 * a1) 0) (fun Z243 => Z243)))))) else (zlet (zu Z237 2 0 0 (1217 + 12 * a1) (w3 ((Z237 2 0 0 (1217 + 12 * a1)) + 1))) (fun Z246 => (zlet (zu Z246 2 0 0 (1218 + 12 * a1) (w3 ((Z246 2 0 0 (1218 + 12 * a1)) + 1))) (fun Z249 => (zlet (zu Z249 2 0 0 (1216 + 12 * a1) 0) (fun Z250 => Z250))))))))))) else (if (Z 2 0 0 (1213 + 12 * a1)) ≤ ((Z 2 0 0 (1215 + 12 * a1)) + ((Z 2 0 0 (1212 + 12 * a1)) + (Z 2 0 0 (1216 + 12 * a1)))) then (if (((Z 2 0 0 (1215 + 12 * a1)) + ((Z 2 0 0 (1212 + 12 * a1)) + (Z 2 0 0 (1216 + 12 * a1)))) - (Z 2 0 0 (1211 + 12 * a1))) ≤ (Z 2 0 0 (1213 + 12 * a1)) then (zlet (zu Z 2 0 0 (1215 + 12 * a1) (Z 2 0 0 (1213 + 12 * a1))) (fun Z255 => (if (Z 2 0 0 (1213 + 12 * a1)) = ((Z 2 0 0 (1215 + 12 * a1)) + ((Z 2 0 0 (1212 + 12 * a1)) + (Z 2 0 0 (1216 + 12 * a1)))) then (zlet (zu Z255 2 0 0 (1217 + 12 * a1) ((Z255 2 0 0 (1217 + 12 * a1)) + 0)) (fun Z258 => (if (Z 2 0 0 (1213 + 12 * a1)) = ((Z 2 0 0 (1215 + 12 * a1)) + ((Z 2 0 0 (1212 + 12 * a1)) + (Z 2 0 0 (1216 + 12 * a1)))) then (zlet (zu Z258 2 0 0 (1218 + 12 * a1) ((Z258 2 0 0 (1218 + 12 * a1)) + 0)) (fun Z261 => (zlet (zu Z261 2 0 0 (1216 + 12 * a1) 0) (fun Z262 => Z262)))) else (zlet (zu Z258 2 0 0 (1218 + 12 * a1) (w3 ((Z258 2 0 0 (1218 + 12 * a1)) + 1))) (fun Z265 => (zlet (zu Z265 2 0 0 (1216 + 12 * a1) 0) (fun Z266 => Z266))))))) else (zlet (zu Z255 2 0 0 (1217 + 12 * a1) (w3 ((Z255 2 0 0 (1217 + 12 * a1)) + 1))) (fun Z269 => (if (Z 2 0 0 (1213 + 12 * a1)) = ((Z 2 0 0 (1215 + 12 * a1)) + ((Z 2 0 0 (1212 + 12 * a1)) + (Z 2 0 0 (1216 + 12 * a1)))) then (zlet (zu Z269 2 0 0 (1218 + 12 * a1) ((Z269 2 0 0 (1218 + 12 * a1)) + 0)) (fun Z272 => (zlet (zu Z272 2 0 0 (1216 + 12 * a1) 0) (fun Z273 => Z273)))) else (zlet (zu Z269 2 0 0 (1218 + 12 * a1) (w3 ((Z269 2 0 0 (1218 + 12 * a1)) + 1))) (fun Z276 => (zlet (zu Z276 2 0 0 (1216 + 12 * a1) 0) (fun Z277 => Z277)))))))))) else (zlet (zu Z 2 0 0 (1215 + 12 * a1) (((Z 2 0 0 (1215 + 12 * a1)) + ((Z 2 0 0 (1212 + 12 * a1)) + (Z 2 0 0 (1216 + 12 * a1)))) - (Z 2 0 0 (1211 + 12 * a1)))) (fun Z278 => (if (((Z 2 0 0 (1215 + 12 * a1)) + ((Z 2 0 0 (1212 + 12 * a1)) + (Z 2 0 0 (1216 + 12 * a1)))) - (Z 2 0 0 (1211 + 12 * a1))) = ((Z 2 0 0 (1215 + 12 * a1)) + ((Z 2 0 0 (1212 + 12 * a1)) + (Z 2 0 0 (1216 + 12 * a1)))) then (zlet (zu Z278 2 0 0 (1217 + 12 * a1) ((Z278 2 0 0 (1217 + 12 * a1)) + 0)) (fun Z281 => (zlet (zu Z281 2 0 0 (1218 + 12 * a1) ((Z281 2 0 0 (1218 + 12 * a1)) + 0)) (fun Z283 => (zlet (zu Z283 2 0 0 (1216 + 12 * a1) 0) (fun Z284 => Z284)))))) else (zlet (zu Z278 2 0 0 (1217 + 12 * a1) (w3 ((Z278 2 0 0 (1217 + 12 * a1)) + 1))) (fun Z287 => (zlet (zu Z287 2 0 0 (1218 + 12 * a1) (w3 ((Z287 2 0 0 (1218 + 12 * a1)) + 1))) (fun Z290 => (zlet (zu Z290 2 0 0 (1216 + 12 * a1) 0) (fun Z291 => Z291)))))))))) else (if (Z 2 0 0 (1213 + 12 * a1)) ≤ (((Z 2 0 0 (1215 + 12 * a1)) + ((Z 2 0 0 (1212 + 12 * a1)) + (Z 2 0 0 (1216 + 12 * a1)))) + (Z 2 0 0 (1211 + 12 * a1))) then (zlet (zu Z 2 0 0 (1215 + 12 * a1) (Z 2 0 0 (1213 + 12 * a1))) (fun Z294 => (if (Z 2 0 0 (1213 + 12 * a1)) = ((Z 2 0 0 (1215 + 12 * a1)) + ((Z 2 0 0 (1212 + 12 * a1)) + (Z 2 0 0 (1216 + 12 * a1)))) then (zlet (zu Z294 2 0 0 (1217 + 12 * a1) ((Z294 2 0 0 (1217 + 12 * a1)) + 0)) (fun Z297 => (if (Z 2 0 0 (1213 + 12 * a1)) = ((Z 2 0 0 (1215 + 12 * a1)) + ((Z 2 0 0 (1212 + 12 * a1)) + (Z 2 0 0 (1216 + 12 * a1)))) then (zlet (zu Z297 2 0 0 (1218 + 12 * a1) ((Z297 2 0 0 (1218 + 12 * a1)) + 0)) (fun Z300 => (zlet (zu Z300 2 0 0 (1216 + 12 * a1) 0) (fun Z301 => Z301)))) else (zlet (zu Z297 2 0 0 (1218 + 12 * a1) (w3 ((Z297 2 0 0 (1218 + 12 * a1)) + 1))) (fun Z304 => (zlet (zu Z304 2 0 0 (1216 + 12 * a1) 0) (fun Z305 => Z305))))))) else (zlet (zu Z294 2 0 0 (1217 + 12 * a1) (w3 ((Z294 2 0 0 (1217 + 12 * a1)) + 1))) (fun Z308 => (if (Z 2 0 0 (1213 + 12 * a1)) = ((Z 2 0 0 (1215 + 12 * a1)) + ((Z 2 0 0 (1212 + 12 * a1)) + (Z 2 0 0 (1216 + 12 * a1)))) then (zlet (zu Z308 2 0 0 (1218 + 12 * a1) ((Z308 2 0 0 (1218 + 12 * a1)) + 0)) (fun Z311 => (zlet (zu Z311 2 0 0 (1216 + 12 * a1) 0) (fun Z312 => Z312)))) else (zlet (zu Z308 2 0 0 (1218 + 12 * a1) (w3 ((Z308 2 0 0 (1218 + 12 * a1)) + 1))) (fun Z315 => (zlet (zu Z315 2 0 0 (1216 + 12 * a1) 0) (fun Z316 => Z316)))))))))) else (zlet (zu Z 2 0 0 (1215 + 12 * a1) (((Z 2 0 0 (1215 + 12 * a1)) + ((Z 2 0 0 (1212 + 12 * a1)) + (Z 2 0 0 (1216 + 12 * a1)))) + (Z 2 0 0 (1211 + 12 * a1)))) (fun Z317 => (if (((Z 2 0 0 (1215 + 12 * a1)) + ((Z 2 0 0 (1212 + 12 * a1)) + (Z 2 0 0 (1216 + 12 * a1)))) + (Z 2 0 0 (1211 + 12 * a1))) = ((Z 2 0 0 (1215 + 12 * a1)) + ((Z 2 0 0 (1212 + 12 * a1)) + (Z 2 0 0 (1216 + 12 * a1)))) then (zlet (zu Z317 2 0 0 (1217 + 12 * a1) ((Z317 2 0 0 (1217 + 12 * a1)) + 0)) (fun Z320 => (zlet (zu Z320 2 0 0 (1218 + 12 * a1) ((Z320 2 0 0 (1218 + 12 * a1)) + 0)) (fun Z322 => (zlet (zu Z322 2 0 0 (1216 + 12 * a1) 0) (fun Z323 => Z323)))))) else (zlet (zu Z317 2 0 0 (1217 + 12 * a1) (w3 ((Z317 2 0 0 (1217 + 12 * a1)) + 1))) (fun Z326 => (zlet (zu Z326 2 0 0 (1218 + 12 * a1) (w3 ((Z326 2 0 0 (1218 + 12 * a1)) + 1))) (fun Z329 => (zlet (zu Z329 2 0 0 (1216 + 12 * a1) 0) (fun Z330 => Z330)))))))))))))
theorem sp_490 {s : zSM} {Z : qz_Z} {ν : qz_N} (hZ : zM s Z) {a1 : Int} (ga1 : 0 ≤ a1 ∧ a1 ≤ 5) (hM : s.2 + 0 ≤ 1000000000) : ∃ P : qz_Z, P = zf_490 Z a1 ∧ (qf_490 [.inr (.inr (some (1, 0, 0))), .inl (i3 a1)] (zm Z ν) = some (zm P ν, .inl none) ∧ zM s P ∧ zC [2] Z P ∧ zU [] Z P) := by
  obtain ⟨P, hP⟩ := zx (zf_490 Z a1)
  refine zc_V (Q := fun P => zM s P ∧ zC [2] Z P ∧ zU [] Z P) hP (fw_490 (i3 a1) _ _ ?_)
  replace hP : zE P (zf_490 Z a1) := hP
  unfold zf_490 at hP
  refine wz_i0 (i3O (n := 4400) (i3A (i3A (show (1210 : Int32) = i3 1210 from rfl) (i3M (show (12 : Int32) = i3 12 from rfl) (rfl : i3 a1 = i3 a1))) (show (5 : Int32) = i3 5 from rfl)) (by omega) (by omega) (by omega)) ?_
  have r1 := zM_k hZ 2 0 0 0 (lo := 0) (hi := 671) (by decide) rfl
  refine wz_i0 (i3O (n := 4400) (i3A (show (1300 : Int32) = i3 1300 from rfl) (i3D (zm_rd (Z := Z) (ν := ν) (k := 2) (show ((0 : Nat) : Int) = 0 from rfl) (show ((0 : Nat) : Int) = 0 from rfl) (show ((0 : Nat) : Int) = 0 from rfl)) (show (24 : Int32) = i3 24 from rfl) (by omega) (by omega) (by omega) (by omega))) (by omega) (by omega) (by omega)) ?_
  refine wz_i0 (i3O (n := 4400) (i3A (i3A (show (1210 : Int32) = i3 1210 from rfl) (i3M (show (12 : Int32) = i3 12 from rfl) (rfl : i3 a1 = i3 a1))) (show (2 : Int32) = i3 2 from rfl)) (by omega) (by omega) (by omega)) ?_
  refine wz_i0 (i3O (n := 4400) (i3A (i3A (show (1210 : Int32) = i3 1210 from rfl) (i3M (show (12 : Int32) = i3 12 from rfl) (rfl : i3 a1 = i3 a1))) (show (6 : Int32) = i3 6 from rfl)) (by omega) (by omega) (by omega)) ?_
  have r2 := zM_k hZ 2 0 0 (1300 + ((Z 2 0 0 0) / 24)) (lo := 0) (hi := 40) (by decide) (zs_1300 (by omega) (by omega))
  have r3 := zM_k hZ 2 0 0 (1215 + 12 * a1) (lo := 0) (hi := 40) (by decide) (zs_1210_5 (x := a1) (by omega) (by omega) (by omega))
  refine wz_br (i3Le (zm_rd (Z := Z) (ν := ν) (k := 2) (show ((0 : Nat) : Int) = 0 from rfl) (show ((0 : Nat) : Int) = 0 from rfl) (i3I (y := (1300 + ((Z 2 0 0 0) / 24))) (i3A (show (1300 : Int32) = i3 1300 from rfl) (i3D (zm_rd (Z := Z) (ν := ν) (k := 2) (show ((0 : Nat) : Int) = 0 from rfl) (show ((0 : Nat) : Int) = 0 from rfl) (show ((0 : Nat) : Int) = 0 from rfl)) (show (24 : Int32) = i3 24 from rfl) (by omega) (by omega) (by omega) (by omega))) (by omega) (by omega) (by omega))) (zm_rd (Z := Z) (ν := ν) (k := 2) (show ((0 : Nat) : Int) = 0 from rfl) (show ((0 : Nat) : Int) = 0 from rfl) (i3I (y := (1215 + 12 * a1)) (i3A (i3A (show (1210 : Int32) = i3 1210 from rfl) (i3M (show (12 : Int32) = i3 12 from rfl) (rfl : i3 a1 = i3 a1))) (show (5 : Int32) = i3 5 from rfl)) (by omega) (by omega) (by omega))) (by omega) (by omega) (by omega) (by omega)) (fun h4 => ?_) (fun h4 => ?_)
  · replace hP := zE_p hP h4
    have r5 := zM_k hZ 2 0 0 (1212 + 12 * a1) (lo := 0) (hi := 9) (by decide) (zs_1210_2 (x := a1) (by omega) (by omega) (by omega))
    have r6 := zM_dr hZ a1 (by omega) (zbh (c := 0) (k := 0) hM (Nat.le_of_ble_eq_true rfl))
    refine wz_br (i3Le (i3S (zm_rd (Z := Z) (ν := ν) (k := 2) (show ((0 : Nat) : Int) = 0 from rfl) (show ((0 : Nat) : Int) = 0 from rfl) (i3I (y := (1215 + 12 * a1)) (i3A (i3A (show (1210 : Int32) = i3 1210 from rfl) (i3M (show (12 : Int32) = i3 12 from rfl) (rfl : i3 a1 = i3 a1))) (show (5 : Int32) = i3 5 from rfl)) (by omega) (by omega) (by omega))) (i3A (zm_rd (Z := Z) (ν := ν) (k := 2) (show ((0 : Nat) : Int) = 0 from rfl) (show ((0 : Nat) : Int) = 0 from rfl) (i3I (y := (1212 + 12 * a1)) (i3A (i3A (show (1210 : Int32) = i3 1210 from rfl) (i3M (show (12 : Int32) = i3 12 from rfl) (rfl : i3 a1 = i3 a1))) (show (2 : Int32) = i3 2 from rfl)) (by omega) (by omega) (by omega))) (zm_rd (Z := Z) (ν := ν) (k := 2) (show ((0 : Nat) : Int) = 0 from rfl) (show ((0 : Nat) : Int) = 0 from rfl) (i3I (y := (1216 + 12 * a1)) (i3A (i3A (show (1210 : Int32) = i3 1210 from rfl) (i3M (show (12 : Int32) = i3 12 from rfl) (rfl : i3 a1 = i3 a1))) (show (6 : Int32) = i3 6 from rfl)) (by omega) (by omega) (by omega))))) (zm_rd (Z := Z) (ν := ν) (k := 2) (show ((0 : Nat) : Int) = 0 from rfl) (show ((0 : Nat) : Int) = 0 from rfl) (i3I (y := (1300 + ((Z 2 0 0 0) / 24))) (i3A (show (1300 : Int32) = i3 1300 from rfl) (i3D (zm_rd (Z := Z) (ν := ν) (k := 2) (show ((0 : Nat) : Int) = 0 from rfl) (show ((0 : Nat) : Int) = 0 from rfl) (show ((0 : Nat) : Int) = 0 from rfl)) (show (24 : Int32) = i3 24 from rfl) (by omega) (by omega) (by omega) (by omega))) (by omega) (by omega) (by omega))) (by omega) (by omega) (by omega) (by omega)) (fun h7 => ?_) (fun h7 => ?_)
    · replace hP := zE_p hP h7
      refine wz_i0 (i3O (n := 4400) (i3A (i3A (show (1210 : Int32) = i3 1210 from rfl) (i3M (show (12 : Int32) = i3 12 from rfl) (rfl : i3 a1 = i3 a1))) (show (3 : Int32) = i3 3 from rfl)) (by omega) (by omega) (by omega)) ?_
      refine wz_i0 (i3O (n := 4400) (i3A (i3A (show (1210 : Int32) = i3 1210 from rfl) (i3M (show (12 : Int32) = i3 12 from rfl) (rfl : i3 a1 = i3 a1))) (show (1 : Int32) = i3 1 from rfl)) (by omega) (by omega) (by omega)) ?_
      have r8 := zM_k hZ 2 0 0 (1213 + 12 * a1) (lo := 0) (hi := 40) (by decide) (zs_1210_3 (x := a1) (by omega) (by omega) (by omega))
      refine wz_br (i3Le (zm_rd (Z := Z) (ν := ν) (k := 2) (show ((0 : Nat) : Int) = 0 from rfl) (show ((0 : Nat) : Int) = 0 from rfl) (i3I (y := (1213 + 12 * a1)) (i3A (i3A (show (1210 : Int32) = i3 1210 from rfl) (i3M (show (12 : Int32) = i3 12 from rfl) (rfl : i3 a1 = i3 a1))) (show (3 : Int32) = i3 3 from rfl)) (by omega) (by omega) (by omega))) (zm_rd (Z := Z) (ν := ν) (k := 2) (show ((0 : Nat) : Int) = 0 from rfl) (show ((0 : Nat) : Int) = 0 from rfl) (i3I (y := (1300 + ((Z 2 0 0 0) / 24))) (i3A (show (1300 : Int32) = i3 1300 from rfl) (i3D (zm_rd (Z := Z) (ν := ν) (k := 2) (show ((0 : Nat) : Int) = 0 from rfl) (show ((0 : Nat) : Int) = 0 from rfl) (show ((0 : Nat) : Int) = 0 from rfl)) (show (24 : Int32) = i3 24 from rfl) (by omega) (by omega) (by omega) (by omega))) (by omega) (by omega) (by omega))) (by omega) (by omega) (by omega) (by omega)) (fun h9 => ?_) (fun h9 => ?_)
      · replace hP := zE_p hP h9
        have r10 := zM_k hZ 2 0 0 (1211 + 12 * a1) (lo := 0) (hi := 9) (by decide) (zs_1210_1 (x := a1) (by omega) (by omega) (by omega))
        refine wz_br (i3Le (i3S (zm_rd (Z := Z) (ν := ν) (k := 2) (show ((0 : Nat) : Int) = 0 from rfl) (show ((0 : Nat) : Int) = 0 from rfl) (i3I (y := (1300 + ((Z 2 0 0 0) / 24))) (i3A (show (1300 : Int32) = i3 1300 from rfl) (i3D (zm_rd (Z := Z) (ν := ν) (k := 2) (show ((0 : Nat) : Int) = 0 from rfl) (show ((0 : Nat) : Int) = 0 from rfl) (show ((0 : Nat) : Int) = 0 from rfl)) (show (24 : Int32) = i3 24 from rfl) (by omega) (by omega) (by omega) (by omega))) (by omega) (by omega) (by omega))) (zm_rd (Z := Z) (ν := ν) (k := 2) (show ((0 : Nat) : Int) = 0 from rfl) (show ((0 : Nat) : Int) = 0 from rfl) (i3I (y := (1211 + 12 * a1)) (i3A (i3A (show (1210 : Int32) = i3 1210 from rfl) (i3M (show (12 : Int32) = i3 12 from rfl) (rfl : i3 a1 = i3 a1))) (show (1 : Int32) = i3 1 from rfl)) (by omega) (by omega) (by omega)))) (zm_rd (Z := Z) (ν := ν) (k := 2) (show ((0 : Nat) : Int) = 0 from rfl) (show ((0 : Nat) : Int) = 0 from rfl) (i3I (y := (1213 + 12 * a1)) (i3A (i3A (show (1210 : Int32) = i3 1210 from rfl) (i3M (show (12 : Int32) = i3 12 from rfl) (rfl : i3 a1 = i3 a1))) (show (3 : Int32) = i3 3 from rfl)) (by omega) (by omega) (by omega))) (by omega) (by omega) (by omega) (by omega)) (fun h11 => ?_) (fun h11 => ?_)
        · replace hP := zE_p hP h11
          refine wz_i0 (i3O (n := 4400) (i3A (i3A (show (1210 : Int32) = i3 1210 from rfl) (i3M (show (12 : Int32) = i3 12 from rfl) (rfl : i3 a1 = i3 a1))) (show (5 : Int32) = i3 5 from rfl)) (by omega) (by omega) (by omega)) ?_
          obtain ⟨Z12, hZ12⟩ := zx (zu Z 2 0 0 (1215 + 12 * a1) (Z 2 0 0 (1213 + 12 * a1)))
          replace hP := zl_e hP hZ12
          have hZ12I := zM_u2 hZ hZ12 (lo := 0) (hi := 40) (zs_1210_5 (x := a1) (by omega) (by omega) (by omega)) (by omega) ⟨by decide, by decide⟩ (by simp only [zsp]; omega)
          have hZ12U : zU [] Z Z12 := zU_u zU_r hZ12 (Or.inl rfl)
          have hZ12K : zC [2] Z Z12 := zC_u zC_r hZ12 (zcl_2w (by omega) rfl)
          intro μ9 e9
          replace e9 := e9.trans (zm_wI (Z := Z) (ν := ν) hZ12 (show ((0 : Nat) : Int) = 0 from rfl) (show ((0 : Nat) : Int) = 0 from rfl) (i3I (y := (1215 + 12 * a1)) (i3A (i3A (show (1210 : Int32) = i3 1210 from rfl) (i3M (show (12 : Int32) = i3 12 from rfl) (rfl : i3 a1 = i3 a1))) (show (5 : Int32) = i3 5 from rfl)) (by omega) (by omega) (by omega)) (zm_rd (Z := Z) (ν := ν) (k := 2) (show ((0 : Nat) : Int) = 0 from rfl) (show ((0 : Nat) : Int) = 0 from rfl) (i3I (y := (1213 + 12 * a1)) (i3A (i3A (show (1210 : Int32) = i3 1210 from rfl) (i3M (show (12 : Int32) = i3 12 from rfl) (rfl : i3 a1 = i3 a1))) (show (3 : Int32) = i3 3 from rfl)) (by omega) (by omega) (by omega))))
          subst e9
          refine wz_i0 (i3O (n := 4400) (i3A (i3A (show (1210 : Int32) = i3 1210 from rfl) (i3M (show (12 : Int32) = i3 12 from rfl) (rfl : i3 a1 = i3 a1))) (show (7 : Int32) = i3 7 from rfl)) (by omega) (by omega) (by omega)) ?_
          refine wz_br (i3E (zm_rd (Z := Z) (ν := ν) (k := 2) (show ((0 : Nat) : Int) = 0 from rfl) (show ((0 : Nat) : Int) = 0 from rfl) (i3I (y := (1213 + 12 * a1)) (i3A (i3A (show (1210 : Int32) = i3 1210 from rfl) (i3M (show (12 : Int32) = i3 12 from rfl) (rfl : i3 a1 = i3 a1))) (show (3 : Int32) = i3 3 from rfl)) (by omega) (by omega) (by omega))) (zm_rd (Z := Z) (ν := ν) (k := 2) (show ((0 : Nat) : Int) = 0 from rfl) (show ((0 : Nat) : Int) = 0 from rfl) (i3I (y := (1300 + ((Z 2 0 0 0) / 24))) (i3A (show (1300 : Int32) = i3 1300 from rfl) (i3D (zm_rd (Z := Z) (ν := ν) (k := 2) (show ((0 : Nat) : Int) = 0 from rfl) (show ((0 : Nat) : Int) = 0 from rfl) (show ((0 : Nat) : Int) = 0 from rfl)) (show (24 : Int32) = i3 24 from rfl) (by omega) (by omega) (by omega) (by omega))) (by omega) (by omega) (by omega))) (by omega) (by omega) (by omega) (by omega)) (fun h13 => ?_) (fun h13 => ?_)
          · replace hP := zE_p hP h13
            refine wz_i0 (i3O (n := 4400) (i3A (i3A (show (1210 : Int32) = i3 1210 from rfl) (i3M (show (12 : Int32) = i3 12 from rfl) (rfl : i3 a1 = i3 a1))) (show (7 : Int32) = i3 7 from rfl)) (by omega) (by omega) (by omega)) ?_
            have r14 := zM_f hZ12I 2 0 0 (1217 + 12 * a1)
            obtain ⟨Z15, hZ15⟩ := zx (zu Z12 2 0 0 (1217 + 12 * a1) ((Z12 2 0 0 (1217 + 12 * a1)) + 0))
            replace hP := zl_e hP hZ15
            have hZ15I := zM_u2 hZ12I hZ15 (lo := -2147483648) (hi := 2147483647) (zs_1210_7 (x := a1) (by omega) (by omega) (by omega)) (by omega) ⟨by decide, by decide⟩ (by simp only [zsp]; omega)
            have hZ15U : zU [] Z Z15 := zU_u hZ12U hZ15 (Or.inl rfl)
            have hZ15K : zC [2] Z Z15 := zC_u hZ12K hZ15 (zcl_2w (by omega) rfl)
            intro μ9 e9
            replace e9 := e9.trans (zm_wI (Z := Z12) (ν := ν) hZ15 (show ((0 : Nat) : Int) = 0 from rfl) (show ((0 : Nat) : Int) = 0 from rfl) (i3I (y := (1217 + 12 * a1)) (i3A (i3A (show (1210 : Int32) = i3 1210 from rfl) (i3M (show (12 : Int32) = i3 12 from rfl) (rfl : i3 a1 = i3 a1))) (show (7 : Int32) = i3 7 from rfl)) (by omega) (by omega) (by omega)) (i3A (zm_rd (Z := Z12) (ν := ν) (k := 2) (show ((0 : Nat) : Int) = 0 from rfl) (show ((0 : Nat) : Int) = 0 from rfl) (i3I (y := (1217 + 12 * a1)) (i3A (i3A (show (1210 : Int32) = i3 1210 from rfl) (i3M (show (12 : Int32) = i3 12 from rfl) (rfl : i3 a1 = i3 a1))) (show (7 : Int32) = i3 7 from rfl)) (by omega) (by omega) (by omega))) (show (0 : Int32) = i3 0 from rfl)))
            subst e9
            refine wz_i0 (i3O (n := 4400) (i3A (i3A (show (1210 : Int32) = i3 1210 from rfl) (i3M (show (12 : Int32) = i3 12 from rfl) (rfl : i3 a1 = i3 a1))) (show (8 : Int32) = i3 8 from rfl)) (by omega) (by omega) (by omega)) ?_
            refine wz_br (i3E (zm_rd (Z := Z) (ν := ν) (k := 2) (show ((0 : Nat) : Int) = 0 from rfl) (show ((0 : Nat) : Int) = 0 from rfl) (i3I (y := (1213 + 12 * a1)) (i3A (i3A (show (1210 : Int32) = i3 1210 from rfl) (i3M (show (12 : Int32) = i3 12 from rfl) (rfl : i3 a1 = i3 a1))) (show (3 : Int32) = i3 3 from rfl)) (by omega) (by omega) (by omega))) (zm_rd (Z := Z) (ν := ν) (k := 2) (show ((0 : Nat) : Int) = 0 from rfl) (show ((0 : Nat) : Int) = 0 from rfl) (i3I (y := (1300 + ((Z 2 0 0 0) / 24))) (i3A (show (1300 : Int32) = i3 1300 from rfl) (i3D (zm_rd (Z := Z) (ν := ν) (k := 2) (show ((0 : Nat) : Int) = 0 from rfl) (show ((0 : Nat) : Int) = 0 from rfl) (show ((0 : Nat) : Int) = 0 from rfl)) (show (24 : Int32) = i3 24 from rfl) (by omega) (by omega) (by omega) (by omega))) (by omega) (by omega) (by omega))) (by omega) (by omega) (by omega) (by omega)) (fun h16 => ?_) (fun h16 => ?_)
            · replace hP := zE_p hP h16
              refine wz_i0 (i3O (n := 4400) (i3A (i3A (show (1210 : Int32) = i3 1210 from rfl) (i3M (show (12 : Int32) = i3 12 from rfl) (rfl : i3 a1 = i3 a1))) (show (8 : Int32) = i3 8 from rfl)) (by omega) (by omega) (by omega)) ?_
              have r17 := zM_f hZ15I 2 0 0 (1218 + 12 * a1)
              obtain ⟨Z18, hZ18⟩ := zx (zu Z15 2 0 0 (1218 + 12 * a1) ((Z15 2 0 0 (1218 + 12 * a1)) + 0))
              replace hP := zl_e hP hZ18
              have hZ18I := zM_u2 hZ15I hZ18 (lo := -2147483648) (hi := 2147483647) (zs_1210_8 (x := a1) (by omega) (by omega) (by omega)) (by omega) ⟨by decide, by decide⟩ (by simp only [zsp]; omega)
              have hZ18U : zU [] Z Z18 := zU_u hZ15U hZ18 (Or.inl rfl)
              have hZ18K : zC [2] Z Z18 := zC_u hZ15K hZ18 (zcl_2w (by omega) rfl)
              intro μ9 e9
              replace e9 := e9.trans (zm_wI (Z := Z15) (ν := ν) hZ18 (show ((0 : Nat) : Int) = 0 from rfl) (show ((0 : Nat) : Int) = 0 from rfl) (i3I (y := (1218 + 12 * a1)) (i3A (i3A (show (1210 : Int32) = i3 1210 from rfl) (i3M (show (12 : Int32) = i3 12 from rfl) (rfl : i3 a1 = i3 a1))) (show (8 : Int32) = i3 8 from rfl)) (by omega) (by omega) (by omega)) (i3A (zm_rd (Z := Z15) (ν := ν) (k := 2) (show ((0 : Nat) : Int) = 0 from rfl) (show ((0 : Nat) : Int) = 0 from rfl) (i3I (y := (1218 + 12 * a1)) (i3A (i3A (show (1210 : Int32) = i3 1210 from rfl) (i3M (show (12 : Int32) = i3 12 from rfl) (rfl : i3 a1 = i3 a1))) (show (8 : Int32) = i3 8 from rfl)) (by omega) (by omega) (by omega))) (show (0 : Int32) = i3 0 from rfl)))
              subst e9
              refine wz_i0 (i3O (n := 4400) (i3A (i3A (show (1210 : Int32) = i3 1210 from rfl) (i3M (show (12 : Int32) = i3 12 from rfl) (rfl : i3 a1 = i3 a1))) (show (6 : Int32) = i3 6 from rfl)) (by omega) (by omega) (by omega)) ?_
              obtain ⟨Z19, hZ19⟩ := zx (zu Z18 2 0 0 (1216 + 12 * a1) 0)
              replace hP := zl_e hP hZ19
              have hZ19I := zM_z2 hZ18I hZ19 (by omega) (by omega) (by omega)
              have hZ19U : zU [] Z Z19 := zU_u hZ18U hZ19 (Or.inl rfl)
              have hZ19K : zC [2] Z Z19 := zC_u hZ18K hZ19 (zcl_2w (by omega) rfl)
              intro μ9 e9
              replace e9 := e9.trans (zm_wI (Z := Z18) (ν := ν) hZ19 (show ((0 : Nat) : Int) = 0 from rfl) (show ((0 : Nat) : Int) = 0 from rfl) (i3I (y := (1216 + 12 * a1)) (i3A (i3A (show (1210 : Int32) = i3 1210 from rfl) (i3M (show (12 : Int32) = i3 12 from rfl) (rfl : i3 a1 = i3 a1))) (show (6 : Int32) = i3 6 from rfl)) (by omega) (by omega) (by omega)) (show (0 : Int32) = i3 0 from rfl))
              subst e9
              exact zlV hP ⟨hZ19I, hZ19K, hZ19U⟩
            · replace hP := zE_n hP h16
              refine wz_i0 (i3O (n := 4400) (i3A (i3A (show (1210 : Int32) = i3 1210 from rfl) (i3M (show (12 : Int32) = i3 12 from rfl) (rfl : i3 a1 = i3 a1))) (show (8 : Int32) = i3 8 from rfl)) (by omega) (by omega) (by omega)) ?_
              have r20 := zM_f hZ15I 2 0 0 (1218 + 12 * a1)
              have r21 := w3_r ((Z15 2 0 0 (1218 + 12 * a1)) + 1)
              obtain ⟨Z22, hZ22⟩ := zx (zu Z15 2 0 0 (1218 + 12 * a1) (w3 ((Z15 2 0 0 (1218 + 12 * a1)) + 1)))
              replace hP := zl_e hP hZ22
              have hZ22I := zM_u2 hZ15I hZ22 (lo := -2147483648) (hi := 2147483647) (zs_1210_8 (x := a1) (by omega) (by omega) (by omega)) (by omega) ⟨by decide, by decide⟩ (by simp only [zsp]; omega)
              have hZ22U : zU [] Z Z22 := zU_u hZ15U hZ22 (Or.inl rfl)
              have hZ22K : zC [2] Z Z22 := zC_u hZ15K hZ22 (zcl_2w (by omega) rfl)
              intro μ9 e9
              replace e9 := e9.trans (zm_wI (Z := Z15) (ν := ν) hZ22 (show ((0 : Nat) : Int) = 0 from rfl) (show ((0 : Nat) : Int) = 0 from rfl) (i3I (y := (1218 + 12 * a1)) (i3A (i3A (show (1210 : Int32) = i3 1210 from rfl) (i3M (show (12 : Int32) = i3 12 from rfl) (rfl : i3 a1 = i3 a1))) (show (8 : Int32) = i3 8 from rfl)) (by omega) (by omega) (by omega)) (i3W (i3A (zm_rd (Z := Z15) (ν := ν) (k := 2) (show ((0 : Nat) : Int) = 0 from rfl) (show ((0 : Nat) : Int) = 0 from rfl) (i3I (y := (1218 + 12 * a1)) (i3A (i3A (show (1210 : Int32) = i3 1210 from rfl) (i3M (show (12 : Int32) = i3 12 from rfl) (rfl : i3 a1 = i3 a1))) (show (8 : Int32) = i3 8 from rfl)) (by omega) (by omega) (by omega))) (show (1 : Int32) = i3 1 from rfl))))
              subst e9
              refine wz_i0 (i3O (n := 4400) (i3A (i3A (show (1210 : Int32) = i3 1210 from rfl) (i3M (show (12 : Int32) = i3 12 from rfl) (rfl : i3 a1 = i3 a1))) (show (6 : Int32) = i3 6 from rfl)) (by omega) (by omega) (by omega)) ?_
              obtain ⟨Z23, hZ23⟩ := zx (zu Z22 2 0 0 (1216 + 12 * a1) 0)
              replace hP := zl_e hP hZ23
              have hZ23I := zM_z2 hZ22I hZ23 (by omega) (by omega) (by omega)
              have hZ23U : zU [] Z Z23 := zU_u hZ22U hZ23 (Or.inl rfl)
              have hZ23K : zC [2] Z Z23 := zC_u hZ22K hZ23 (zcl_2w (by omega) rfl)
              intro μ9 e9
              replace e9 := e9.trans (zm_wI (Z := Z22) (ν := ν) hZ23 (show ((0 : Nat) : Int) = 0 from rfl) (show ((0 : Nat) : Int) = 0 from rfl) (i3I (y := (1216 + 12 * a1)) (i3A (i3A (show (1210 : Int32) = i3 1210 from rfl) (i3M (show (12 : Int32) = i3 12 from rfl) (rfl : i3 a1 = i3 a1))) (show (6 : Int32) = i3 6 from rfl)) (by omega) (by omega) (by omega)) (show (0 : Int32) = i3 0 from rfl))
              subst e9
              exact zlV hP ⟨hZ23I, hZ23K, hZ23U⟩
          · replace hP := zE_n hP h13
            refine wz_i0 (i3O (n := 4400) (i3A (i3A (show (1210 : Int32) = i3 1210 from rfl) (i3M (show (12 : Int32) = i3 12 from rfl) (rfl : i3 a1 = i3 a1))) (show (7 : Int32) = i3 7 from rfl)) (by omega) (by omega) (by omega)) ?_
            have r24 := zM_f hZ12I 2 0 0 (1217 + 12 * a1)
            have r25 := w3_r ((Z12 2 0 0 (1217 + 12 * a1)) + 1)
            obtain ⟨Z26, hZ26⟩ := zx (zu Z12 2 0 0 (1217 + 12 * a1) (w3 ((Z12 2 0 0 (1217 + 12 * a1)) + 1)))
            replace hP := zl_e hP hZ26
            have hZ26I := zM_u2 hZ12I hZ26 (lo := -2147483648) (hi := 2147483647) (zs_1210_7 (x := a1) (by omega) (by omega) (by omega)) (by omega) ⟨by decide, by decide⟩ (by simp only [zsp]; omega)
            have hZ26U : zU [] Z Z26 := zU_u hZ12U hZ26 (Or.inl rfl)
            have hZ26K : zC [2] Z Z26 := zC_u hZ12K hZ26 (zcl_2w (by omega) rfl)
            intro μ9 e9
            replace e9 := e9.trans (zm_wI (Z := Z12) (ν := ν) hZ26 (show ((0 : Nat) : Int) = 0 from rfl) (show ((0 : Nat) : Int) = 0 from rfl) (i3I (y := (1217 + 12 * a1)) (i3A (i3A (show (1210 : Int32) = i3 1210 from rfl) (i3M (show (12 : Int32) = i3 12 from rfl) (rfl : i3 a1 = i3 a1))) (show (7 : Int32) = i3 7 from rfl)) (by omega) (by omega) (by omega)) (i3W (i3A (zm_rd (Z := Z12) (ν := ν) (k := 2) (show ((0 : Nat) : Int) = 0 from rfl) (show ((0 : Nat) : Int) = 0 from rfl) (i3I (y := (1217 + 12 * a1)) (i3A (i3A (show (1210 : Int32) = i3 1210 from rfl) (i3M (show (12 : Int32) = i3 12 from rfl) (rfl : i3 a1 = i3 a1))) (show (7 : Int32) = i3 7 from rfl)) (by omega) (by omega) (by omega))) (show (1 : Int32) = i3 1 from rfl))))
            subst e9
            refine wz_i0 (i3O (n := 4400) (i3A (i3A (show (1210 : Int32) = i3 1210 from rfl) (i3M (show (12 : Int32) = i3 12 from rfl) (rfl : i3 a1 = i3 a1))) (show (8 : Int32) = i3 8 from rfl)) (by omega) (by omega) (by omega)) ?_
            refine wz_br (i3E (zm_rd (Z := Z) (ν := ν) (k := 2) (show ((0 : Nat) : Int) = 0 from rfl) (show ((0 : Nat) : Int) = 0 from rfl) (i3I (y := (1213 + 12 * a1)) (i3A (i3A (show (1210 : Int32) = i3 1210 from rfl) (i3M (show (12 : Int32) = i3 12 from rfl) (rfl : i3 a1 = i3 a1))) (show (3 : Int32) = i3 3 from rfl)) (by omega) (by omega) (by omega))) (zm_rd (Z := Z) (ν := ν) (k := 2) (show ((0 : Nat) : Int) = 0 from rfl) (show ((0 : Nat) : Int) = 0 from rfl) (i3I (y := (1300 + ((Z 2 0 0 0) / 24))) (i3A (show (1300 : Int32) = i3 1300 from rfl) (i3D (zm_rd (Z := Z) (ν := ν) (k := 2) (show ((0 : Nat) : Int) = 0 from rfl) (show ((0 : Nat) : Int) = 0 from rfl) (show ((0 : Nat) : Int) = 0 from rfl)) (show (24 : Int32) = i3 24 from rfl) (by omega) (by omega) (by omega) (by omega))) (by omega) (by omega) (by omega))) (by omega) (by omega) (by omega) (by omega)) (fun h27 => ?_) (fun h27 => ?_)
            · replace hP := zE_p hP h27
              refine wz_i0 (i3O (n := 4400) (i3A (i3A (show (1210 : Int32) = i3 1210 from rfl) (i3M (show (12 : Int32) = i3 12 from rfl) (rfl : i3 a1 = i3 a1))) (show (8 : Int32) = i3 8 from rfl)) (by omega) (by omega) (by omega)) ?_
              have r28 := zM_f hZ26I 2 0 0 (1218 + 12 * a1)
              obtain ⟨Z29, hZ29⟩ := zx (zu Z26 2 0 0 (1218 + 12 * a1) ((Z26 2 0 0 (1218 + 12 * a1)) + 0))
              replace hP := zl_e hP hZ29
              have hZ29I := zM_u2 hZ26I hZ29 (lo := -2147483648) (hi := 2147483647) (zs_1210_8 (x := a1) (by omega) (by omega) (by omega)) (by omega) ⟨by decide, by decide⟩ (by simp only [zsp]; omega)
              have hZ29U : zU [] Z Z29 := zU_u hZ26U hZ29 (Or.inl rfl)
              have hZ29K : zC [2] Z Z29 := zC_u hZ26K hZ29 (zcl_2w (by omega) rfl)
              intro μ9 e9
              replace e9 := e9.trans (zm_wI (Z := Z26) (ν := ν) hZ29 (show ((0 : Nat) : Int) = 0 from rfl) (show ((0 : Nat) : Int) = 0 from rfl) (i3I (y := (1218 + 12 * a1)) (i3A (i3A (show (1210 : Int32) = i3 1210 from rfl) (i3M (show (12 : Int32) = i3 12 from rfl) (rfl : i3 a1 = i3 a1))) (show (8 : Int32) = i3 8 from rfl)) (by omega) (by omega) (by omega)) (i3A (zm_rd (Z := Z26) (ν := ν) (k := 2) (show ((0 : Nat) : Int) = 0 from rfl) (show ((0 : Nat) : Int) = 0 from rfl) (i3I (y := (1218 + 12 * a1)) (i3A (i3A (show (1210 : Int32) = i3 1210 from rfl) (i3M (show (12 : Int32) = i3 12 from rfl) (rfl : i3 a1 = i3 a1))) (show (8 : Int32) = i3 8 from rfl)) (by omega) (by omega) (by omega))) (show (0 : Int32) = i3 0 from rfl)))
              subst e9
              refine wz_i0 (i3O (n := 4400) (i3A (i3A (show (1210 : Int32) = i3 1210 from rfl) (i3M (show (12 : Int32) = i3 12 from rfl) (rfl : i3 a1 = i3 a1))) (show (6 : Int32) = i3 6 from rfl)) (by omega) (by omega) (by omega)) ?_
              obtain ⟨Z30, hZ30⟩ := zx (zu Z29 2 0 0 (1216 + 12 * a1) 0)
              replace hP := zl_e hP hZ30
              have hZ30I := zM_z2 hZ29I hZ30 (by omega) (by omega) (by omega)
              have hZ30U : zU [] Z Z30 := zU_u hZ29U hZ30 (Or.inl rfl)
              have hZ30K : zC [2] Z Z30 := zC_u hZ29K hZ30 (zcl_2w (by omega) rfl)
              intro μ9 e9
              replace e9 := e9.trans (zm_wI (Z := Z29) (ν := ν) hZ30 (show ((0 : Nat) : Int) = 0 from rfl) (show ((0 : Nat) : Int) = 0 from rfl) (i3I (y := (1216 + 12 * a1)) (i3A (i3A (show (1210 : Int32) = i3 1210 from rfl) (i3M (show (12 : Int32) = i3 12 from rfl) (rfl : i3 a1 = i3 a1))) (show (6 : Int32) = i3 6 from rfl)) (by omega) (by omega) (by omega)) (show (0 : Int32) = i3 0 from rfl))
              subst e9
              exact zlV hP ⟨hZ30I, hZ30K, hZ30U⟩
            · replace hP := zE_n hP h27
              refine wz_i0 (i3O (n := 4400) (i3A (i3A (show (1210 : Int32) = i3 1210 from rfl) (i3M (show (12 : Int32) = i3 12 from rfl) (rfl : i3 a1 = i3 a1))) (show (8 : Int32) = i3 8 from rfl)) (by omega) (by omega) (by omega)) ?_
              have r31 := zM_f hZ26I 2 0 0 (1218 + 12 * a1)
              have r32 := w3_r ((Z26 2 0 0 (1218 + 12 * a1)) + 1)
              obtain ⟨Z33, hZ33⟩ := zx (zu Z26 2 0 0 (1218 + 12 * a1) (w3 ((Z26 2 0 0 (1218 + 12 * a1)) + 1)))
              replace hP := zl_e hP hZ33
              have hZ33I := zM_u2 hZ26I hZ33 (lo := -2147483648) (hi := 2147483647) (zs_1210_8 (x := a1) (by omega) (by omega) (by omega)) (by omega) ⟨by decide, by decide⟩ (by simp only [zsp]; omega)
              have hZ33U : zU [] Z Z33 := zU_u hZ26U hZ33 (Or.inl rfl)
              have hZ33K : zC [2] Z Z33 := zC_u hZ26K hZ33 (zcl_2w (by omega) rfl)
              intro μ9 e9
              replace e9 := e9.trans (zm_wI (Z := Z26) (ν := ν) hZ33 (show ((0 : Nat) : Int) = 0 from rfl) (show ((0 : Nat) : Int) = 0 from rfl) (i3I (y := (1218 + 12 * a1)) (i3A (i3A (show (1210 : Int32) = i3 1210 from rfl) (i3M (show (12 : Int32) = i3 12 from rfl) (rfl : i3 a1 = i3 a1))) (show (8 : Int32) = i3 8 from rfl)) (by omega) (by omega) (by omega)) (i3W (i3A (zm_rd (Z := Z26) (ν := ν) (k := 2) (show ((0 : Nat) : Int) = 0 from rfl) (show ((0 : Nat) : Int) = 0 from rfl) (i3I (y := (1218 + 12 * a1)) (i3A (i3A (show (1210 : Int32) = i3 1210 from rfl) (i3M (show (12 : Int32) = i3 12 from rfl) (rfl : i3 a1 = i3 a1))) (show (8 : Int32) = i3 8 from rfl)) (by omega) (by omega) (by omega))) (show (1 : Int32) = i3 1 from rfl))))
              subst e9
              refine wz_i0 (i3O (n := 4400) (i3A (i3A (show (1210 : Int32) = i3 1210 from rfl) (i3M (show (12 : Int32) = i3 12 from rfl) (rfl : i3 a1 = i3 a1))) (show (6 : Int32) = i3 6 from rfl)) (by omega) (by omega) (by omega)) ?_
              obtain ⟨Z34, hZ34⟩ := zx (zu Z33 2 0 0 (1216 + 12 * a1) 0)
              replace hP := zl_e hP hZ34
              have hZ34I := zM_z2 hZ33I hZ34 (by omega) (by omega) (by omega)
              have hZ34U : zU [] Z Z34 := zU_u hZ33U hZ34 (Or.inl rfl)
              have hZ34K : zC [2] Z Z34 := zC_u hZ33K hZ34 (zcl_2w (by omega) rfl)
              intro μ9 e9
              replace e9 := e9.trans (zm_wI (Z := Z33) (ν := ν) hZ34 (show ((0 : Nat) : Int) = 0 from rfl) (show ((0 : Nat) : Int) = 0 from rfl) (i3I (y := (1216 + 12 * a1)) (i3A (i3A (show (1210 : Int32) = i3 1210 from rfl) (i3M (show (12 : Int32) = i3 12 from rfl) (rfl : i3 a1 = i3 a1))) (show (6 : Int32) = i3 6 from rfl)) (by omega) (by omega) (by omega)) (show (0 : Int32) = i3 0 from rfl))
              subst e9
              exact zlV hP ⟨hZ34I, hZ34K, hZ34U⟩
        · replace hP := zE_n hP h11
          refine wz_i0 (i3O (n := 4400) (i3A (i3A (show (1210 : Int32) = i3 1210 from rfl) (i3M (show (12 : Int32) = i3 12 from rfl) (rfl : i3 a1 = i3 a1))) (show (5 : Int32) = i3 5 from rfl)) (by omega) (by omega) (by omega)) ?_
          obtain ⟨Z35, hZ35⟩ := zx (zu Z 2 0 0 (1215 + 12 * a1) ((Z 2 0 0 (1300 + ((Z 2 0 0 0) / 24))) - (Z 2 0 0 (1211 + 12 * a1))))
          replace hP := zl_e hP hZ35
          have hZ35I := zM_u2 hZ hZ35 (lo := 0) (hi := 40) (zs_1210_5 (x := a1) (by omega) (by omega) (by omega)) (by omega) ⟨by decide, by decide⟩ (by simp only [zsp]; omega)
          have hZ35U : zU [] Z Z35 := zU_u zU_r hZ35 (Or.inl rfl)
          have hZ35K : zC [2] Z Z35 := zC_u zC_r hZ35 (zcl_2w (by omega) rfl)
          intro μ9 e9
          replace e9 := e9.trans (zm_wI (Z := Z) (ν := ν) hZ35 (show ((0 : Nat) : Int) = 0 from rfl) (show ((0 : Nat) : Int) = 0 from rfl) (i3I (y := (1215 + 12 * a1)) (i3A (i3A (show (1210 : Int32) = i3 1210 from rfl) (i3M (show (12 : Int32) = i3 12 from rfl) (rfl : i3 a1 = i3 a1))) (show (5 : Int32) = i3 5 from rfl)) (by omega) (by omega) (by omega)) (i3S (zm_rd (Z := Z) (ν := ν) (k := 2) (show ((0 : Nat) : Int) = 0 from rfl) (show ((0 : Nat) : Int) = 0 from rfl) (i3I (y := (1300 + ((Z 2 0 0 0) / 24))) (i3A (show (1300 : Int32) = i3 1300 from rfl) (i3D (zm_rd (Z := Z) (ν := ν) (k := 2) (show ((0 : Nat) : Int) = 0 from rfl) (show ((0 : Nat) : Int) = 0 from rfl) (show ((0 : Nat) : Int) = 0 from rfl)) (show (24 : Int32) = i3 24 from rfl) (by omega) (by omega) (by omega) (by omega))) (by omega) (by omega) (by omega))) (zm_rd (Z := Z) (ν := ν) (k := 2) (show ((0 : Nat) : Int) = 0 from rfl) (show ((0 : Nat) : Int) = 0 from rfl) (i3I (y := (1211 + 12 * a1)) (i3A (i3A (show (1210 : Int32) = i3 1210 from rfl) (i3M (show (12 : Int32) = i3 12 from rfl) (rfl : i3 a1 = i3 a1))) (show (1 : Int32) = i3 1 from rfl)) (by omega) (by omega) (by omega)))))
          subst e9
          refine wz_i0 (i3O (n := 4400) (i3A (i3A (show (1210 : Int32) = i3 1210 from rfl) (i3M (show (12 : Int32) = i3 12 from rfl) (rfl : i3 a1 = i3 a1))) (show (7 : Int32) = i3 7 from rfl)) (by omega) (by omega) (by omega)) ?_
          refine wz_br (i3E (i3S (zm_rd (Z := Z) (ν := ν) (k := 2) (show ((0 : Nat) : Int) = 0 from rfl) (show ((0 : Nat) : Int) = 0 from rfl) (i3I (y := (1300 + ((Z 2 0 0 0) / 24))) (i3A (show (1300 : Int32) = i3 1300 from rfl) (i3D (zm_rd (Z := Z) (ν := ν) (k := 2) (show ((0 : Nat) : Int) = 0 from rfl) (show ((0 : Nat) : Int) = 0 from rfl) (show ((0 : Nat) : Int) = 0 from rfl)) (show (24 : Int32) = i3 24 from rfl) (by omega) (by omega) (by omega) (by omega))) (by omega) (by omega) (by omega))) (zm_rd (Z := Z) (ν := ν) (k := 2) (show ((0 : Nat) : Int) = 0 from rfl) (show ((0 : Nat) : Int) = 0 from rfl) (i3I (y := (1211 + 12 * a1)) (i3A (i3A (show (1210 : Int32) = i3 1210 from rfl) (i3M (show (12 : Int32) = i3 12 from rfl) (rfl : i3 a1 = i3 a1))) (show (1 : Int32) = i3 1 from rfl)) (by omega) (by omega) (by omega)))) (zm_rd (Z := Z) (ν := ν) (k := 2) (show ((0 : Nat) : Int) = 0 from rfl) (show ((0 : Nat) : Int) = 0 from rfl) (i3I (y := (1300 + ((Z 2 0 0 0) / 24))) (i3A (show (1300 : Int32) = i3 1300 from rfl) (i3D (zm_rd (Z := Z) (ν := ν) (k := 2) (show ((0 : Nat) : Int) = 0 from rfl) (show ((0 : Nat) : Int) = 0 from rfl) (show ((0 : Nat) : Int) = 0 from rfl)) (show (24 : Int32) = i3 24 from rfl) (by omega) (by omega) (by omega) (by omega))) (by omega) (by omega) (by omega))) (by omega) (by omega) (by omega) (by omega)) (fun h36 => ?_) (fun h36 => ?_)
          · replace hP := zE_p hP h36
            refine wz_i0 (i3O (n := 4400) (i3A (i3A (show (1210 : Int32) = i3 1210 from rfl) (i3M (show (12 : Int32) = i3 12 from rfl) (rfl : i3 a1 = i3 a1))) (show (7 : Int32) = i3 7 from rfl)) (by omega) (by omega) (by omega)) ?_
            have r37 := zM_f hZ35I 2 0 0 (1217 + 12 * a1)
            obtain ⟨Z38, hZ38⟩ := zx (zu Z35 2 0 0 (1217 + 12 * a1) ((Z35 2 0 0 (1217 + 12 * a1)) + 0))
            replace hP := zl_e hP hZ38
            have hZ38I := zM_u2 hZ35I hZ38 (lo := -2147483648) (hi := 2147483647) (zs_1210_7 (x := a1) (by omega) (by omega) (by omega)) (by omega) ⟨by decide, by decide⟩ (by simp only [zsp]; omega)
            have hZ38U : zU [] Z Z38 := zU_u hZ35U hZ38 (Or.inl rfl)
            have hZ38K : zC [2] Z Z38 := zC_u hZ35K hZ38 (zcl_2w (by omega) rfl)
            intro μ9 e9
            replace e9 := e9.trans (zm_wI (Z := Z35) (ν := ν) hZ38 (show ((0 : Nat) : Int) = 0 from rfl) (show ((0 : Nat) : Int) = 0 from rfl) (i3I (y := (1217 + 12 * a1)) (i3A (i3A (show (1210 : Int32) = i3 1210 from rfl) (i3M (show (12 : Int32) = i3 12 from rfl) (rfl : i3 a1 = i3 a1))) (show (7 : Int32) = i3 7 from rfl)) (by omega) (by omega) (by omega)) (i3A (zm_rd (Z := Z35) (ν := ν) (k := 2) (show ((0 : Nat) : Int) = 0 from rfl) (show ((0 : Nat) : Int) = 0 from rfl) (i3I (y := (1217 + 12 * a1)) (i3A (i3A (show (1210 : Int32) = i3 1210 from rfl) (i3M (show (12 : Int32) = i3 12 from rfl) (rfl : i3 a1 = i3 a1))) (show (7 : Int32) = i3 7 from rfl)) (by omega) (by omega) (by omega))) (show (0 : Int32) = i3 0 from rfl)))
            subst e9
            refine wz_i0 (i3O (n := 4400) (i3A (i3A (show (1210 : Int32) = i3 1210 from rfl) (i3M (show (12 : Int32) = i3 12 from rfl) (rfl : i3 a1 = i3 a1))) (show (8 : Int32) = i3 8 from rfl)) (by omega) (by omega) (by omega)) ?_
            refine wz_i1 (Eq.trans (i3E (i3S (zm_rd (Z := Z) (ν := ν) (k := 2) (show ((0 : Nat) : Int) = 0 from rfl) (show ((0 : Nat) : Int) = 0 from rfl) (i3I (y := (1300 + ((Z 2 0 0 0) / 24))) (i3A (show (1300 : Int32) = i3 1300 from rfl) (i3D (zm_rd (Z := Z) (ν := ν) (k := 2) (show ((0 : Nat) : Int) = 0 from rfl) (show ((0 : Nat) : Int) = 0 from rfl) (show ((0 : Nat) : Int) = 0 from rfl)) (show (24 : Int32) = i3 24 from rfl) (by omega) (by omega) (by omega) (by omega))) (by omega) (by omega) (by omega))) (zm_rd (Z := Z) (ν := ν) (k := 2) (show ((0 : Nat) : Int) = 0 from rfl) (show ((0 : Nat) : Int) = 0 from rfl) (i3I (y := (1211 + 12 * a1)) (i3A (i3A (show (1210 : Int32) = i3 1210 from rfl) (i3M (show (12 : Int32) = i3 12 from rfl) (rfl : i3 a1 = i3 a1))) (show (1 : Int32) = i3 1 from rfl)) (by omega) (by omega) (by omega)))) (zm_rd (Z := Z) (ν := ν) (k := 2) (show ((0 : Nat) : Int) = 0 from rfl) (show ((0 : Nat) : Int) = 0 from rfl) (i3I (y := (1300 + ((Z 2 0 0 0) / 24))) (i3A (show (1300 : Int32) = i3 1300 from rfl) (i3D (zm_rd (Z := Z) (ν := ν) (k := 2) (show ((0 : Nat) : Int) = 0 from rfl) (show ((0 : Nat) : Int) = 0 from rfl) (show ((0 : Nat) : Int) = 0 from rfl)) (show (24 : Int32) = i3 24 from rfl) (by omega) (by omega) (by omega) (by omega))) (by omega) (by omega) (by omega))) (by omega) (by omega) (by omega) (by omega)) (decide_eq_true (by omega))) ?_
            refine wz_i0 (i3O (n := 4400) (i3A (i3A (show (1210 : Int32) = i3 1210 from rfl) (i3M (show (12 : Int32) = i3 12 from rfl) (rfl : i3 a1 = i3 a1))) (show (8 : Int32) = i3 8 from rfl)) (by omega) (by omega) (by omega)) ?_
            have r39 := zM_f hZ38I 2 0 0 (1218 + 12 * a1)
            obtain ⟨Z40, hZ40⟩ := zx (zu Z38 2 0 0 (1218 + 12 * a1) ((Z38 2 0 0 (1218 + 12 * a1)) + 0))
            replace hP := zl_e hP hZ40
            have hZ40I := zM_u2 hZ38I hZ40 (lo := -2147483648) (hi := 2147483647) (zs_1210_8 (x := a1) (by omega) (by omega) (by omega)) (by omega) ⟨by decide, by decide⟩ (by simp only [zsp]; omega)
            have hZ40U : zU [] Z Z40 := zU_u hZ38U hZ40 (Or.inl rfl)
            have hZ40K : zC [2] Z Z40 := zC_u hZ38K hZ40 (zcl_2w (by omega) rfl)
            intro μ9 e9
            replace e9 := e9.trans (zm_wI (Z := Z38) (ν := ν) hZ40 (show ((0 : Nat) : Int) = 0 from rfl) (show ((0 : Nat) : Int) = 0 from rfl) (i3I (y := (1218 + 12 * a1)) (i3A (i3A (show (1210 : Int32) = i3 1210 from rfl) (i3M (show (12 : Int32) = i3 12 from rfl) (rfl : i3 a1 = i3 a1))) (show (8 : Int32) = i3 8 from rfl)) (by omega) (by omega) (by omega)) (i3A (zm_rd (Z := Z38) (ν := ν) (k := 2) (show ((0 : Nat) : Int) = 0 from rfl) (show ((0 : Nat) : Int) = 0 from rfl) (i3I (y := (1218 + 12 * a1)) (i3A (i3A (show (1210 : Int32) = i3 1210 from rfl) (i3M (show (12 : Int32) = i3 12 from rfl) (rfl : i3 a1 = i3 a1))) (show (8 : Int32) = i3 8 from rfl)) (by omega) (by omega) (by omega))) (show (0 : Int32) = i3 0 from rfl)))
            subst e9
            refine wz_i0 (i3O (n := 4400) (i3A (i3A (show (1210 : Int32) = i3 1210 from rfl) (i3M (show (12 : Int32) = i3 12 from rfl) (rfl : i3 a1 = i3 a1))) (show (6 : Int32) = i3 6 from rfl)) (by omega) (by omega) (by omega)) ?_
            obtain ⟨Z41, hZ41⟩ := zx (zu Z40 2 0 0 (1216 + 12 * a1) 0)
            replace hP := zl_e hP hZ41
            have hZ41I := zM_z2 hZ40I hZ41 (by omega) (by omega) (by omega)
            have hZ41U : zU [] Z Z41 := zU_u hZ40U hZ41 (Or.inl rfl)
            have hZ41K : zC [2] Z Z41 := zC_u hZ40K hZ41 (zcl_2w (by omega) rfl)
            intro μ9 e9
            replace e9 := e9.trans (zm_wI (Z := Z40) (ν := ν) hZ41 (show ((0 : Nat) : Int) = 0 from rfl) (show ((0 : Nat) : Int) = 0 from rfl) (i3I (y := (1216 + 12 * a1)) (i3A (i3A (show (1210 : Int32) = i3 1210 from rfl) (i3M (show (12 : Int32) = i3 12 from rfl) (rfl : i3 a1 = i3 a1))) (show (6 : Int32) = i3 6 from rfl)) (by omega) (by omega) (by omega)) (show (0 : Int32) = i3 0 from rfl))
            subst e9
            exact zlV hP ⟨hZ41I, hZ41K, hZ41U⟩
          · replace hP := zE_n hP h36
            refine wz_i0 (i3O (n := 4400) (i3A (i3A (show (1210 : Int32) = i3 1210 from rfl) (i3M (show (12 : Int32) = i3 12 from rfl) (rfl : i3 a1 = i3 a1))) (show (7 : Int32) = i3 7 from rfl)) (by omega) (by omega) (by omega)) ?_
            have r42 := zM_f hZ35I 2 0 0 (1217 + 12 * a1)
            have r43 := w3_r ((Z35 2 0 0 (1217 + 12 * a1)) + 1)
            obtain ⟨Z44, hZ44⟩ := zx (zu Z35 2 0 0 (1217 + 12 * a1) (w3 ((Z35 2 0 0 (1217 + 12 * a1)) + 1)))
            replace hP := zl_e hP hZ44
            have hZ44I := zM_u2 hZ35I hZ44 (lo := -2147483648) (hi := 2147483647) (zs_1210_7 (x := a1) (by omega) (by omega) (by omega)) (by omega) ⟨by decide, by decide⟩ (by simp only [zsp]; omega)
            have hZ44U : zU [] Z Z44 := zU_u hZ35U hZ44 (Or.inl rfl)
            have hZ44K : zC [2] Z Z44 := zC_u hZ35K hZ44 (zcl_2w (by omega) rfl)
            intro μ9 e9
            replace e9 := e9.trans (zm_wI (Z := Z35) (ν := ν) hZ44 (show ((0 : Nat) : Int) = 0 from rfl) (show ((0 : Nat) : Int) = 0 from rfl) (i3I (y := (1217 + 12 * a1)) (i3A (i3A (show (1210 : Int32) = i3 1210 from rfl) (i3M (show (12 : Int32) = i3 12 from rfl) (rfl : i3 a1 = i3 a1))) (show (7 : Int32) = i3 7 from rfl)) (by omega) (by omega) (by omega)) (i3W (i3A (zm_rd (Z := Z35) (ν := ν) (k := 2) (show ((0 : Nat) : Int) = 0 from rfl) (show ((0 : Nat) : Int) = 0 from rfl) (i3I (y := (1217 + 12 * a1)) (i3A (i3A (show (1210 : Int32) = i3 1210 from rfl) (i3M (show (12 : Int32) = i3 12 from rfl) (rfl : i3 a1 = i3 a1))) (show (7 : Int32) = i3 7 from rfl)) (by omega) (by omega) (by omega))) (show (1 : Int32) = i3 1 from rfl))))
            subst e9
            refine wz_i0 (i3O (n := 4400) (i3A (i3A (show (1210 : Int32) = i3 1210 from rfl) (i3M (show (12 : Int32) = i3 12 from rfl) (rfl : i3 a1 = i3 a1))) (show (8 : Int32) = i3 8 from rfl)) (by omega) (by omega) (by omega)) ?_
            refine wz_i0 (Eq.trans (i3E (i3S (zm_rd (Z := Z) (ν := ν) (k := 2) (show ((0 : Nat) : Int) = 0 from rfl) (show ((0 : Nat) : Int) = 0 from rfl) (i3I (y := (1300 + ((Z 2 0 0 0) / 24))) (i3A (show (1300 : Int32) = i3 1300 from rfl) (i3D (zm_rd (Z := Z) (ν := ν) (k := 2) (show ((0 : Nat) : Int) = 0 from rfl) (show ((0 : Nat) : Int) = 0 from rfl) (show ((0 : Nat) : Int) = 0 from rfl)) (show (24 : Int32) = i3 24 from rfl) (by omega) (by omega) (by omega) (by omega))) (by omega) (by omega) (by omega))) (zm_rd (Z := Z) (ν := ν) (k := 2) (show ((0 : Nat) : Int) = 0 from rfl) (show ((0 : Nat) : Int) = 0 from rfl) (i3I (y := (1211 + 12 * a1)) (i3A (i3A (show (1210 : Int32) = i3 1210 from rfl) (i3M (show (12 : Int32) = i3 12 from rfl) (rfl : i3 a1 = i3 a1))) (show (1 : Int32) = i3 1 from rfl)) (by omega) (by omega) (by omega)))) (zm_rd (Z := Z) (ν := ν) (k := 2) (show ((0 : Nat) : Int) = 0 from rfl) (show ((0 : Nat) : Int) = 0 from rfl) (i3I (y := (1300 + ((Z 2 0 0 0) / 24))) (i3A (show (1300 : Int32) = i3 1300 from rfl) (i3D (zm_rd (Z := Z) (ν := ν) (k := 2) (show ((0 : Nat) : Int) = 0 from rfl) (show ((0 : Nat) : Int) = 0 from rfl) (show ((0 : Nat) : Int) = 0 from rfl)) (show (24 : Int32) = i3 24 from rfl) (by omega) (by omega) (by omega) (by omega))) (by omega) (by omega) (by omega))) (by omega) (by omega) (by omega) (by omega)) (decide_eq_false (by omega))) ?_
            refine wz_i0 (i3O (n := 4400) (i3A (i3A (show (1210 : Int32) = i3 1210 from rfl) (i3M (show (12 : Int32) = i3 12 from rfl) (rfl : i3 a1 = i3 a1))) (show (8 : Int32) = i3 8 from rfl)) (by omega) (by omega) (by omega)) ?_
            have r45 := zM_f hZ44I 2 0 0 (1218 + 12 * a1)
            have r46 := w3_r ((Z44 2 0 0 (1218 + 12 * a1)) + 1)
            obtain ⟨Z47, hZ47⟩ := zx (zu Z44 2 0 0 (1218 + 12 * a1) (w3 ((Z44 2 0 0 (1218 + 12 * a1)) + 1)))
            replace hP := zl_e hP hZ47
            have hZ47I := zM_u2 hZ44I hZ47 (lo := -2147483648) (hi := 2147483647) (zs_1210_8 (x := a1) (by omega) (by omega) (by omega)) (by omega) ⟨by decide, by decide⟩ (by simp only [zsp]; omega)
            have hZ47U : zU [] Z Z47 := zU_u hZ44U hZ47 (Or.inl rfl)
            have hZ47K : zC [2] Z Z47 := zC_u hZ44K hZ47 (zcl_2w (by omega) rfl)
            intro μ9 e9
            replace e9 := e9.trans (zm_wI (Z := Z44) (ν := ν) hZ47 (show ((0 : Nat) : Int) = 0 from rfl) (show ((0 : Nat) : Int) = 0 from rfl) (i3I (y := (1218 + 12 * a1)) (i3A (i3A (show (1210 : Int32) = i3 1210 from rfl) (i3M (show (12 : Int32) = i3 12 from rfl) (rfl : i3 a1 = i3 a1))) (show (8 : Int32) = i3 8 from rfl)) (by omega) (by omega) (by omega)) (i3W (i3A (zm_rd (Z := Z44) (ν := ν) (k := 2) (show ((0 : Nat) : Int) = 0 from rfl) (show ((0 : Nat) : Int) = 0 from rfl) (i3I (y := (1218 + 12 * a1)) (i3A (i3A (show (1210 : Int32) = i3 1210 from rfl) (i3M (show (12 : Int32) = i3 12 from rfl) (rfl : i3 a1 = i3 a1))) (show (8 : Int32) = i3 8 from rfl)) (by omega) (by omega) (by omega))) (show (1 : Int32) = i3 1 from rfl))))
            subst e9
            refine wz_i0 (i3O (n := 4400) (i3A (i3A (show (1210 : Int32) = i3 1210 from rfl) (i3M (show (12 : Int32) = i3 12 from rfl) (rfl : i3 a1 = i3 a1))) (show (6 : Int32) = i3 6 from rfl)) (by omega) (by omega) (by omega)) ?_
            obtain ⟨Z48, hZ48⟩ := zx (zu Z47 2 0 0 (1216 + 12 * a1) 0)
            replace hP := zl_e hP hZ48
            have hZ48I := zM_z2 hZ47I hZ48 (by omega) (by omega) (by omega)
            have hZ48U : zU [] Z Z48 := zU_u hZ47U hZ48 (Or.inl rfl)
            have hZ48K : zC [2] Z Z48 := zC_u hZ47K hZ48 (zcl_2w (by omega) rfl)
            intro μ9 e9
            replace e9 := e9.trans (zm_wI (Z := Z47) (ν := ν) hZ48 (show ((0 : Nat) : Int) = 0 from rfl) (show ((0 : Nat) : Int) = 0 from rfl) (i3I (y := (1216 + 12 * a1)) (i3A (i3A (show (1210 : Int32) = i3 1210 from rfl) (i3M (show (12 : Int32) = i3 12 from rfl) (rfl : i3 a1 = i3 a1))) (show (6 : Int32) = i3 6 from rfl)) (by omega) (by omega) (by omega)) (show (0 : Int32) = i3 0 from rfl))
            subst e9
            exact zlV hP ⟨hZ48I, hZ48K, hZ48U⟩
      · replace hP := zE_n hP h9
        have r49 := zM_k hZ 2 0 0 (1211 + 12 * a1) (lo := 0) (hi := 9) (by decide) (zs_1210_1 (x := a1) (by omega) (by omega) (by omega))
        refine wz_br (i3Le (zm_rd (Z := Z) (ν := ν) (k := 2) (show ((0 : Nat) : Int) = 0 from rfl) (show ((0 : Nat) : Int) = 0 from rfl) (i3I (y := (1213 + 12 * a1)) (i3A (i3A (show (1210 : Int32) = i3 1210 from rfl) (i3M (show (12 : Int32) = i3 12 from rfl) (rfl : i3 a1 = i3 a1))) (show (3 : Int32) = i3 3 from rfl)) (by omega) (by omega) (by omega))) (i3A (zm_rd (Z := Z) (ν := ν) (k := 2) (show ((0 : Nat) : Int) = 0 from rfl) (show ((0 : Nat) : Int) = 0 from rfl) (i3I (y := (1300 + ((Z 2 0 0 0) / 24))) (i3A (show (1300 : Int32) = i3 1300 from rfl) (i3D (zm_rd (Z := Z) (ν := ν) (k := 2) (show ((0 : Nat) : Int) = 0 from rfl) (show ((0 : Nat) : Int) = 0 from rfl) (show ((0 : Nat) : Int) = 0 from rfl)) (show (24 : Int32) = i3 24 from rfl) (by omega) (by omega) (by omega) (by omega))) (by omega) (by omega) (by omega))) (zm_rd (Z := Z) (ν := ν) (k := 2) (show ((0 : Nat) : Int) = 0 from rfl) (show ((0 : Nat) : Int) = 0 from rfl) (i3I (y := (1211 + 12 * a1)) (i3A (i3A (show (1210 : Int32) = i3 1210 from rfl) (i3M (show (12 : Int32) = i3 12 from rfl) (rfl : i3 a1 = i3 a1))) (show (1 : Int32) = i3 1 from rfl)) (by omega) (by omega) (by omega)))) (by omega) (by omega) (by omega) (by omega)) (fun h50 => ?_) (fun h50 => ?_)
        · replace hP := zE_p hP h50
          refine wz_i0 (i3O (n := 4400) (i3A (i3A (show (1210 : Int32) = i3 1210 from rfl) (i3M (show (12 : Int32) = i3 12 from rfl) (rfl : i3 a1 = i3 a1))) (show (5 : Int32) = i3 5 from rfl)) (by omega) (by omega) (by omega)) ?_
          obtain ⟨Z51, hZ51⟩ := zx (zu Z 2 0 0 (1215 + 12 * a1) (Z 2 0 0 (1213 + 12 * a1)))
          replace hP := zl_e hP hZ51
          have hZ51I := zM_u2 hZ hZ51 (lo := 0) (hi := 40) (zs_1210_5 (x := a1) (by omega) (by omega) (by omega)) (by omega) ⟨by decide, by decide⟩ (by simp only [zsp]; omega)
          have hZ51U : zU [] Z Z51 := zU_u zU_r hZ51 (Or.inl rfl)
          have hZ51K : zC [2] Z Z51 := zC_u zC_r hZ51 (zcl_2w (by omega) rfl)
          intro μ9 e9
          replace e9 := e9.trans (zm_wI (Z := Z) (ν := ν) hZ51 (show ((0 : Nat) : Int) = 0 from rfl) (show ((0 : Nat) : Int) = 0 from rfl) (i3I (y := (1215 + 12 * a1)) (i3A (i3A (show (1210 : Int32) = i3 1210 from rfl) (i3M (show (12 : Int32) = i3 12 from rfl) (rfl : i3 a1 = i3 a1))) (show (5 : Int32) = i3 5 from rfl)) (by omega) (by omega) (by omega)) (zm_rd (Z := Z) (ν := ν) (k := 2) (show ((0 : Nat) : Int) = 0 from rfl) (show ((0 : Nat) : Int) = 0 from rfl) (i3I (y := (1213 + 12 * a1)) (i3A (i3A (show (1210 : Int32) = i3 1210 from rfl) (i3M (show (12 : Int32) = i3 12 from rfl) (rfl : i3 a1 = i3 a1))) (show (3 : Int32) = i3 3 from rfl)) (by omega) (by omega) (by omega))))
          subst e9
          refine wz_i0 (i3O (n := 4400) (i3A (i3A (show (1210 : Int32) = i3 1210 from rfl) (i3M (show (12 : Int32) = i3 12 from rfl) (rfl : i3 a1 = i3 a1))) (show (7 : Int32) = i3 7 from rfl)) (by omega) (by omega) (by omega)) ?_
          refine wz_br (i3E (zm_rd (Z := Z) (ν := ν) (k := 2) (show ((0 : Nat) : Int) = 0 from rfl) (show ((0 : Nat) : Int) = 0 from rfl) (i3I (y := (1213 + 12 * a1)) (i3A (i3A (show (1210 : Int32) = i3 1210 from rfl) (i3M (show (12 : Int32) = i3 12 from rfl) (rfl : i3 a1 = i3 a1))) (show (3 : Int32) = i3 3 from rfl)) (by omega) (by omega) (by omega))) (zm_rd (Z := Z) (ν := ν) (k := 2) (show ((0 : Nat) : Int) = 0 from rfl) (show ((0 : Nat) : Int) = 0 from rfl) (i3I (y := (1300 + ((Z 2 0 0 0) / 24))) (i3A (show (1300 : Int32) = i3 1300 from rfl) (i3D (zm_rd (Z := Z) (ν := ν) (k := 2) (show ((0 : Nat) : Int) = 0 from rfl) (show ((0 : Nat) : Int) = 0 from rfl) (show ((0 : Nat) : Int) = 0 from rfl)) (show (24 : Int32) = i3 24 from rfl) (by omega) (by omega) (by omega) (by omega))) (by omega) (by omega) (by omega))) (by omega) (by omega) (by omega) (by omega)) (fun h52 => ?_) (fun h52 => ?_)
          · replace hP := zE_p hP h52
            refine wz_i0 (i3O (n := 4400) (i3A (i3A (show (1210 : Int32) = i3 1210 from rfl) (i3M (show (12 : Int32) = i3 12 from rfl) (rfl : i3 a1 = i3 a1))) (show (7 : Int32) = i3 7 from rfl)) (by omega) (by omega) (by omega)) ?_
            have r53 := zM_f hZ51I 2 0 0 (1217 + 12 * a1)
            obtain ⟨Z54, hZ54⟩ := zx (zu Z51 2 0 0 (1217 + 12 * a1) ((Z51 2 0 0 (1217 + 12 * a1)) + 0))
            replace hP := zl_e hP hZ54
            have hZ54I := zM_u2 hZ51I hZ54 (lo := -2147483648) (hi := 2147483647) (zs_1210_7 (x := a1) (by omega) (by omega) (by omega)) (by omega) ⟨by decide, by decide⟩ (by simp only [zsp]; omega)
            have hZ54U : zU [] Z Z54 := zU_u hZ51U hZ54 (Or.inl rfl)
            have hZ54K : zC [2] Z Z54 := zC_u hZ51K hZ54 (zcl_2w (by omega) rfl)
            intro μ9 e9
            replace e9 := e9.trans (zm_wI (Z := Z51) (ν := ν) hZ54 (show ((0 : Nat) : Int) = 0 from rfl) (show ((0 : Nat) : Int) = 0 from rfl) (i3I (y := (1217 + 12 * a1)) (i3A (i3A (show (1210 : Int32) = i3 1210 from rfl) (i3M (show (12 : Int32) = i3 12 from rfl) (rfl : i3 a1 = i3 a1))) (show (7 : Int32) = i3 7 from rfl)) (by omega) (by omega) (by omega)) (i3A (zm_rd (Z := Z51) (ν := ν) (k := 2) (show ((0 : Nat) : Int) = 0 from rfl) (show ((0 : Nat) : Int) = 0 from rfl) (i3I (y := (1217 + 12 * a1)) (i3A (i3A (show (1210 : Int32) = i3 1210 from rfl) (i3M (show (12 : Int32) = i3 12 from rfl) (rfl : i3 a1 = i3 a1))) (show (7 : Int32) = i3 7 from rfl)) (by omega) (by omega) (by omega))) (show (0 : Int32) = i3 0 from rfl)))
            subst e9
            refine wz_i0 (i3O (n := 4400) (i3A (i3A (show (1210 : Int32) = i3 1210 from rfl) (i3M (show (12 : Int32) = i3 12 from rfl) (rfl : i3 a1 = i3 a1))) (show (8 : Int32) = i3 8 from rfl)) (by omega) (by omega) (by omega)) ?_
            refine wz_br (i3E (zm_rd (Z := Z) (ν := ν) (k := 2) (show ((0 : Nat) : Int) = 0 from rfl) (show ((0 : Nat) : Int) = 0 from rfl) (i3I (y := (1213 + 12 * a1)) (i3A (i3A (show (1210 : Int32) = i3 1210 from rfl) (i3M (show (12 : Int32) = i3 12 from rfl) (rfl : i3 a1 = i3 a1))) (show (3 : Int32) = i3 3 from rfl)) (by omega) (by omega) (by omega))) (zm_rd (Z := Z) (ν := ν) (k := 2) (show ((0 : Nat) : Int) = 0 from rfl) (show ((0 : Nat) : Int) = 0 from rfl) (i3I (y := (1300 + ((Z 2 0 0 0) / 24))) (i3A (show (1300 : Int32) = i3 1300 from rfl) (i3D (zm_rd (Z := Z) (ν := ν) (k := 2) (show ((0 : Nat) : Int) = 0 from rfl) (show ((0 : Nat) : Int) = 0 from rfl) (show ((0 : Nat) : Int) = 0 from rfl)) (show (24 : Int32) = i3 24 from rfl) (by omega) (by omega) (by omega) (by omega))) (by omega) (by omega) (by omega))) (by omega) (by omega) (by omega) (by omega)) (fun h55 => ?_) (fun h55 => ?_)
            · replace hP := zE_p hP h55
              refine wz_i0 (i3O (n := 4400) (i3A (i3A (show (1210 : Int32) = i3 1210 from rfl) (i3M (show (12 : Int32) = i3 12 from rfl) (rfl : i3 a1 = i3 a1))) (show (8 : Int32) = i3 8 from rfl)) (by omega) (by omega) (by omega)) ?_
              have r56 := zM_f hZ54I 2 0 0 (1218 + 12 * a1)
              obtain ⟨Z57, hZ57⟩ := zx (zu Z54 2 0 0 (1218 + 12 * a1) ((Z54 2 0 0 (1218 + 12 * a1)) + 0))
              replace hP := zl_e hP hZ57
              have hZ57I := zM_u2 hZ54I hZ57 (lo := -2147483648) (hi := 2147483647) (zs_1210_8 (x := a1) (by omega) (by omega) (by omega)) (by omega) ⟨by decide, by decide⟩ (by simp only [zsp]; omega)
              have hZ57U : zU [] Z Z57 := zU_u hZ54U hZ57 (Or.inl rfl)
              have hZ57K : zC [2] Z Z57 := zC_u hZ54K hZ57 (zcl_2w (by omega) rfl)
              intro μ9 e9
              replace e9 := e9.trans (zm_wI (Z := Z54) (ν := ν) hZ57 (show ((0 : Nat) : Int) = 0 from rfl) (show ((0 : Nat) : Int) = 0 from rfl) (i3I (y := (1218 + 12 * a1)) (i3A (i3A (show (1210 : Int32) = i3 1210 from rfl) (i3M (show (12 : Int32) = i3 12 from rfl) (rfl : i3 a1 = i3 a1))) (show (8 : Int32) = i3 8 from rfl)) (by omega) (by omega) (by omega)) (i3A (zm_rd (Z := Z54) (ν := ν) (k := 2) (show ((0 : Nat) : Int) = 0 from rfl) (show ((0 : Nat) : Int) = 0 from rfl) (i3I (y := (1218 + 12 * a1)) (i3A (i3A (show (1210 : Int32) = i3 1210 from rfl) (i3M (show (12 : Int32) = i3 12 from rfl) (rfl : i3 a1 = i3 a1))) (show (8 : Int32) = i3 8 from rfl)) (by omega) (by omega) (by omega))) (show (0 : Int32) = i3 0 from rfl)))
              subst e9
              refine wz_i0 (i3O (n := 4400) (i3A (i3A (show (1210 : Int32) = i3 1210 from rfl) (i3M (show (12 : Int32) = i3 12 from rfl) (rfl : i3 a1 = i3 a1))) (show (6 : Int32) = i3 6 from rfl)) (by omega) (by omega) (by omega)) ?_
              obtain ⟨Z58, hZ58⟩ := zx (zu Z57 2 0 0 (1216 + 12 * a1) 0)
              replace hP := zl_e hP hZ58
              have hZ58I := zM_z2 hZ57I hZ58 (by omega) (by omega) (by omega)
              have hZ58U : zU [] Z Z58 := zU_u hZ57U hZ58 (Or.inl rfl)
              have hZ58K : zC [2] Z Z58 := zC_u hZ57K hZ58 (zcl_2w (by omega) rfl)
              intro μ9 e9
              replace e9 := e9.trans (zm_wI (Z := Z57) (ν := ν) hZ58 (show ((0 : Nat) : Int) = 0 from rfl) (show ((0 : Nat) : Int) = 0 from rfl) (i3I (y := (1216 + 12 * a1)) (i3A (i3A (show (1210 : Int32) = i3 1210 from rfl) (i3M (show (12 : Int32) = i3 12 from rfl) (rfl : i3 a1 = i3 a1))) (show (6 : Int32) = i3 6 from rfl)) (by omega) (by omega) (by omega)) (show (0 : Int32) = i3 0 from rfl))
              subst e9
              exact zlV hP ⟨hZ58I, hZ58K, hZ58U⟩
            · replace hP := zE_n hP h55
              refine wz_i0 (i3O (n := 4400) (i3A (i3A (show (1210 : Int32) = i3 1210 from rfl) (i3M (show (12 : Int32) = i3 12 from rfl) (rfl : i3 a1 = i3 a1))) (show (8 : Int32) = i3 8 from rfl)) (by omega) (by omega) (by omega)) ?_
              have r59 := zM_f hZ54I 2 0 0 (1218 + 12 * a1)
              have r60 := w3_r ((Z54 2 0 0 (1218 + 12 * a1)) + 1)
              obtain ⟨Z61, hZ61⟩ := zx (zu Z54 2 0 0 (1218 + 12 * a1) (w3 ((Z54 2 0 0 (1218 + 12 * a1)) + 1)))
              replace hP := zl_e hP hZ61
              have hZ61I := zM_u2 hZ54I hZ61 (lo := -2147483648) (hi := 2147483647) (zs_1210_8 (x := a1) (by omega) (by omega) (by omega)) (by omega) ⟨by decide, by decide⟩ (by simp only [zsp]; omega)
              have hZ61U : zU [] Z Z61 := zU_u hZ54U hZ61 (Or.inl rfl)
              have hZ61K : zC [2] Z Z61 := zC_u hZ54K hZ61 (zcl_2w (by omega) rfl)
              intro μ9 e9
              replace e9 := e9.trans (zm_wI (Z := Z54) (ν := ν) hZ61 (show ((0 : Nat) : Int) = 0 from rfl) (show ((0 : Nat) : Int) = 0 from rfl) (i3I (y := (1218 + 12 * a1)) (i3A (i3A (show (1210 : Int32) = i3 1210 from rfl) (i3M (show (12 : Int32) = i3 12 from rfl) (rfl : i3 a1 = i3 a1))) (show (8 : Int32) = i3 8 from rfl)) (by omega) (by omega) (by omega)) (i3W (i3A (zm_rd (Z := Z54) (ν := ν) (k := 2) (show ((0 : Nat) : Int) = 0 from rfl) (show ((0 : Nat) : Int) = 0 from rfl) (i3I (y := (1218 + 12 * a1)) (i3A (i3A (show (1210 : Int32) = i3 1210 from rfl) (i3M (show (12 : Int32) = i3 12 from rfl) (rfl : i3 a1 = i3 a1))) (show (8 : Int32) = i3 8 from rfl)) (by omega) (by omega) (by omega))) (show (1 : Int32) = i3 1 from rfl))))
              subst e9
              refine wz_i0 (i3O (n := 4400) (i3A (i3A (show (1210 : Int32) = i3 1210 from rfl) (i3M (show (12 : Int32) = i3 12 from rfl) (rfl : i3 a1 = i3 a1))) (show (6 : Int32) = i3 6 from rfl)) (by omega) (by omega) (by omega)) ?_
              obtain ⟨Z62, hZ62⟩ := zx (zu Z61 2 0 0 (1216 + 12 * a1) 0)
              replace hP := zl_e hP hZ62
              have hZ62I := zM_z2 hZ61I hZ62 (by omega) (by omega) (by omega)
              have hZ62U : zU [] Z Z62 := zU_u hZ61U hZ62 (Or.inl rfl)
              have hZ62K : zC [2] Z Z62 := zC_u hZ61K hZ62 (zcl_2w (by omega) rfl)
              intro μ9 e9
              replace e9 := e9.trans (zm_wI (Z := Z61) (ν := ν) hZ62 (show ((0 : Nat) : Int) = 0 from rfl) (show ((0 : Nat) : Int) = 0 from rfl) (i3I (y := (1216 + 12 * a1)) (i3A (i3A (show (1210 : Int32) = i3 1210 from rfl) (i3M (show (12 : Int32) = i3 12 from rfl) (rfl : i3 a1 = i3 a1))) (show (6 : Int32) = i3 6 from rfl)) (by omega) (by omega) (by omega)) (show (0 : Int32) = i3 0 from rfl))
              subst e9
              exact zlV hP ⟨hZ62I, hZ62K, hZ62U⟩
          · replace hP := zE_n hP h52
            refine wz_i0 (i3O (n := 4400) (i3A (i3A (show (1210 : Int32) = i3 1210 from rfl) (i3M (show (12 : Int32) = i3 12 from rfl) (rfl : i3 a1 = i3 a1))) (show (7 : Int32) = i3 7 from rfl)) (by omega) (by omega) (by omega)) ?_
            have r63 := zM_f hZ51I 2 0 0 (1217 + 12 * a1)
            have r64 := w3_r ((Z51 2 0 0 (1217 + 12 * a1)) + 1)
            obtain ⟨Z65, hZ65⟩ := zx (zu Z51 2 0 0 (1217 + 12 * a1) (w3 ((Z51 2 0 0 (1217 + 12 * a1)) + 1)))
            replace hP := zl_e hP hZ65
            have hZ65I := zM_u2 hZ51I hZ65 (lo := -2147483648) (hi := 2147483647) (zs_1210_7 (x := a1) (by omega) (by omega) (by omega)) (by omega) ⟨by decide, by decide⟩ (by simp only [zsp]; omega)
            have hZ65U : zU [] Z Z65 := zU_u hZ51U hZ65 (Or.inl rfl)
            have hZ65K : zC [2] Z Z65 := zC_u hZ51K hZ65 (zcl_2w (by omega) rfl)
            intro μ9 e9
            replace e9 := e9.trans (zm_wI (Z := Z51) (ν := ν) hZ65 (show ((0 : Nat) : Int) = 0 from rfl) (show ((0 : Nat) : Int) = 0 from rfl) (i3I (y := (1217 + 12 * a1)) (i3A (i3A (show (1210 : Int32) = i3 1210 from rfl) (i3M (show (12 : Int32) = i3 12 from rfl) (rfl : i3 a1 = i3 a1))) (show (7 : Int32) = i3 7 from rfl)) (by omega) (by omega) (by omega)) (i3W (i3A (zm_rd (Z := Z51) (ν := ν) (k := 2) (show ((0 : Nat) : Int) = 0 from rfl) (show ((0 : Nat) : Int) = 0 from rfl) (i3I (y := (1217 + 12 * a1)) (i3A (i3A (show (1210 : Int32) = i3 1210 from rfl) (i3M (show (12 : Int32) = i3 12 from rfl) (rfl : i3 a1 = i3 a1))) (show (7 : Int32) = i3 7 from rfl)) (by omega) (by omega) (by omega))) (show (1 : Int32) = i3 1 from rfl))))
            subst e9
            refine wz_i0 (i3O (n := 4400) (i3A (i3A (show (1210 : Int32) = i3 1210 from rfl) (i3M (show (12 : Int32) = i3 12 from rfl) (rfl : i3 a1 = i3 a1))) (show (8 : Int32) = i3 8 from rfl)) (by omega) (by omega) (by omega)) ?_
            refine wz_br (i3E (zm_rd (Z := Z) (ν := ν) (k := 2) (show ((0 : Nat) : Int) = 0 from rfl) (show ((0 : Nat) : Int) = 0 from rfl) (i3I (y := (1213 + 12 * a1)) (i3A (i3A (show (1210 : Int32) = i3 1210 from rfl) (i3M (show (12 : Int32) = i3 12 from rfl) (rfl : i3 a1 = i3 a1))) (show (3 : Int32) = i3 3 from rfl)) (by omega) (by omega) (by omega))) (zm_rd (Z := Z) (ν := ν) (k := 2) (show ((0 : Nat) : Int) = 0 from rfl) (show ((0 : Nat) : Int) = 0 from rfl) (i3I (y := (1300 + ((Z 2 0 0 0) / 24))) (i3A (show (1300 : Int32) = i3 1300 from rfl) (i3D (zm_rd (Z := Z) (ν := ν) (k := 2) (show ((0 : Nat) : Int) = 0 from rfl) (show ((0 : Nat) : Int) = 0 from rfl) (show ((0 : Nat) : Int) = 0 from rfl)) (show (24 : Int32) = i3 24 from rfl) (by omega) (by omega) (by omega) (by omega))) (by omega) (by omega) (by omega))) (by omega) (by omega) (by omega) (by omega)) (fun h66 => ?_) (fun h66 => ?_)
            · replace hP := zE_p hP h66
              refine wz_i0 (i3O (n := 4400) (i3A (i3A (show (1210 : Int32) = i3 1210 from rfl) (i3M (show (12 : Int32) = i3 12 from rfl) (rfl : i3 a1 = i3 a1))) (show (8 : Int32) = i3 8 from rfl)) (by omega) (by omega) (by omega)) ?_
              have r67 := zM_f hZ65I 2 0 0 (1218 + 12 * a1)
              obtain ⟨Z68, hZ68⟩ := zx (zu Z65 2 0 0 (1218 + 12 * a1) ((Z65 2 0 0 (1218 + 12 * a1)) + 0))
              replace hP := zl_e hP hZ68
              have hZ68I := zM_u2 hZ65I hZ68 (lo := -2147483648) (hi := 2147483647) (zs_1210_8 (x := a1) (by omega) (by omega) (by omega)) (by omega) ⟨by decide, by decide⟩ (by simp only [zsp]; omega)
              have hZ68U : zU [] Z Z68 := zU_u hZ65U hZ68 (Or.inl rfl)
              have hZ68K : zC [2] Z Z68 := zC_u hZ65K hZ68 (zcl_2w (by omega) rfl)
              intro μ9 e9
              replace e9 := e9.trans (zm_wI (Z := Z65) (ν := ν) hZ68 (show ((0 : Nat) : Int) = 0 from rfl) (show ((0 : Nat) : Int) = 0 from rfl) (i3I (y := (1218 + 12 * a1)) (i3A (i3A (show (1210 : Int32) = i3 1210 from rfl) (i3M (show (12 : Int32) = i3 12 from rfl) (rfl : i3 a1 = i3 a1))) (show (8 : Int32) = i3 8 from rfl)) (by omega) (by omega) (by omega)) (i3A (zm_rd (Z := Z65) (ν := ν) (k := 2) (show ((0 : Nat) : Int) = 0 from rfl) (show ((0 : Nat) : Int) = 0 from rfl) (i3I (y := (1218 + 12 * a1)) (i3A (i3A (show (1210 : Int32) = i3 1210 from rfl) (i3M (show (12 : Int32) = i3 12 from rfl) (rfl : i3 a1 = i3 a1))) (show (8 : Int32) = i3 8 from rfl)) (by omega) (by omega) (by omega))) (show (0 : Int32) = i3 0 from rfl)))
              subst e9
              refine wz_i0 (i3O (n := 4400) (i3A (i3A (show (1210 : Int32) = i3 1210 from rfl) (i3M (show (12 : Int32) = i3 12 from rfl) (rfl : i3 a1 = i3 a1))) (show (6 : Int32) = i3 6 from rfl)) (by omega) (by omega) (by omega)) ?_
              obtain ⟨Z69, hZ69⟩ := zx (zu Z68 2 0 0 (1216 + 12 * a1) 0)
              replace hP := zl_e hP hZ69
              have hZ69I := zM_z2 hZ68I hZ69 (by omega) (by omega) (by omega)
              have hZ69U : zU [] Z Z69 := zU_u hZ68U hZ69 (Or.inl rfl)
              have hZ69K : zC [2] Z Z69 := zC_u hZ68K hZ69 (zcl_2w (by omega) rfl)
              intro μ9 e9
              replace e9 := e9.trans (zm_wI (Z := Z68) (ν := ν) hZ69 (show ((0 : Nat) : Int) = 0 from rfl) (show ((0 : Nat) : Int) = 0 from rfl) (i3I (y := (1216 + 12 * a1)) (i3A (i3A (show (1210 : Int32) = i3 1210 from rfl) (i3M (show (12 : Int32) = i3 12 from rfl) (rfl : i3 a1 = i3 a1))) (show (6 : Int32) = i3 6 from rfl)) (by omega) (by omega) (by omega)) (show (0 : Int32) = i3 0 from rfl))
              subst e9
              exact zlV hP ⟨hZ69I, hZ69K, hZ69U⟩
            · replace hP := zE_n hP h66
              refine wz_i0 (i3O (n := 4400) (i3A (i3A (show (1210 : Int32) = i3 1210 from rfl) (i3M (show (12 : Int32) = i3 12 from rfl) (rfl : i3 a1 = i3 a1))) (show (8 : Int32) = i3 8 from rfl)) (by omega) (by omega) (by omega)) ?_
              have r70 := zM_f hZ65I 2 0 0 (1218 + 12 * a1)
              have r71 := w3_r ((Z65 2 0 0 (1218 + 12 * a1)) + 1)
              obtain ⟨Z72, hZ72⟩ := zx (zu Z65 2 0 0 (1218 + 12 * a1) (w3 ((Z65 2 0 0 (1218 + 12 * a1)) + 1)))
              replace hP := zl_e hP hZ72
              have hZ72I := zM_u2 hZ65I hZ72 (lo := -2147483648) (hi := 2147483647) (zs_1210_8 (x := a1) (by omega) (by omega) (by omega)) (by omega) ⟨by decide, by decide⟩ (by simp only [zsp]; omega)
              have hZ72U : zU [] Z Z72 := zU_u hZ65U hZ72 (Or.inl rfl)
              have hZ72K : zC [2] Z Z72 := zC_u hZ65K hZ72 (zcl_2w (by omega) rfl)
              intro μ9 e9
              replace e9 := e9.trans (zm_wI (Z := Z65) (ν := ν) hZ72 (show ((0 : Nat) : Int) = 0 from rfl) (show ((0 : Nat) : Int) = 0 from rfl) (i3I (y := (1218 + 12 * a1)) (i3A (i3A (show (1210 : Int32) = i3 1210 from rfl) (i3M (show (12 : Int32) = i3 12 from rfl) (rfl : i3 a1 = i3 a1))) (show (8 : Int32) = i3 8 from rfl)) (by omega) (by omega) (by omega)) (i3W (i3A (zm_rd (Z := Z65) (ν := ν) (k := 2) (show ((0 : Nat) : Int) = 0 from rfl) (show ((0 : Nat) : Int) = 0 from rfl) (i3I (y := (1218 + 12 * a1)) (i3A (i3A (show (1210 : Int32) = i3 1210 from rfl) (i3M (show (12 : Int32) = i3 12 from rfl) (rfl : i3 a1 = i3 a1))) (show (8 : Int32) = i3 8 from rfl)) (by omega) (by omega) (by omega))) (show (1 : Int32) = i3 1 from rfl))))
              subst e9
              refine wz_i0 (i3O (n := 4400) (i3A (i3A (show (1210 : Int32) = i3 1210 from rfl) (i3M (show (12 : Int32) = i3 12 from rfl) (rfl : i3 a1 = i3 a1))) (show (6 : Int32) = i3 6 from rfl)) (by omega) (by omega) (by omega)) ?_
              obtain ⟨Z73, hZ73⟩ := zx (zu Z72 2 0 0 (1216 + 12 * a1) 0)
              replace hP := zl_e hP hZ73
              have hZ73I := zM_z2 hZ72I hZ73 (by omega) (by omega) (by omega)
              have hZ73U : zU [] Z Z73 := zU_u hZ72U hZ73 (Or.inl rfl)
              have hZ73K : zC [2] Z Z73 := zC_u hZ72K hZ73 (zcl_2w (by omega) rfl)
              intro μ9 e9
              replace e9 := e9.trans (zm_wI (Z := Z72) (ν := ν) hZ73 (show ((0 : Nat) : Int) = 0 from rfl) (show ((0 : Nat) : Int) = 0 from rfl) (i3I (y := (1216 + 12 * a1)) (i3A (i3A (show (1210 : Int32) = i3 1210 from rfl) (i3M (show (12 : Int32) = i3 12 from rfl) (rfl : i3 a1 = i3 a1))) (show (6 : Int32) = i3 6 from rfl)) (by omega) (by omega) (by omega)) (show (0 : Int32) = i3 0 from rfl))
              subst e9
              exact zlV hP ⟨hZ73I, hZ73K, hZ73U⟩
        · replace hP := zE_n hP h50
          refine wz_i0 (i3O (n := 4400) (i3A (i3A (show (1210 : Int32) = i3 1210 from rfl) (i3M (show (12 : Int32) = i3 12 from rfl) (rfl : i3 a1 = i3 a1))) (show (5 : Int32) = i3 5 from rfl)) (by omega) (by omega) (by omega)) ?_
          obtain ⟨Z74, hZ74⟩ := zx (zu Z 2 0 0 (1215 + 12 * a1) ((Z 2 0 0 (1300 + ((Z 2 0 0 0) / 24))) + (Z 2 0 0 (1211 + 12 * a1))))
          replace hP := zl_e hP hZ74
          have hZ74I := zM_u2 hZ hZ74 (lo := 0) (hi := 40) (zs_1210_5 (x := a1) (by omega) (by omega) (by omega)) (by omega) ⟨by decide, by decide⟩ (by simp only [zsp]; omega)
          have hZ74U : zU [] Z Z74 := zU_u zU_r hZ74 (Or.inl rfl)
          have hZ74K : zC [2] Z Z74 := zC_u zC_r hZ74 (zcl_2w (by omega) rfl)
          intro μ9 e9
          replace e9 := e9.trans (zm_wI (Z := Z) (ν := ν) hZ74 (show ((0 : Nat) : Int) = 0 from rfl) (show ((0 : Nat) : Int) = 0 from rfl) (i3I (y := (1215 + 12 * a1)) (i3A (i3A (show (1210 : Int32) = i3 1210 from rfl) (i3M (show (12 : Int32) = i3 12 from rfl) (rfl : i3 a1 = i3 a1))) (show (5 : Int32) = i3 5 from rfl)) (by omega) (by omega) (by omega)) (i3A (zm_rd (Z := Z) (ν := ν) (k := 2) (show ((0 : Nat) : Int) = 0 from rfl) (show ((0 : Nat) : Int) = 0 from rfl) (i3I (y := (1300 + ((Z 2 0 0 0) / 24))) (i3A (show (1300 : Int32) = i3 1300 from rfl) (i3D (zm_rd (Z := Z) (ν := ν) (k := 2) (show ((0 : Nat) : Int) = 0 from rfl) (show ((0 : Nat) : Int) = 0 from rfl) (show ((0 : Nat) : Int) = 0 from rfl)) (show (24 : Int32) = i3 24 from rfl) (by omega) (by omega) (by omega) (by omega))) (by omega) (by omega) (by omega))) (zm_rd (Z := Z) (ν := ν) (k := 2) (show ((0 : Nat) : Int) = 0 from rfl) (show ((0 : Nat) : Int) = 0 from rfl) (i3I (y := (1211 + 12 * a1)) (i3A (i3A (show (1210 : Int32) = i3 1210 from rfl) (i3M (show (12 : Int32) = i3 12 from rfl) (rfl : i3 a1 = i3 a1))) (show (1 : Int32) = i3 1 from rfl)) (by omega) (by omega) (by omega)))))
          subst e9
          refine wz_i0 (i3O (n := 4400) (i3A (i3A (show (1210 : Int32) = i3 1210 from rfl) (i3M (show (12 : Int32) = i3 12 from rfl) (rfl : i3 a1 = i3 a1))) (show (7 : Int32) = i3 7 from rfl)) (by omega) (by omega) (by omega)) ?_
          refine wz_br (i3E (i3A (zm_rd (Z := Z) (ν := ν) (k := 2) (show ((0 : Nat) : Int) = 0 from rfl) (show ((0 : Nat) : Int) = 0 from rfl) (i3I (y := (1300 + ((Z 2 0 0 0) / 24))) (i3A (show (1300 : Int32) = i3 1300 from rfl) (i3D (zm_rd (Z := Z) (ν := ν) (k := 2) (show ((0 : Nat) : Int) = 0 from rfl) (show ((0 : Nat) : Int) = 0 from rfl) (show ((0 : Nat) : Int) = 0 from rfl)) (show (24 : Int32) = i3 24 from rfl) (by omega) (by omega) (by omega) (by omega))) (by omega) (by omega) (by omega))) (zm_rd (Z := Z) (ν := ν) (k := 2) (show ((0 : Nat) : Int) = 0 from rfl) (show ((0 : Nat) : Int) = 0 from rfl) (i3I (y := (1211 + 12 * a1)) (i3A (i3A (show (1210 : Int32) = i3 1210 from rfl) (i3M (show (12 : Int32) = i3 12 from rfl) (rfl : i3 a1 = i3 a1))) (show (1 : Int32) = i3 1 from rfl)) (by omega) (by omega) (by omega)))) (zm_rd (Z := Z) (ν := ν) (k := 2) (show ((0 : Nat) : Int) = 0 from rfl) (show ((0 : Nat) : Int) = 0 from rfl) (i3I (y := (1300 + ((Z 2 0 0 0) / 24))) (i3A (show (1300 : Int32) = i3 1300 from rfl) (i3D (zm_rd (Z := Z) (ν := ν) (k := 2) (show ((0 : Nat) : Int) = 0 from rfl) (show ((0 : Nat) : Int) = 0 from rfl) (show ((0 : Nat) : Int) = 0 from rfl)) (show (24 : Int32) = i3 24 from rfl) (by omega) (by omega) (by omega) (by omega))) (by omega) (by omega) (by omega))) (by omega) (by omega) (by omega) (by omega)) (fun h75 => ?_) (fun h75 => ?_)
          · replace hP := zE_p hP h75
            refine wz_i0 (i3O (n := 4400) (i3A (i3A (show (1210 : Int32) = i3 1210 from rfl) (i3M (show (12 : Int32) = i3 12 from rfl) (rfl : i3 a1 = i3 a1))) (show (7 : Int32) = i3 7 from rfl)) (by omega) (by omega) (by omega)) ?_
            have r76 := zM_f hZ74I 2 0 0 (1217 + 12 * a1)
            obtain ⟨Z77, hZ77⟩ := zx (zu Z74 2 0 0 (1217 + 12 * a1) ((Z74 2 0 0 (1217 + 12 * a1)) + 0))
            replace hP := zl_e hP hZ77
            have hZ77I := zM_u2 hZ74I hZ77 (lo := -2147483648) (hi := 2147483647) (zs_1210_7 (x := a1) (by omega) (by omega) (by omega)) (by omega) ⟨by decide, by decide⟩ (by simp only [zsp]; omega)
            have hZ77U : zU [] Z Z77 := zU_u hZ74U hZ77 (Or.inl rfl)
            have hZ77K : zC [2] Z Z77 := zC_u hZ74K hZ77 (zcl_2w (by omega) rfl)
            intro μ9 e9
            replace e9 := e9.trans (zm_wI (Z := Z74) (ν := ν) hZ77 (show ((0 : Nat) : Int) = 0 from rfl) (show ((0 : Nat) : Int) = 0 from rfl) (i3I (y := (1217 + 12 * a1)) (i3A (i3A (show (1210 : Int32) = i3 1210 from rfl) (i3M (show (12 : Int32) = i3 12 from rfl) (rfl : i3 a1 = i3 a1))) (show (7 : Int32) = i3 7 from rfl)) (by omega) (by omega) (by omega)) (i3A (zm_rd (Z := Z74) (ν := ν) (k := 2) (show ((0 : Nat) : Int) = 0 from rfl) (show ((0 : Nat) : Int) = 0 from rfl) (i3I (y := (1217 + 12 * a1)) (i3A (i3A (show (1210 : Int32) = i3 1210 from rfl) (i3M (show (12 : Int32) = i3 12 from rfl) (rfl : i3 a1 = i3 a1))) (show (7 : Int32) = i3 7 from rfl)) (by omega) (by omega) (by omega))) (show (0 : Int32) = i3 0 from rfl)))
            subst e9
            refine wz_i0 (i3O (n := 4400) (i3A (i3A (show (1210 : Int32) = i3 1210 from rfl) (i3M (show (12 : Int32) = i3 12 from rfl) (rfl : i3 a1 = i3 a1))) (show (8 : Int32) = i3 8 from rfl)) (by omega) (by omega) (by omega)) ?_
            refine wz_i1 (Eq.trans (i3E (i3A (zm_rd (Z := Z) (ν := ν) (k := 2) (show ((0 : Nat) : Int) = 0 from rfl) (show ((0 : Nat) : Int) = 0 from rfl) (i3I (y := (1300 + ((Z 2 0 0 0) / 24))) (i3A (show (1300 : Int32) = i3 1300 from rfl) (i3D (zm_rd (Z := Z) (ν := ν) (k := 2) (show ((0 : Nat) : Int) = 0 from rfl) (show ((0 : Nat) : Int) = 0 from rfl) (show ((0 : Nat) : Int) = 0 from rfl)) (show (24 : Int32) = i3 24 from rfl) (by omega) (by omega) (by omega) (by omega))) (by omega) (by omega) (by omega))) (zm_rd (Z := Z) (ν := ν) (k := 2) (show ((0 : Nat) : Int) = 0 from rfl) (show ((0 : Nat) : Int) = 0 from rfl) (i3I (y := (1211 + 12 * a1)) (i3A (i3A (show (1210 : Int32) = i3 1210 from rfl) (i3M (show (12 : Int32) = i3 12 from rfl) (rfl : i3 a1 = i3 a1))) (show (1 : Int32) = i3 1 from rfl)) (by omega) (by omega) (by omega)))) (zm_rd (Z := Z) (ν := ν) (k := 2) (show ((0 : Nat) : Int) = 0 from rfl) (show ((0 : Nat) : Int) = 0 from rfl) (i3I (y := (1300 + ((Z 2 0 0 0) / 24))) (i3A (show (1300 : Int32) = i3 1300 from rfl) (i3D (zm_rd (Z := Z) (ν := ν) (k := 2) (show ((0 : Nat) : Int) = 0 from rfl) (show ((0 : Nat) : Int) = 0 from rfl) (show ((0 : Nat) : Int) = 0 from rfl)) (show (24 : Int32) = i3 24 from rfl) (by omega) (by omega) (by omega) (by omega))) (by omega) (by omega) (by omega))) (by omega) (by omega) (by omega) (by omega)) (decide_eq_true (by omega))) ?_
            refine wz_i0 (i3O (n := 4400) (i3A (i3A (show (1210 : Int32) = i3 1210 from rfl) (i3M (show (12 : Int32) = i3 12 from rfl) (rfl : i3 a1 = i3 a1))) (show (8 : Int32) = i3 8 from rfl)) (by omega) (by omega) (by omega)) ?_
            have r78 := zM_f hZ77I 2 0 0 (1218 + 12 * a1)
            obtain ⟨Z79, hZ79⟩ := zx (zu Z77 2 0 0 (1218 + 12 * a1) ((Z77 2 0 0 (1218 + 12 * a1)) + 0))
            replace hP := zl_e hP hZ79
            have hZ79I := zM_u2 hZ77I hZ79 (lo := -2147483648) (hi := 2147483647) (zs_1210_8 (x := a1) (by omega) (by omega) (by omega)) (by omega) ⟨by decide, by decide⟩ (by simp only [zsp]; omega)
            have hZ79U : zU [] Z Z79 := zU_u hZ77U hZ79 (Or.inl rfl)
            have hZ79K : zC [2] Z Z79 := zC_u hZ77K hZ79 (zcl_2w (by omega) rfl)
            intro μ9 e9
            replace e9 := e9.trans (zm_wI (Z := Z77) (ν := ν) hZ79 (show ((0 : Nat) : Int) = 0 from rfl) (show ((0 : Nat) : Int) = 0 from rfl) (i3I (y := (1218 + 12 * a1)) (i3A (i3A (show (1210 : Int32) = i3 1210 from rfl) (i3M (show (12 : Int32) = i3 12 from rfl) (rfl : i3 a1 = i3 a1))) (show (8 : Int32) = i3 8 from rfl)) (by omega) (by omega) (by omega)) (i3A (zm_rd (Z := Z77) (ν := ν) (k := 2) (show ((0 : Nat) : Int) = 0 from rfl) (show ((0 : Nat) : Int) = 0 from rfl) (i3I (y := (1218 + 12 * a1)) (i3A (i3A (show (1210 : Int32) = i3 1210 from rfl) (i3M (show (12 : Int32) = i3 12 from rfl) (rfl : i3 a1 = i3 a1))) (show (8 : Int32) = i3 8 from rfl)) (by omega) (by omega) (by omega))) (show (0 : Int32) = i3 0 from rfl)))
            subst e9
            refine wz_i0 (i3O (n := 4400) (i3A (i3A (show (1210 : Int32) = i3 1210 from rfl) (i3M (show (12 : Int32) = i3 12 from rfl) (rfl : i3 a1 = i3 a1))) (show (6 : Int32) = i3 6 from rfl)) (by omega) (by omega) (by omega)) ?_
            obtain ⟨Z80, hZ80⟩ := zx (zu Z79 2 0 0 (1216 + 12 * a1) 0)
            replace hP := zl_e hP hZ80
            have hZ80I := zM_z2 hZ79I hZ80 (by omega) (by omega) (by omega)
            have hZ80U : zU [] Z Z80 := zU_u hZ79U hZ80 (Or.inl rfl)
            have hZ80K : zC [2] Z Z80 := zC_u hZ79K hZ80 (zcl_2w (by omega) rfl)
            intro μ9 e9
            replace e9 := e9.trans (zm_wI (Z := Z79) (ν := ν) hZ80 (show ((0 : Nat) : Int) = 0 from rfl) (show ((0 : Nat) : Int) = 0 from rfl) (i3I (y := (1216 + 12 * a1)) (i3A (i3A (show (1210 : Int32) = i3 1210 from rfl) (i3M (show (12 : Int32) = i3 12 from rfl) (rfl : i3 a1 = i3 a1))) (show (6 : Int32) = i3 6 from rfl)) (by omega) (by omega) (by omega)) (show (0 : Int32) = i3 0 from rfl))
            subst e9
            exact zlV hP ⟨hZ80I, hZ80K, hZ80U⟩
          · replace hP := zE_n hP h75
            refine wz_i0 (i3O (n := 4400) (i3A (i3A (show (1210 : Int32) = i3 1210 from rfl) (i3M (show (12 : Int32) = i3 12 from rfl) (rfl : i3 a1 = i3 a1))) (show (7 : Int32) = i3 7 from rfl)) (by omega) (by omega) (by omega)) ?_
            have r81 := zM_f hZ74I 2 0 0 (1217 + 12 * a1)
            have r82 := w3_r ((Z74 2 0 0 (1217 + 12 * a1)) + 1)
            obtain ⟨Z83, hZ83⟩ := zx (zu Z74 2 0 0 (1217 + 12 * a1) (w3 ((Z74 2 0 0 (1217 + 12 * a1)) + 1)))
            replace hP := zl_e hP hZ83
            have hZ83I := zM_u2 hZ74I hZ83 (lo := -2147483648) (hi := 2147483647) (zs_1210_7 (x := a1) (by omega) (by omega) (by omega)) (by omega) ⟨by decide, by decide⟩ (by simp only [zsp]; omega)
            have hZ83U : zU [] Z Z83 := zU_u hZ74U hZ83 (Or.inl rfl)
            have hZ83K : zC [2] Z Z83 := zC_u hZ74K hZ83 (zcl_2w (by omega) rfl)
            intro μ9 e9
            replace e9 := e9.trans (zm_wI (Z := Z74) (ν := ν) hZ83 (show ((0 : Nat) : Int) = 0 from rfl) (show ((0 : Nat) : Int) = 0 from rfl) (i3I (y := (1217 + 12 * a1)) (i3A (i3A (show (1210 : Int32) = i3 1210 from rfl) (i3M (show (12 : Int32) = i3 12 from rfl) (rfl : i3 a1 = i3 a1))) (show (7 : Int32) = i3 7 from rfl)) (by omega) (by omega) (by omega)) (i3W (i3A (zm_rd (Z := Z74) (ν := ν) (k := 2) (show ((0 : Nat) : Int) = 0 from rfl) (show ((0 : Nat) : Int) = 0 from rfl) (i3I (y := (1217 + 12 * a1)) (i3A (i3A (show (1210 : Int32) = i3 1210 from rfl) (i3M (show (12 : Int32) = i3 12 from rfl) (rfl : i3 a1 = i3 a1))) (show (7 : Int32) = i3 7 from rfl)) (by omega) (by omega) (by omega))) (show (1 : Int32) = i3 1 from rfl))))
            subst e9
            refine wz_i0 (i3O (n := 4400) (i3A (i3A (show (1210 : Int32) = i3 1210 from rfl) (i3M (show (12 : Int32) = i3 12 from rfl) (rfl : i3 a1 = i3 a1))) (show (8 : Int32) = i3 8 from rfl)) (by omega) (by omega) (by omega)) ?_
            refine wz_i0 (Eq.trans (i3E (i3A (zm_rd (Z := Z) (ν := ν) (k := 2) (show ((0 : Nat) : Int) = 0 from rfl) (show ((0 : Nat) : Int) = 0 from rfl) (i3I (y := (1300 + ((Z 2 0 0 0) / 24))) (i3A (show (1300 : Int32) = i3 1300 from rfl) (i3D (zm_rd (Z := Z) (ν := ν) (k := 2) (show ((0 : Nat) : Int) = 0 from rfl) (show ((0 : Nat) : Int) = 0 from rfl) (show ((0 : Nat) : Int) = 0 from rfl)) (show (24 : Int32) = i3 24 from rfl) (by omega) (by omega) (by omega) (by omega))) (by omega) (by omega) (by omega))) (zm_rd (Z := Z) (ν := ν) (k := 2) (show ((0 : Nat) : Int) = 0 from rfl) (show ((0 : Nat) : Int) = 0 from rfl) (i3I (y := (1211 + 12 * a1)) (i3A (i3A (show (1210 : Int32) = i3 1210 from rfl) (i3M (show (12 : Int32) = i3 12 from rfl) (rfl : i3 a1 = i3 a1))) (show (1 : Int32) = i3 1 from rfl)) (by omega) (by omega) (by omega)))) (zm_rd (Z := Z) (ν := ν) (k := 2) (show ((0 : Nat) : Int) = 0 from rfl) (show ((0 : Nat) : Int) = 0 from rfl) (i3I (y := (1300 + ((Z 2 0 0 0) / 24))) (i3A (show (1300 : Int32) = i3 1300 from rfl) (i3D (zm_rd (Z := Z) (ν := ν) (k := 2) (show ((0 : Nat) : Int) = 0 from rfl) (show ((0 : Nat) : Int) = 0 from rfl) (show ((0 : Nat) : Int) = 0 from rfl)) (show (24 : Int32) = i3 24 from rfl) (by omega) (by omega) (by omega) (by omega))) (by omega) (by omega) (by omega))) (by omega) (by omega) (by omega) (by omega)) (decide_eq_false (by omega))) ?_
            refine wz_i0 (i3O (n := 4400) (i3A (i3A (show (1210 : Int32) = i3 1210 from rfl) (i3M (show (12 : Int32) = i3 12 from rfl) (rfl : i3 a1 = i3 a1))) (show (8 : Int32) = i3 8 from rfl)) (by omega) (by omega) (by omega)) ?_
            have r84 := zM_f hZ83I 2 0 0 (1218 + 12 * a1)
            have r85 := w3_r ((Z83 2 0 0 (1218 + 12 * a1)) + 1)
            obtain ⟨Z86, hZ86⟩ := zx (zu Z83 2 0 0 (1218 + 12 * a1) (w3 ((Z83 2 0 0 (1218 + 12 * a1)) + 1)))
            replace hP := zl_e hP hZ86
            have hZ86I := zM_u2 hZ83I hZ86 (lo := -2147483648) (hi := 2147483647) (zs_1210_8 (x := a1) (by omega) (by omega) (by omega)) (by omega) ⟨by decide, by decide⟩ (by simp only [zsp]; omega)
            have hZ86U : zU [] Z Z86 := zU_u hZ83U hZ86 (Or.inl rfl)
            have hZ86K : zC [2] Z Z86 := zC_u hZ83K hZ86 (zcl_2w (by omega) rfl)
            intro μ9 e9
            replace e9 := e9.trans (zm_wI (Z := Z83) (ν := ν) hZ86 (show ((0 : Nat) : Int) = 0 from rfl) (show ((0 : Nat) : Int) = 0 from rfl) (i3I (y := (1218 + 12 * a1)) (i3A (i3A (show (1210 : Int32) = i3 1210 from rfl) (i3M (show (12 : Int32) = i3 12 from rfl) (rfl : i3 a1 = i3 a1))) (show (8 : Int32) = i3 8 from rfl)) (by omega) (by omega) (by omega)) (i3W (i3A (zm_rd (Z := Z83) (ν := ν) (k := 2) (show ((0 : Nat) : Int) = 0 from rfl) (show ((0 : Nat) : Int) = 0 from rfl) (i3I (y := (1218 + 12 * a1)) (i3A (i3A (show (1210 : Int32) = i3 1210 from rfl) (i3M (show (12 : Int32) = i3 12 from rfl) (rfl : i3 a1 = i3 a1))) (show (8 : Int32) = i3 8 from rfl)) (by omega) (by omega) (by omega))) (show (1 : Int32) = i3 1 from rfl))))
            subst e9
            refine wz_i0 (i3O (n := 4400) (i3A (i3A (show (1210 : Int32) = i3 1210 from rfl) (i3M (show (12 : Int32) = i3 12 from rfl) (rfl : i3 a1 = i3 a1))) (show (6 : Int32) = i3 6 from rfl)) (by omega) (by omega) (by omega)) ?_
            obtain ⟨Z87, hZ87⟩ := zx (zu Z86 2 0 0 (1216 + 12 * a1) 0)
            replace hP := zl_e hP hZ87
            have hZ87I := zM_z2 hZ86I hZ87 (by omega) (by omega) (by omega)
            have hZ87U : zU [] Z Z87 := zU_u hZ86U hZ87 (Or.inl rfl)
            have hZ87K : zC [2] Z Z87 := zC_u hZ86K hZ87 (zcl_2w (by omega) rfl)
            intro μ9 e9
            replace e9 := e9.trans (zm_wI (Z := Z86) (ν := ν) hZ87 (show ((0 : Nat) : Int) = 0 from rfl) (show ((0 : Nat) : Int) = 0 from rfl) (i3I (y := (1216 + 12 * a1)) (i3A (i3A (show (1210 : Int32) = i3 1210 from rfl) (i3M (show (12 : Int32) = i3 12 from rfl) (rfl : i3 a1 = i3 a1))) (show (6 : Int32) = i3 6 from rfl)) (by omega) (by omega) (by omega)) (show (0 : Int32) = i3 0 from rfl))
            subst e9
            exact zlV hP ⟨hZ87I, hZ87K, hZ87U⟩
    · replace hP := zE_n hP h7
      refine wz_i0 (i3O (n := 4400) (i3A (i3A (show (1210 : Int32) = i3 1210 from rfl) (i3M (show (12 : Int32) = i3 12 from rfl) (rfl : i3 a1 = i3 a1))) (show (3 : Int32) = i3 3 from rfl)) (by omega) (by omega) (by omega)) ?_
      refine wz_i0 (i3O (n := 4400) (i3A (i3A (show (1210 : Int32) = i3 1210 from rfl) (i3M (show (12 : Int32) = i3 12 from rfl) (rfl : i3 a1 = i3 a1))) (show (1 : Int32) = i3 1 from rfl)) (by omega) (by omega) (by omega)) ?_
      have r88 := zM_k hZ 2 0 0 (1213 + 12 * a1) (lo := 0) (hi := 40) (by decide) (zs_1210_3 (x := a1) (by omega) (by omega) (by omega))
      refine wz_br (i3Le (zm_rd (Z := Z) (ν := ν) (k := 2) (show ((0 : Nat) : Int) = 0 from rfl) (show ((0 : Nat) : Int) = 0 from rfl) (i3I (y := (1213 + 12 * a1)) (i3A (i3A (show (1210 : Int32) = i3 1210 from rfl) (i3M (show (12 : Int32) = i3 12 from rfl) (rfl : i3 a1 = i3 a1))) (show (3 : Int32) = i3 3 from rfl)) (by omega) (by omega) (by omega))) (i3S (zm_rd (Z := Z) (ν := ν) (k := 2) (show ((0 : Nat) : Int) = 0 from rfl) (show ((0 : Nat) : Int) = 0 from rfl) (i3I (y := (1215 + 12 * a1)) (i3A (i3A (show (1210 : Int32) = i3 1210 from rfl) (i3M (show (12 : Int32) = i3 12 from rfl) (rfl : i3 a1 = i3 a1))) (show (5 : Int32) = i3 5 from rfl)) (by omega) (by omega) (by omega))) (i3A (zm_rd (Z := Z) (ν := ν) (k := 2) (show ((0 : Nat) : Int) = 0 from rfl) (show ((0 : Nat) : Int) = 0 from rfl) (i3I (y := (1212 + 12 * a1)) (i3A (i3A (show (1210 : Int32) = i3 1210 from rfl) (i3M (show (12 : Int32) = i3 12 from rfl) (rfl : i3 a1 = i3 a1))) (show (2 : Int32) = i3 2 from rfl)) (by omega) (by omega) (by omega))) (zm_rd (Z := Z) (ν := ν) (k := 2) (show ((0 : Nat) : Int) = 0 from rfl) (show ((0 : Nat) : Int) = 0 from rfl) (i3I (y := (1216 + 12 * a1)) (i3A (i3A (show (1210 : Int32) = i3 1210 from rfl) (i3M (show (12 : Int32) = i3 12 from rfl) (rfl : i3 a1 = i3 a1))) (show (6 : Int32) = i3 6 from rfl)) (by omega) (by omega) (by omega))))) (by omega) (by omega) (by omega) (by omega)) (fun h89 => ?_) (fun h89 => ?_)
      · replace hP := zE_p hP h89
        have r90 := zM_k hZ 2 0 0 (1211 + 12 * a1) (lo := 0) (hi := 9) (by decide) (zs_1210_1 (x := a1) (by omega) (by omega) (by omega))
        refine wz_br (i3Le (i3S (i3S (zm_rd (Z := Z) (ν := ν) (k := 2) (show ((0 : Nat) : Int) = 0 from rfl) (show ((0 : Nat) : Int) = 0 from rfl) (i3I (y := (1215 + 12 * a1)) (i3A (i3A (show (1210 : Int32) = i3 1210 from rfl) (i3M (show (12 : Int32) = i3 12 from rfl) (rfl : i3 a1 = i3 a1))) (show (5 : Int32) = i3 5 from rfl)) (by omega) (by omega) (by omega))) (i3A (zm_rd (Z := Z) (ν := ν) (k := 2) (show ((0 : Nat) : Int) = 0 from rfl) (show ((0 : Nat) : Int) = 0 from rfl) (i3I (y := (1212 + 12 * a1)) (i3A (i3A (show (1210 : Int32) = i3 1210 from rfl) (i3M (show (12 : Int32) = i3 12 from rfl) (rfl : i3 a1 = i3 a1))) (show (2 : Int32) = i3 2 from rfl)) (by omega) (by omega) (by omega))) (zm_rd (Z := Z) (ν := ν) (k := 2) (show ((0 : Nat) : Int) = 0 from rfl) (show ((0 : Nat) : Int) = 0 from rfl) (i3I (y := (1216 + 12 * a1)) (i3A (i3A (show (1210 : Int32) = i3 1210 from rfl) (i3M (show (12 : Int32) = i3 12 from rfl) (rfl : i3 a1 = i3 a1))) (show (6 : Int32) = i3 6 from rfl)) (by omega) (by omega) (by omega))))) (zm_rd (Z := Z) (ν := ν) (k := 2) (show ((0 : Nat) : Int) = 0 from rfl) (show ((0 : Nat) : Int) = 0 from rfl) (i3I (y := (1211 + 12 * a1)) (i3A (i3A (show (1210 : Int32) = i3 1210 from rfl) (i3M (show (12 : Int32) = i3 12 from rfl) (rfl : i3 a1 = i3 a1))) (show (1 : Int32) = i3 1 from rfl)) (by omega) (by omega) (by omega)))) (zm_rd (Z := Z) (ν := ν) (k := 2) (show ((0 : Nat) : Int) = 0 from rfl) (show ((0 : Nat) : Int) = 0 from rfl) (i3I (y := (1213 + 12 * a1)) (i3A (i3A (show (1210 : Int32) = i3 1210 from rfl) (i3M (show (12 : Int32) = i3 12 from rfl) (rfl : i3 a1 = i3 a1))) (show (3 : Int32) = i3 3 from rfl)) (by omega) (by omega) (by omega))) (by omega) (by omega) (by omega) (by omega)) (fun h91 => ?_) (fun h91 => ?_)
        · replace hP := zE_p hP h91
          refine wz_i0 (i3O (n := 4400) (i3A (i3A (show (1210 : Int32) = i3 1210 from rfl) (i3M (show (12 : Int32) = i3 12 from rfl) (rfl : i3 a1 = i3 a1))) (show (5 : Int32) = i3 5 from rfl)) (by omega) (by omega) (by omega)) ?_
          obtain ⟨Z92, hZ92⟩ := zx (zu Z 2 0 0 (1215 + 12 * a1) (Z 2 0 0 (1213 + 12 * a1)))
          replace hP := zl_e hP hZ92
          have hZ92I := zM_u2 hZ hZ92 (lo := 0) (hi := 40) (zs_1210_5 (x := a1) (by omega) (by omega) (by omega)) (by omega) ⟨by decide, by decide⟩ (by simp only [zsp]; omega)
          have hZ92U : zU [] Z Z92 := zU_u zU_r hZ92 (Or.inl rfl)
          have hZ92K : zC [2] Z Z92 := zC_u zC_r hZ92 (zcl_2w (by omega) rfl)
          intro μ9 e9
          replace e9 := e9.trans (zm_wI (Z := Z) (ν := ν) hZ92 (show ((0 : Nat) : Int) = 0 from rfl) (show ((0 : Nat) : Int) = 0 from rfl) (i3I (y := (1215 + 12 * a1)) (i3A (i3A (show (1210 : Int32) = i3 1210 from rfl) (i3M (show (12 : Int32) = i3 12 from rfl) (rfl : i3 a1 = i3 a1))) (show (5 : Int32) = i3 5 from rfl)) (by omega) (by omega) (by omega)) (zm_rd (Z := Z) (ν := ν) (k := 2) (show ((0 : Nat) : Int) = 0 from rfl) (show ((0 : Nat) : Int) = 0 from rfl) (i3I (y := (1213 + 12 * a1)) (i3A (i3A (show (1210 : Int32) = i3 1210 from rfl) (i3M (show (12 : Int32) = i3 12 from rfl) (rfl : i3 a1 = i3 a1))) (show (3 : Int32) = i3 3 from rfl)) (by omega) (by omega) (by omega))))
          subst e9
          refine wz_i0 (i3O (n := 4400) (i3A (i3A (show (1210 : Int32) = i3 1210 from rfl) (i3M (show (12 : Int32) = i3 12 from rfl) (rfl : i3 a1 = i3 a1))) (show (7 : Int32) = i3 7 from rfl)) (by omega) (by omega) (by omega)) ?_
          refine wz_br (i3E (zm_rd (Z := Z) (ν := ν) (k := 2) (show ((0 : Nat) : Int) = 0 from rfl) (show ((0 : Nat) : Int) = 0 from rfl) (i3I (y := (1213 + 12 * a1)) (i3A (i3A (show (1210 : Int32) = i3 1210 from rfl) (i3M (show (12 : Int32) = i3 12 from rfl) (rfl : i3 a1 = i3 a1))) (show (3 : Int32) = i3 3 from rfl)) (by omega) (by omega) (by omega))) (i3S (zm_rd (Z := Z) (ν := ν) (k := 2) (show ((0 : Nat) : Int) = 0 from rfl) (show ((0 : Nat) : Int) = 0 from rfl) (i3I (y := (1215 + 12 * a1)) (i3A (i3A (show (1210 : Int32) = i3 1210 from rfl) (i3M (show (12 : Int32) = i3 12 from rfl) (rfl : i3 a1 = i3 a1))) (show (5 : Int32) = i3 5 from rfl)) (by omega) (by omega) (by omega))) (i3A (zm_rd (Z := Z) (ν := ν) (k := 2) (show ((0 : Nat) : Int) = 0 from rfl) (show ((0 : Nat) : Int) = 0 from rfl) (i3I (y := (1212 + 12 * a1)) (i3A (i3A (show (1210 : Int32) = i3 1210 from rfl) (i3M (show (12 : Int32) = i3 12 from rfl) (rfl : i3 a1 = i3 a1))) (show (2 : Int32) = i3 2 from rfl)) (by omega) (by omega) (by omega))) (zm_rd (Z := Z) (ν := ν) (k := 2) (show ((0 : Nat) : Int) = 0 from rfl) (show ((0 : Nat) : Int) = 0 from rfl) (i3I (y := (1216 + 12 * a1)) (i3A (i3A (show (1210 : Int32) = i3 1210 from rfl) (i3M (show (12 : Int32) = i3 12 from rfl) (rfl : i3 a1 = i3 a1))) (show (6 : Int32) = i3 6 from rfl)) (by omega) (by omega) (by omega))))) (by omega) (by omega) (by omega) (by omega)) (fun h93 => ?_) (fun h93 => ?_)
          · replace hP := zE_p hP h93
            refine wz_i0 (i3O (n := 4400) (i3A (i3A (show (1210 : Int32) = i3 1210 from rfl) (i3M (show (12 : Int32) = i3 12 from rfl) (rfl : i3 a1 = i3 a1))) (show (7 : Int32) = i3 7 from rfl)) (by omega) (by omega) (by omega)) ?_
            have r94 := zM_f hZ92I 2 0 0 (1217 + 12 * a1)
            obtain ⟨Z95, hZ95⟩ := zx (zu Z92 2 0 0 (1217 + 12 * a1) ((Z92 2 0 0 (1217 + 12 * a1)) + 0))
            replace hP := zl_e hP hZ95
            have hZ95I := zM_u2 hZ92I hZ95 (lo := -2147483648) (hi := 2147483647) (zs_1210_7 (x := a1) (by omega) (by omega) (by omega)) (by omega) ⟨by decide, by decide⟩ (by simp only [zsp]; omega)
            have hZ95U : zU [] Z Z95 := zU_u hZ92U hZ95 (Or.inl rfl)
            have hZ95K : zC [2] Z Z95 := zC_u hZ92K hZ95 (zcl_2w (by omega) rfl)
            intro μ9 e9
            replace e9 := e9.trans (zm_wI (Z := Z92) (ν := ν) hZ95 (show ((0 : Nat) : Int) = 0 from rfl) (show ((0 : Nat) : Int) = 0 from rfl) (i3I (y := (1217 + 12 * a1)) (i3A (i3A (show (1210 : Int32) = i3 1210 from rfl) (i3M (show (12 : Int32) = i3 12 from rfl) (rfl : i3 a1 = i3 a1))) (show (7 : Int32) = i3 7 from rfl)) (by omega) (by omega) (by omega)) (i3A (zm_rd (Z := Z92) (ν := ν) (k := 2) (show ((0 : Nat) : Int) = 0 from rfl) (show ((0 : Nat) : Int) = 0 from rfl) (i3I (y := (1217 + 12 * a1)) (i3A (i3A (show (1210 : Int32) = i3 1210 from rfl) (i3M (show (12 : Int32) = i3 12 from rfl) (rfl : i3 a1 = i3 a1))) (show (7 : Int32) = i3 7 from rfl)) (by omega) (by omega) (by omega))) (show (0 : Int32) = i3 0 from rfl)))
            subst e9
            refine wz_i0 (i3O (n := 4400) (i3A (i3A (show (1210 : Int32) = i3 1210 from rfl) (i3M (show (12 : Int32) = i3 12 from rfl) (rfl : i3 a1 = i3 a1))) (show (8 : Int32) = i3 8 from rfl)) (by omega) (by omega) (by omega)) ?_
            refine wz_br (i3E (zm_rd (Z := Z) (ν := ν) (k := 2) (show ((0 : Nat) : Int) = 0 from rfl) (show ((0 : Nat) : Int) = 0 from rfl) (i3I (y := (1213 + 12 * a1)) (i3A (i3A (show (1210 : Int32) = i3 1210 from rfl) (i3M (show (12 : Int32) = i3 12 from rfl) (rfl : i3 a1 = i3 a1))) (show (3 : Int32) = i3 3 from rfl)) (by omega) (by omega) (by omega))) (i3S (zm_rd (Z := Z) (ν := ν) (k := 2) (show ((0 : Nat) : Int) = 0 from rfl) (show ((0 : Nat) : Int) = 0 from rfl) (i3I (y := (1215 + 12 * a1)) (i3A (i3A (show (1210 : Int32) = i3 1210 from rfl) (i3M (show (12 : Int32) = i3 12 from rfl) (rfl : i3 a1 = i3 a1))) (show (5 : Int32) = i3 5 from rfl)) (by omega) (by omega) (by omega))) (i3A (zm_rd (Z := Z) (ν := ν) (k := 2) (show ((0 : Nat) : Int) = 0 from rfl) (show ((0 : Nat) : Int) = 0 from rfl) (i3I (y := (1212 + 12 * a1)) (i3A (i3A (show (1210 : Int32) = i3 1210 from rfl) (i3M (show (12 : Int32) = i3 12 from rfl) (rfl : i3 a1 = i3 a1))) (show (2 : Int32) = i3 2 from rfl)) (by omega) (by omega) (by omega))) (zm_rd (Z := Z) (ν := ν) (k := 2) (show ((0 : Nat) : Int) = 0 from rfl) (show ((0 : Nat) : Int) = 0 from rfl) (i3I (y := (1216 + 12 * a1)) (i3A (i3A (show (1210 : Int32) = i3 1210 from rfl) (i3M (show (12 : Int32) = i3 12 from rfl) (rfl : i3 a1 = i3 a1))) (show (6 : Int32) = i3 6 from rfl)) (by omega) (by omega) (by omega))))) (by omega) (by omega) (by omega) (by omega)) (fun h96 => ?_) (fun h96 => ?_)
            · replace hP := zE_p hP h96
              refine wz_i0 (i3O (n := 4400) (i3A (i3A (show (1210 : Int32) = i3 1210 from rfl) (i3M (show (12 : Int32) = i3 12 from rfl) (rfl : i3 a1 = i3 a1))) (show (8 : Int32) = i3 8 from rfl)) (by omega) (by omega) (by omega)) ?_
              have r97 := zM_f hZ95I 2 0 0 (1218 + 12 * a1)
              obtain ⟨Z98, hZ98⟩ := zx (zu Z95 2 0 0 (1218 + 12 * a1) ((Z95 2 0 0 (1218 + 12 * a1)) + 0))
              replace hP := zl_e hP hZ98
              have hZ98I := zM_u2 hZ95I hZ98 (lo := -2147483648) (hi := 2147483647) (zs_1210_8 (x := a1) (by omega) (by omega) (by omega)) (by omega) ⟨by decide, by decide⟩ (by simp only [zsp]; omega)
              have hZ98U : zU [] Z Z98 := zU_u hZ95U hZ98 (Or.inl rfl)
              have hZ98K : zC [2] Z Z98 := zC_u hZ95K hZ98 (zcl_2w (by omega) rfl)
              intro μ9 e9
              replace e9 := e9.trans (zm_wI (Z := Z95) (ν := ν) hZ98 (show ((0 : Nat) : Int) = 0 from rfl) (show ((0 : Nat) : Int) = 0 from rfl) (i3I (y := (1218 + 12 * a1)) (i3A (i3A (show (1210 : Int32) = i3 1210 from rfl) (i3M (show (12 : Int32) = i3 12 from rfl) (rfl : i3 a1 = i3 a1))) (show (8 : Int32) = i3 8 from rfl)) (by omega) (by omega) (by omega)) (i3A (zm_rd (Z := Z95) (ν := ν) (k := 2) (show ((0 : Nat) : Int) = 0 from rfl) (show ((0 : Nat) : Int) = 0 from rfl) (i3I (y := (1218 + 12 * a1)) (i3A (i3A (show (1210 : Int32) = i3 1210 from rfl) (i3M (show (12 : Int32) = i3 12 from rfl) (rfl : i3 a1 = i3 a1))) (show (8 : Int32) = i3 8 from rfl)) (by omega) (by omega) (by omega))) (show (0 : Int32) = i3 0 from rfl)))
              subst e9
              refine wz_i0 (i3O (n := 4400) (i3A (i3A (show (1210 : Int32) = i3 1210 from rfl) (i3M (show (12 : Int32) = i3 12 from rfl) (rfl : i3 a1 = i3 a1))) (show (6 : Int32) = i3 6 from rfl)) (by omega) (by omega) (by omega)) ?_
              obtain ⟨Z99, hZ99⟩ := zx (zu Z98 2 0 0 (1216 + 12 * a1) 0)
              replace hP := zl_e hP hZ99
              have hZ99I := zM_z2 hZ98I hZ99 (by omega) (by omega) (by omega)
              have hZ99U : zU [] Z Z99 := zU_u hZ98U hZ99 (Or.inl rfl)
              have hZ99K : zC [2] Z Z99 := zC_u hZ98K hZ99 (zcl_2w (by omega) rfl)
              intro μ9 e9
              replace e9 := e9.trans (zm_wI (Z := Z98) (ν := ν) hZ99 (show ((0 : Nat) : Int) = 0 from rfl) (show ((0 : Nat) : Int) = 0 from rfl) (i3I (y := (1216 + 12 * a1)) (i3A (i3A (show (1210 : Int32) = i3 1210 from rfl) (i3M (show (12 : Int32) = i3 12 from rfl) (rfl : i3 a1 = i3 a1))) (show (6 : Int32) = i3 6 from rfl)) (by omega) (by omega) (by omega)) (show (0 : Int32) = i3 0 from rfl))
              subst e9
              exact zlV hP ⟨hZ99I, hZ99K, hZ99U⟩
            · replace hP := zE_n hP h96
              refine wz_i0 (i3O (n := 4400) (i3A (i3A (show (1210 : Int32) = i3 1210 from rfl) (i3M (show (12 : Int32) = i3 12 from rfl) (rfl : i3 a1 = i3 a1))) (show (8 : Int32) = i3 8 from rfl)) (by omega) (by omega) (by omega)) ?_
              have r100 := zM_f hZ95I 2 0 0 (1218 + 12 * a1)
              have r101 := w3_r ((Z95 2 0 0 (1218 + 12 * a1)) + 1)
              obtain ⟨Z102, hZ102⟩ := zx (zu Z95 2 0 0 (1218 + 12 * a1) (w3 ((Z95 2 0 0 (1218 + 12 * a1)) + 1)))
              replace hP := zl_e hP hZ102
              have hZ102I := zM_u2 hZ95I hZ102 (lo := -2147483648) (hi := 2147483647) (zs_1210_8 (x := a1) (by omega) (by omega) (by omega)) (by omega) ⟨by decide, by decide⟩ (by simp only [zsp]; omega)
              have hZ102U : zU [] Z Z102 := zU_u hZ95U hZ102 (Or.inl rfl)
              have hZ102K : zC [2] Z Z102 := zC_u hZ95K hZ102 (zcl_2w (by omega) rfl)
              intro μ9 e9
              replace e9 := e9.trans (zm_wI (Z := Z95) (ν := ν) hZ102 (show ((0 : Nat) : Int) = 0 from rfl) (show ((0 : Nat) : Int) = 0 from rfl) (i3I (y := (1218 + 12 * a1)) (i3A (i3A (show (1210 : Int32) = i3 1210 from rfl) (i3M (show (12 : Int32) = i3 12 from rfl) (rfl : i3 a1 = i3 a1))) (show (8 : Int32) = i3 8 from rfl)) (by omega) (by omega) (by omega)) (i3W (i3A (zm_rd (Z := Z95) (ν := ν) (k := 2) (show ((0 : Nat) : Int) = 0 from rfl) (show ((0 : Nat) : Int) = 0 from rfl) (i3I (y := (1218 + 12 * a1)) (i3A (i3A (show (1210 : Int32) = i3 1210 from rfl) (i3M (show (12 : Int32) = i3 12 from rfl) (rfl : i3 a1 = i3 a1))) (show (8 : Int32) = i3 8 from rfl)) (by omega) (by omega) (by omega))) (show (1 : Int32) = i3 1 from rfl))))
              subst e9
              refine wz_i0 (i3O (n := 4400) (i3A (i3A (show (1210 : Int32) = i3 1210 from rfl) (i3M (show (12 : Int32) = i3 12 from rfl) (rfl : i3 a1 = i3 a1))) (show (6 : Int32) = i3 6 from rfl)) (by omega) (by omega) (by omega)) ?_
              obtain ⟨Z103, hZ103⟩ := zx (zu Z102 2 0 0 (1216 + 12 * a1) 0)
              replace hP := zl_e hP hZ103
              have hZ103I := zM_z2 hZ102I hZ103 (by omega) (by omega) (by omega)
              have hZ103U : zU [] Z Z103 := zU_u hZ102U hZ103 (Or.inl rfl)
              have hZ103K : zC [2] Z Z103 := zC_u hZ102K hZ103 (zcl_2w (by omega) rfl)
              intro μ9 e9
              replace e9 := e9.trans (zm_wI (Z := Z102) (ν := ν) hZ103 (show ((0 : Nat) : Int) = 0 from rfl) (show ((0 : Nat) : Int) = 0 from rfl) (i3I (y := (1216 + 12 * a1)) (i3A (i3A (show (1210 : Int32) = i3 1210 from rfl) (i3M (show (12 : Int32) = i3 12 from rfl) (rfl : i3 a1 = i3 a1))) (show (6 : Int32) = i3 6 from rfl)) (by omega) (by omega) (by omega)) (show (0 : Int32) = i3 0 from rfl))
              subst e9
              exact zlV hP ⟨hZ103I, hZ103K, hZ103U⟩
          · replace hP := zE_n hP h93
            refine wz_i0 (i3O (n := 4400) (i3A (i3A (show (1210 : Int32) = i3 1210 from rfl) (i3M (show (12 : Int32) = i3 12 from rfl) (rfl : i3 a1 = i3 a1))) (show (7 : Int32) = i3 7 from rfl)) (by omega) (by omega) (by omega)) ?_
            have r104 := zM_f hZ92I 2 0 0 (1217 + 12 * a1)
            have r105 := w3_r ((Z92 2 0 0 (1217 + 12 * a1)) + 1)
            obtain ⟨Z106, hZ106⟩ := zx (zu Z92 2 0 0 (1217 + 12 * a1) (w3 ((Z92 2 0 0 (1217 + 12 * a1)) + 1)))
            replace hP := zl_e hP hZ106
            have hZ106I := zM_u2 hZ92I hZ106 (lo := -2147483648) (hi := 2147483647) (zs_1210_7 (x := a1) (by omega) (by omega) (by omega)) (by omega) ⟨by decide, by decide⟩ (by simp only [zsp]; omega)
            have hZ106U : zU [] Z Z106 := zU_u hZ92U hZ106 (Or.inl rfl)
            have hZ106K : zC [2] Z Z106 := zC_u hZ92K hZ106 (zcl_2w (by omega) rfl)
            intro μ9 e9
            replace e9 := e9.trans (zm_wI (Z := Z92) (ν := ν) hZ106 (show ((0 : Nat) : Int) = 0 from rfl) (show ((0 : Nat) : Int) = 0 from rfl) (i3I (y := (1217 + 12 * a1)) (i3A (i3A (show (1210 : Int32) = i3 1210 from rfl) (i3M (show (12 : Int32) = i3 12 from rfl) (rfl : i3 a1 = i3 a1))) (show (7 : Int32) = i3 7 from rfl)) (by omega) (by omega) (by omega)) (i3W (i3A (zm_rd (Z := Z92) (ν := ν) (k := 2) (show ((0 : Nat) : Int) = 0 from rfl) (show ((0 : Nat) : Int) = 0 from rfl) (i3I (y := (1217 + 12 * a1)) (i3A (i3A (show (1210 : Int32) = i3 1210 from rfl) (i3M (show (12 : Int32) = i3 12 from rfl) (rfl : i3 a1 = i3 a1))) (show (7 : Int32) = i3 7 from rfl)) (by omega) (by omega) (by omega))) (show (1 : Int32) = i3 1 from rfl))))
            subst e9
            refine wz_i0 (i3O (n := 4400) (i3A (i3A (show (1210 : Int32) = i3 1210 from rfl) (i3M (show (12 : Int32) = i3 12 from rfl) (rfl : i3 a1 = i3 a1))) (show (8 : Int32) = i3 8 from rfl)) (by omega) (by omega) (by omega)) ?_
            refine wz_br (i3E (zm_rd (Z := Z) (ν := ν) (k := 2) (show ((0 : Nat) : Int) = 0 from rfl) (show ((0 : Nat) : Int) = 0 from rfl) (i3I (y := (1213 + 12 * a1)) (i3A (i3A (show (1210 : Int32) = i3 1210 from rfl) (i3M (show (12 : Int32) = i3 12 from rfl) (rfl : i3 a1 = i3 a1))) (show (3 : Int32) = i3 3 from rfl)) (by omega) (by omega) (by omega))) (i3S (zm_rd (Z := Z) (ν := ν) (k := 2) (show ((0 : Nat) : Int) = 0 from rfl) (show ((0 : Nat) : Int) = 0 from rfl) (i3I (y := (1215 + 12 * a1)) (i3A (i3A (show (1210 : Int32) = i3 1210 from rfl) (i3M (show (12 : Int32) = i3 12 from rfl) (rfl : i3 a1 = i3 a1))) (show (5 : Int32) = i3 5 from rfl)) (by omega) (by omega) (by omega))) (i3A (zm_rd (Z := Z) (ν := ν) (k := 2) (show ((0 : Nat) : Int) = 0 from rfl) (show ((0 : Nat) : Int) = 0 from rfl) (i3I (y := (1212 + 12 * a1)) (i3A (i3A (show (1210 : Int32) = i3 1210 from rfl) (i3M (show (12 : Int32) = i3 12 from rfl) (rfl : i3 a1 = i3 a1))) (show (2 : Int32) = i3 2 from rfl)) (by omega) (by omega) (by omega))) (zm_rd (Z := Z) (ν := ν) (k := 2) (show ((0 : Nat) : Int) = 0 from rfl) (show ((0 : Nat) : Int) = 0 from rfl) (i3I (y := (1216 + 12 * a1)) (i3A (i3A (show (1210 : Int32) = i3 1210 from rfl) (i3M (show (12 : Int32) = i3 12 from rfl) (rfl : i3 a1 = i3 a1))) (show (6 : Int32) = i3 6 from rfl)) (by omega) (by omega) (by omega))))) (by omega) (by omega) (by omega) (by omega)) (fun h107 => ?_) (fun h107 => ?_)
            · replace hP := zE_p hP h107
              refine wz_i0 (i3O (n := 4400) (i3A (i3A (show (1210 : Int32) = i3 1210 from rfl) (i3M (show (12 : Int32) = i3 12 from rfl) (rfl : i3 a1 = i3 a1))) (show (8 : Int32) = i3 8 from rfl)) (by omega) (by omega) (by omega)) ?_
              have r108 := zM_f hZ106I 2 0 0 (1218 + 12 * a1)
              obtain ⟨Z109, hZ109⟩ := zx (zu Z106 2 0 0 (1218 + 12 * a1) ((Z106 2 0 0 (1218 + 12 * a1)) + 0))
              replace hP := zl_e hP hZ109
              have hZ109I := zM_u2 hZ106I hZ109 (lo := -2147483648) (hi := 2147483647) (zs_1210_8 (x := a1) (by omega) (by omega) (by omega)) (by omega) ⟨by decide, by decide⟩ (by simp only [zsp]; omega)
              have hZ109U : zU [] Z Z109 := zU_u hZ106U hZ109 (Or.inl rfl)
              have hZ109K : zC [2] Z Z109 := zC_u hZ106K hZ109 (zcl_2w (by omega) rfl)
              intro μ9 e9
              replace e9 := e9.trans (zm_wI (Z := Z106) (ν := ν) hZ109 (show ((0 : Nat) : Int) = 0 from rfl) (show ((0 : Nat) : Int) = 0 from rfl) (i3I (y := (1218 + 12 * a1)) (i3A (i3A (show (1210 : Int32) = i3 1210 from rfl) (i3M (show (12 : Int32) = i3 12 from rfl) (rfl : i3 a1 = i3 a1))) (show (8 : Int32) = i3 8 from rfl)) (by omega) (by omega) (by omega)) (i3A (zm_rd (Z := Z106) (ν := ν) (k := 2) (show ((0 : Nat) : Int) = 0 from rfl) (show ((0 : Nat) : Int) = 0 from rfl) (i3I (y := (1218 + 12 * a1)) (i3A (i3A (show (1210 : Int32) = i3 1210 from rfl) (i3M (show (12 : Int32) = i3 12 from rfl) (rfl : i3 a1 = i3 a1))) (show (8 : Int32) = i3 8 from rfl)) (by omega) (by omega) (by omega))) (show (0 : Int32) = i3 0 from rfl)))
              subst e9
              refine wz_i0 (i3O (n := 4400) (i3A (i3A (show (1210 : Int32) = i3 1210 from rfl) (i3M (show (12 : Int32) = i3 12 from rfl) (rfl : i3 a1 = i3 a1))) (show (6 : Int32) = i3 6 from rfl)) (by omega) (by omega) (by omega)) ?_
              obtain ⟨Z110, hZ110⟩ := zx (zu Z109 2 0 0 (1216 + 12 * a1) 0)
              replace hP := zl_e hP hZ110
              have hZ110I := zM_z2 hZ109I hZ110 (by omega) (by omega) (by omega)
              have hZ110U : zU [] Z Z110 := zU_u hZ109U hZ110 (Or.inl rfl)
              have hZ110K : zC [2] Z Z110 := zC_u hZ109K hZ110 (zcl_2w (by omega) rfl)
              intro μ9 e9
              replace e9 := e9.trans (zm_wI (Z := Z109) (ν := ν) hZ110 (show ((0 : Nat) : Int) = 0 from rfl) (show ((0 : Nat) : Int) = 0 from rfl) (i3I (y := (1216 + 12 * a1)) (i3A (i3A (show (1210 : Int32) = i3 1210 from rfl) (i3M (show (12 : Int32) = i3 12 from rfl) (rfl : i3 a1 = i3 a1))) (show (6 : Int32) = i3 6 from rfl)) (by omega) (by omega) (by omega)) (show (0 : Int32) = i3 0 from rfl))
              subst e9
              exact zlV hP ⟨hZ110I, hZ110K, hZ110U⟩
            · replace hP := zE_n hP h107
              refine wz_i0 (i3O (n := 4400) (i3A (i3A (show (1210 : Int32) = i3 1210 from rfl) (i3M (show (12 : Int32) = i3 12 from rfl) (rfl : i3 a1 = i3 a1))) (show (8 : Int32) = i3 8 from rfl)) (by omega) (by omega) (by omega)) ?_
              have r111 := zM_f hZ106I 2 0 0 (1218 + 12 * a1)
              have r112 := w3_r ((Z106 2 0 0 (1218 + 12 * a1)) + 1)
              obtain ⟨Z113, hZ113⟩ := zx (zu Z106 2 0 0 (1218 + 12 * a1) (w3 ((Z106 2 0 0 (1218 + 12 * a1)) + 1)))
              replace hP := zl_e hP hZ113
              have hZ113I := zM_u2 hZ106I hZ113 (lo := -2147483648) (hi := 2147483647) (zs_1210_8 (x := a1) (by omega) (by omega) (by omega)) (by omega) ⟨by decide, by decide⟩ (by simp only [zsp]; omega)
              have hZ113U : zU [] Z Z113 := zU_u hZ106U hZ113 (Or.inl rfl)
              have hZ113K : zC [2] Z Z113 := zC_u hZ106K hZ113 (zcl_2w (by omega) rfl)
              intro μ9 e9
              replace e9 := e9.trans (zm_wI (Z := Z106) (ν := ν) hZ113 (show ((0 : Nat) : Int) = 0 from rfl) (show ((0 : Nat) : Int) = 0 from rfl) (i3I (y := (1218 + 12 * a1)) (i3A (i3A (show (1210 : Int32) = i3 1210 from rfl) (i3M (show (12 : Int32) = i3 12 from rfl) (rfl : i3 a1 = i3 a1))) (show (8 : Int32) = i3 8 from rfl)) (by omega) (by omega) (by omega)) (i3W (i3A (zm_rd (Z := Z106) (ν := ν) (k := 2) (show ((0 : Nat) : Int) = 0 from rfl) (show ((0 : Nat) : Int) = 0 from rfl) (i3I (y := (1218 + 12 * a1)) (i3A (i3A (show (1210 : Int32) = i3 1210 from rfl) (i3M (show (12 : Int32) = i3 12 from rfl) (rfl : i3 a1 = i3 a1))) (show (8 : Int32) = i3 8 from rfl)) (by omega) (by omega) (by omega))) (show (1 : Int32) = i3 1 from rfl))))
              subst e9
              refine wz_i0 (i3O (n := 4400) (i3A (i3A (show (1210 : Int32) = i3 1210 from rfl) (i3M (show (12 : Int32) = i3 12 from rfl) (rfl : i3 a1 = i3 a1))) (show (6 : Int32) = i3 6 from rfl)) (by omega) (by omega) (by omega)) ?_
              obtain ⟨Z114, hZ114⟩ := zx (zu Z113 2 0 0 (1216 + 12 * a1) 0)
              replace hP := zl_e hP hZ114
              have hZ114I := zM_z2 hZ113I hZ114 (by omega) (by omega) (by omega)
              have hZ114U : zU [] Z Z114 := zU_u hZ113U hZ114 (Or.inl rfl)
              have hZ114K : zC [2] Z Z114 := zC_u hZ113K hZ114 (zcl_2w (by omega) rfl)
              intro μ9 e9
              replace e9 := e9.trans (zm_wI (Z := Z113) (ν := ν) hZ114 (show ((0 : Nat) : Int) = 0 from rfl) (show ((0 : Nat) : Int) = 0 from rfl) (i3I (y := (1216 + 12 * a1)) (i3A (i3A (show (1210 : Int32) = i3 1210 from rfl) (i3M (show (12 : Int32) = i3 12 from rfl) (rfl : i3 a1 = i3 a1))) (show (6 : Int32) = i3 6 from rfl)) (by omega) (by omega) (by omega)) (show (0 : Int32) = i3 0 from rfl))
              subst e9
              exact zlV hP ⟨hZ114I, hZ114K, hZ114U⟩
        · replace hP := zE_n hP h91
          refine wz_i0 (i3O (n := 4400) (i3A (i3A (show (1210 : Int32) = i3 1210 from rfl) (i3M (show (12 : Int32) = i3 12 from rfl) (rfl : i3 a1 = i3 a1))) (show (5 : Int32) = i3 5 from rfl)) (by omega) (by omega) (by omega)) ?_
          obtain ⟨Z115, hZ115⟩ := zx (zu Z 2 0 0 (1215 + 12 * a1) (((Z 2 0 0 (1215 + 12 * a1)) - ((Z 2 0 0 (1212 + 12 * a1)) + (Z 2 0 0 (1216 + 12 * a1)))) - (Z 2 0 0 (1211 + 12 * a1))))
          replace hP := zl_e hP hZ115
          have hZ115I := zM_u2 hZ hZ115 (lo := 0) (hi := 40) (zs_1210_5 (x := a1) (by omega) (by omega) (by omega)) (by omega) ⟨by decide, by decide⟩ (by simp only [zsp]; omega)
          have hZ115U : zU [] Z Z115 := zU_u zU_r hZ115 (Or.inl rfl)
          have hZ115K : zC [2] Z Z115 := zC_u zC_r hZ115 (zcl_2w (by omega) rfl)
          intro μ9 e9
          replace e9 := e9.trans (zm_wI (Z := Z) (ν := ν) hZ115 (show ((0 : Nat) : Int) = 0 from rfl) (show ((0 : Nat) : Int) = 0 from rfl) (i3I (y := (1215 + 12 * a1)) (i3A (i3A (show (1210 : Int32) = i3 1210 from rfl) (i3M (show (12 : Int32) = i3 12 from rfl) (rfl : i3 a1 = i3 a1))) (show (5 : Int32) = i3 5 from rfl)) (by omega) (by omega) (by omega)) (i3S (i3S (zm_rd (Z := Z) (ν := ν) (k := 2) (show ((0 : Nat) : Int) = 0 from rfl) (show ((0 : Nat) : Int) = 0 from rfl) (i3I (y := (1215 + 12 * a1)) (i3A (i3A (show (1210 : Int32) = i3 1210 from rfl) (i3M (show (12 : Int32) = i3 12 from rfl) (rfl : i3 a1 = i3 a1))) (show (5 : Int32) = i3 5 from rfl)) (by omega) (by omega) (by omega))) (i3A (zm_rd (Z := Z) (ν := ν) (k := 2) (show ((0 : Nat) : Int) = 0 from rfl) (show ((0 : Nat) : Int) = 0 from rfl) (i3I (y := (1212 + 12 * a1)) (i3A (i3A (show (1210 : Int32) = i3 1210 from rfl) (i3M (show (12 : Int32) = i3 12 from rfl) (rfl : i3 a1 = i3 a1))) (show (2 : Int32) = i3 2 from rfl)) (by omega) (by omega) (by omega))) (zm_rd (Z := Z) (ν := ν) (k := 2) (show ((0 : Nat) : Int) = 0 from rfl) (show ((0 : Nat) : Int) = 0 from rfl) (i3I (y := (1216 + 12 * a1)) (i3A (i3A (show (1210 : Int32) = i3 1210 from rfl) (i3M (show (12 : Int32) = i3 12 from rfl) (rfl : i3 a1 = i3 a1))) (show (6 : Int32) = i3 6 from rfl)) (by omega) (by omega) (by omega))))) (zm_rd (Z := Z) (ν := ν) (k := 2) (show ((0 : Nat) : Int) = 0 from rfl) (show ((0 : Nat) : Int) = 0 from rfl) (i3I (y := (1211 + 12 * a1)) (i3A (i3A (show (1210 : Int32) = i3 1210 from rfl) (i3M (show (12 : Int32) = i3 12 from rfl) (rfl : i3 a1 = i3 a1))) (show (1 : Int32) = i3 1 from rfl)) (by omega) (by omega) (by omega)))))
          subst e9
          refine wz_i0 (i3O (n := 4400) (i3A (i3A (show (1210 : Int32) = i3 1210 from rfl) (i3M (show (12 : Int32) = i3 12 from rfl) (rfl : i3 a1 = i3 a1))) (show (7 : Int32) = i3 7 from rfl)) (by omega) (by omega) (by omega)) ?_
          refine wz_br (i3E (i3S (i3S (zm_rd (Z := Z) (ν := ν) (k := 2) (show ((0 : Nat) : Int) = 0 from rfl) (show ((0 : Nat) : Int) = 0 from rfl) (i3I (y := (1215 + 12 * a1)) (i3A (i3A (show (1210 : Int32) = i3 1210 from rfl) (i3M (show (12 : Int32) = i3 12 from rfl) (rfl : i3 a1 = i3 a1))) (show (5 : Int32) = i3 5 from rfl)) (by omega) (by omega) (by omega))) (i3A (zm_rd (Z := Z) (ν := ν) (k := 2) (show ((0 : Nat) : Int) = 0 from rfl) (show ((0 : Nat) : Int) = 0 from rfl) (i3I (y := (1212 + 12 * a1)) (i3A (i3A (show (1210 : Int32) = i3 1210 from rfl) (i3M (show (12 : Int32) = i3 12 from rfl) (rfl : i3 a1 = i3 a1))) (show (2 : Int32) = i3 2 from rfl)) (by omega) (by omega) (by omega))) (zm_rd (Z := Z) (ν := ν) (k := 2) (show ((0 : Nat) : Int) = 0 from rfl) (show ((0 : Nat) : Int) = 0 from rfl) (i3I (y := (1216 + 12 * a1)) (i3A (i3A (show (1210 : Int32) = i3 1210 from rfl) (i3M (show (12 : Int32) = i3 12 from rfl) (rfl : i3 a1 = i3 a1))) (show (6 : Int32) = i3 6 from rfl)) (by omega) (by omega) (by omega))))) (zm_rd (Z := Z) (ν := ν) (k := 2) (show ((0 : Nat) : Int) = 0 from rfl) (show ((0 : Nat) : Int) = 0 from rfl) (i3I (y := (1211 + 12 * a1)) (i3A (i3A (show (1210 : Int32) = i3 1210 from rfl) (i3M (show (12 : Int32) = i3 12 from rfl) (rfl : i3 a1 = i3 a1))) (show (1 : Int32) = i3 1 from rfl)) (by omega) (by omega) (by omega)))) (i3S (zm_rd (Z := Z) (ν := ν) (k := 2) (show ((0 : Nat) : Int) = 0 from rfl) (show ((0 : Nat) : Int) = 0 from rfl) (i3I (y := (1215 + 12 * a1)) (i3A (i3A (show (1210 : Int32) = i3 1210 from rfl) (i3M (show (12 : Int32) = i3 12 from rfl) (rfl : i3 a1 = i3 a1))) (show (5 : Int32) = i3 5 from rfl)) (by omega) (by omega) (by omega))) (i3A (zm_rd (Z := Z) (ν := ν) (k := 2) (show ((0 : Nat) : Int) = 0 from rfl) (show ((0 : Nat) : Int) = 0 from rfl) (i3I (y := (1212 + 12 * a1)) (i3A (i3A (show (1210 : Int32) = i3 1210 from rfl) (i3M (show (12 : Int32) = i3 12 from rfl) (rfl : i3 a1 = i3 a1))) (show (2 : Int32) = i3 2 from rfl)) (by omega) (by omega) (by omega))) (zm_rd (Z := Z) (ν := ν) (k := 2) (show ((0 : Nat) : Int) = 0 from rfl) (show ((0 : Nat) : Int) = 0 from rfl) (i3I (y := (1216 + 12 * a1)) (i3A (i3A (show (1210 : Int32) = i3 1210 from rfl) (i3M (show (12 : Int32) = i3 12 from rfl) (rfl : i3 a1 = i3 a1))) (show (6 : Int32) = i3 6 from rfl)) (by omega) (by omega) (by omega))))) (by omega) (by omega) (by omega) (by omega)) (fun h116 => ?_) (fun h116 => ?_)
          · replace hP := zE_p hP h116
            refine wz_i0 (i3O (n := 4400) (i3A (i3A (show (1210 : Int32) = i3 1210 from rfl) (i3M (show (12 : Int32) = i3 12 from rfl) (rfl : i3 a1 = i3 a1))) (show (7 : Int32) = i3 7 from rfl)) (by omega) (by omega) (by omega)) ?_
            have r117 := zM_f hZ115I 2 0 0 (1217 + 12 * a1)
            obtain ⟨Z118, hZ118⟩ := zx (zu Z115 2 0 0 (1217 + 12 * a1) ((Z115 2 0 0 (1217 + 12 * a1)) + 0))
            replace hP := zl_e hP hZ118
            have hZ118I := zM_u2 hZ115I hZ118 (lo := -2147483648) (hi := 2147483647) (zs_1210_7 (x := a1) (by omega) (by omega) (by omega)) (by omega) ⟨by decide, by decide⟩ (by simp only [zsp]; omega)
            have hZ118U : zU [] Z Z118 := zU_u hZ115U hZ118 (Or.inl rfl)
            have hZ118K : zC [2] Z Z118 := zC_u hZ115K hZ118 (zcl_2w (by omega) rfl)
            intro μ9 e9
            replace e9 := e9.trans (zm_wI (Z := Z115) (ν := ν) hZ118 (show ((0 : Nat) : Int) = 0 from rfl) (show ((0 : Nat) : Int) = 0 from rfl) (i3I (y := (1217 + 12 * a1)) (i3A (i3A (show (1210 : Int32) = i3 1210 from rfl) (i3M (show (12 : Int32) = i3 12 from rfl) (rfl : i3 a1 = i3 a1))) (show (7 : Int32) = i3 7 from rfl)) (by omega) (by omega) (by omega)) (i3A (zm_rd (Z := Z115) (ν := ν) (k := 2) (show ((0 : Nat) : Int) = 0 from rfl) (show ((0 : Nat) : Int) = 0 from rfl) (i3I (y := (1217 + 12 * a1)) (i3A (i3A (show (1210 : Int32) = i3 1210 from rfl) (i3M (show (12 : Int32) = i3 12 from rfl) (rfl : i3 a1 = i3 a1))) (show (7 : Int32) = i3 7 from rfl)) (by omega) (by omega) (by omega))) (show (0 : Int32) = i3 0 from rfl)))
            subst e9
            refine wz_i0 (i3O (n := 4400) (i3A (i3A (show (1210 : Int32) = i3 1210 from rfl) (i3M (show (12 : Int32) = i3 12 from rfl) (rfl : i3 a1 = i3 a1))) (show (8 : Int32) = i3 8 from rfl)) (by omega) (by omega) (by omega)) ?_
            refine wz_i1 (Eq.trans (i3E (i3S (i3S (zm_rd (Z := Z) (ν := ν) (k := 2) (show ((0 : Nat) : Int) = 0 from rfl) (show ((0 : Nat) : Int) = 0 from rfl) (i3I (y := (1215 + 12 * a1)) (i3A (i3A (show (1210 : Int32) = i3 1210 from rfl) (i3M (show (12 : Int32) = i3 12 from rfl) (rfl : i3 a1 = i3 a1))) (show (5 : Int32) = i3 5 from rfl)) (by omega) (by omega) (by omega))) (i3A (zm_rd (Z := Z) (ν := ν) (k := 2) (show ((0 : Nat) : Int) = 0 from rfl) (show ((0 : Nat) : Int) = 0 from rfl) (i3I (y := (1212 + 12 * a1)) (i3A (i3A (show (1210 : Int32) = i3 1210 from rfl) (i3M (show (12 : Int32) = i3 12 from rfl) (rfl : i3 a1 = i3 a1))) (show (2 : Int32) = i3 2 from rfl)) (by omega) (by omega) (by omega))) (zm_rd (Z := Z) (ν := ν) (k := 2) (show ((0 : Nat) : Int) = 0 from rfl) (show ((0 : Nat) : Int) = 0 from rfl) (i3I (y := (1216 + 12 * a1)) (i3A (i3A (show (1210 : Int32) = i3 1210 from rfl) (i3M (show (12 : Int32) = i3 12 from rfl) (rfl : i3 a1 = i3 a1))) (show (6 : Int32) = i3 6 from rfl)) (by omega) (by omega) (by omega))))) (zm_rd (Z := Z) (ν := ν) (k := 2) (show ((0 : Nat) : Int) = 0 from rfl) (show ((0 : Nat) : Int) = 0 from rfl) (i3I (y := (1211 + 12 * a1)) (i3A (i3A (show (1210 : Int32) = i3 1210 from rfl) (i3M (show (12 : Int32) = i3 12 from rfl) (rfl : i3 a1 = i3 a1))) (show (1 : Int32) = i3 1 from rfl)) (by omega) (by omega) (by omega)))) (i3S (zm_rd (Z := Z) (ν := ν) (k := 2) (show ((0 : Nat) : Int) = 0 from rfl) (show ((0 : Nat) : Int) = 0 from rfl) (i3I (y := (1215 + 12 * a1)) (i3A (i3A (show (1210 : Int32) = i3 1210 from rfl) (i3M (show (12 : Int32) = i3 12 from rfl) (rfl : i3 a1 = i3 a1))) (show (5 : Int32) = i3 5 from rfl)) (by omega) (by omega) (by omega))) (i3A (zm_rd (Z := Z) (ν := ν) (k := 2) (show ((0 : Nat) : Int) = 0 from rfl) (show ((0 : Nat) : Int) = 0 from rfl) (i3I (y := (1212 + 12 * a1)) (i3A (i3A (show (1210 : Int32) = i3 1210 from rfl) (i3M (show (12 : Int32) = i3 12 from rfl) (rfl : i3 a1 = i3 a1))) (show (2 : Int32) = i3 2 from rfl)) (by omega) (by omega) (by omega))) (zm_rd (Z := Z) (ν := ν) (k := 2) (show ((0 : Nat) : Int) = 0 from rfl) (show ((0 : Nat) : Int) = 0 from rfl) (i3I (y := (1216 + 12 * a1)) (i3A (i3A (show (1210 : Int32) = i3 1210 from rfl) (i3M (show (12 : Int32) = i3 12 from rfl) (rfl : i3 a1 = i3 a1))) (show (6 : Int32) = i3 6 from rfl)) (by omega) (by omega) (by omega))))) (by omega) (by omega) (by omega) (by omega)) (decide_eq_true (by omega))) ?_
            refine wz_i0 (i3O (n := 4400) (i3A (i3A (show (1210 : Int32) = i3 1210 from rfl) (i3M (show (12 : Int32) = i3 12 from rfl) (rfl : i3 a1 = i3 a1))) (show (8 : Int32) = i3 8 from rfl)) (by omega) (by omega) (by omega)) ?_
            have r119 := zM_f hZ118I 2 0 0 (1218 + 12 * a1)
            obtain ⟨Z120, hZ120⟩ := zx (zu Z118 2 0 0 (1218 + 12 * a1) ((Z118 2 0 0 (1218 + 12 * a1)) + 0))
            replace hP := zl_e hP hZ120
            have hZ120I := zM_u2 hZ118I hZ120 (lo := -2147483648) (hi := 2147483647) (zs_1210_8 (x := a1) (by omega) (by omega) (by omega)) (by omega) ⟨by decide, by decide⟩ (by simp only [zsp]; omega)
            have hZ120U : zU [] Z Z120 := zU_u hZ118U hZ120 (Or.inl rfl)
            have hZ120K : zC [2] Z Z120 := zC_u hZ118K hZ120 (zcl_2w (by omega) rfl)
            intro μ9 e9
            replace e9 := e9.trans (zm_wI (Z := Z118) (ν := ν) hZ120 (show ((0 : Nat) : Int) = 0 from rfl) (show ((0 : Nat) : Int) = 0 from rfl) (i3I (y := (1218 + 12 * a1)) (i3A (i3A (show (1210 : Int32) = i3 1210 from rfl) (i3M (show (12 : Int32) = i3 12 from rfl) (rfl : i3 a1 = i3 a1))) (show (8 : Int32) = i3 8 from rfl)) (by omega) (by omega) (by omega)) (i3A (zm_rd (Z := Z118) (ν := ν) (k := 2) (show ((0 : Nat) : Int) = 0 from rfl) (show ((0 : Nat) : Int) = 0 from rfl) (i3I (y := (1218 + 12 * a1)) (i3A (i3A (show (1210 : Int32) = i3 1210 from rfl) (i3M (show (12 : Int32) = i3 12 from rfl) (rfl : i3 a1 = i3 a1))) (show (8 : Int32) = i3 8 from rfl)) (by omega) (by omega) (by omega))) (show (0 : Int32) = i3 0 from rfl)))
            subst e9
            refine wz_i0 (i3O (n := 4400) (i3A (i3A (show (1210 : Int32) = i3 1210 from rfl) (i3M (show (12 : Int32) = i3 12 from rfl) (rfl : i3 a1 = i3 a1))) (show (6 : Int32) = i3 6 from rfl)) (by omega) (by omega) (by omega)) ?_
            obtain ⟨Z121, hZ121⟩ := zx (zu Z120 2 0 0 (1216 + 12 * a1) 0)
            replace hP := zl_e hP hZ121
            have hZ121I := zM_z2 hZ120I hZ121 (by omega) (by omega) (by omega)
            have hZ121U : zU [] Z Z121 := zU_u hZ120U hZ121 (Or.inl rfl)
            have hZ121K : zC [2] Z Z121 := zC_u hZ120K hZ121 (zcl_2w (by omega) rfl)
            intro μ9 e9
            replace e9 := e9.trans (zm_wI (Z := Z120) (ν := ν) hZ121 (show ((0 : Nat) : Int) = 0 from rfl) (show ((0 : Nat) : Int) = 0 from rfl) (i3I (y := (1216 + 12 * a1)) (i3A (i3A (show (1210 : Int32) = i3 1210 from rfl) (i3M (show (12 : Int32) = i3 12 from rfl) (rfl : i3 a1 = i3 a1))) (show (6 : Int32) = i3 6 from rfl)) (by omega) (by omega) (by omega)) (show (0 : Int32) = i3 0 from rfl))
            subst e9
            exact zlV hP ⟨hZ121I, hZ121K, hZ121U⟩
          · replace hP := zE_n hP h116
            refine wz_i0 (i3O (n := 4400) (i3A (i3A (show (1210 : Int32) = i3 1210 from rfl) (i3M (show (12 : Int32) = i3 12 from rfl) (rfl : i3 a1 = i3 a1))) (show (7 : Int32) = i3 7 from rfl)) (by omega) (by omega) (by omega)) ?_
            have r122 := zM_f hZ115I 2 0 0 (1217 + 12 * a1)
            have r123 := w3_r ((Z115 2 0 0 (1217 + 12 * a1)) + 1)
            obtain ⟨Z124, hZ124⟩ := zx (zu Z115 2 0 0 (1217 + 12 * a1) (w3 ((Z115 2 0 0 (1217 + 12 * a1)) + 1)))
            replace hP := zl_e hP hZ124
            have hZ124I := zM_u2 hZ115I hZ124 (lo := -2147483648) (hi := 2147483647) (zs_1210_7 (x := a1) (by omega) (by omega) (by omega)) (by omega) ⟨by decide, by decide⟩ (by simp only [zsp]; omega)
            have hZ124U : zU [] Z Z124 := zU_u hZ115U hZ124 (Or.inl rfl)
            have hZ124K : zC [2] Z Z124 := zC_u hZ115K hZ124 (zcl_2w (by omega) rfl)
            intro μ9 e9
            replace e9 := e9.trans (zm_wI (Z := Z115) (ν := ν) hZ124 (show ((0 : Nat) : Int) = 0 from rfl) (show ((0 : Nat) : Int) = 0 from rfl) (i3I (y := (1217 + 12 * a1)) (i3A (i3A (show (1210 : Int32) = i3 1210 from rfl) (i3M (show (12 : Int32) = i3 12 from rfl) (rfl : i3 a1 = i3 a1))) (show (7 : Int32) = i3 7 from rfl)) (by omega) (by omega) (by omega)) (i3W (i3A (zm_rd (Z := Z115) (ν := ν) (k := 2) (show ((0 : Nat) : Int) = 0 from rfl) (show ((0 : Nat) : Int) = 0 from rfl) (i3I (y := (1217 + 12 * a1)) (i3A (i3A (show (1210 : Int32) = i3 1210 from rfl) (i3M (show (12 : Int32) = i3 12 from rfl) (rfl : i3 a1 = i3 a1))) (show (7 : Int32) = i3 7 from rfl)) (by omega) (by omega) (by omega))) (show (1 : Int32) = i3 1 from rfl))))
            subst e9
            refine wz_i0 (i3O (n := 4400) (i3A (i3A (show (1210 : Int32) = i3 1210 from rfl) (i3M (show (12 : Int32) = i3 12 from rfl) (rfl : i3 a1 = i3 a1))) (show (8 : Int32) = i3 8 from rfl)) (by omega) (by omega) (by omega)) ?_
            refine wz_i0 (Eq.trans (i3E (i3S (i3S (zm_rd (Z := Z) (ν := ν) (k := 2) (show ((0 : Nat) : Int) = 0 from rfl) (show ((0 : Nat) : Int) = 0 from rfl) (i3I (y := (1215 + 12 * a1)) (i3A (i3A (show (1210 : Int32) = i3 1210 from rfl) (i3M (show (12 : Int32) = i3 12 from rfl) (rfl : i3 a1 = i3 a1))) (show (5 : Int32) = i3 5 from rfl)) (by omega) (by omega) (by omega))) (i3A (zm_rd (Z := Z) (ν := ν) (k := 2) (show ((0 : Nat) : Int) = 0 from rfl) (show ((0 : Nat) : Int) = 0 from rfl) (i3I (y := (1212 + 12 * a1)) (i3A (i3A (show (1210 : Int32) = i3 1210 from rfl) (i3M (show (12 : Int32) = i3 12 from rfl) (rfl : i3 a1 = i3 a1))) (show (2 : Int32) = i3 2 from rfl)) (by omega) (by omega) (by omega))) (zm_rd (Z := Z) (ν := ν) (k := 2) (show ((0 : Nat) : Int) = 0 from rfl) (show ((0 : Nat) : Int) = 0 from rfl) (i3I (y := (1216 + 12 * a1)) (i3A (i3A (show (1210 : Int32) = i3 1210 from rfl) (i3M (show (12 : Int32) = i3 12 from rfl) (rfl : i3 a1 = i3 a1))) (show (6 : Int32) = i3 6 from rfl)) (by omega) (by omega) (by omega))))) (zm_rd (Z := Z) (ν := ν) (k := 2) (show ((0 : Nat) : Int) = 0 from rfl) (show ((0 : Nat) : Int) = 0 from rfl) (i3I (y := (1211 + 12 * a1)) (i3A (i3A (show (1210 : Int32) = i3 1210 from rfl) (i3M (show (12 : Int32) = i3 12 from rfl) (rfl : i3 a1 = i3 a1))) (show (1 : Int32) = i3 1 from rfl)) (by omega) (by omega) (by omega)))) (i3S (zm_rd (Z := Z) (ν := ν) (k := 2) (show ((0 : Nat) : Int) = 0 from rfl) (show ((0 : Nat) : Int) = 0 from rfl) (i3I (y := (1215 + 12 * a1)) (i3A (i3A (show (1210 : Int32) = i3 1210 from rfl) (i3M (show (12 : Int32) = i3 12 from rfl) (rfl : i3 a1 = i3 a1))) (show (5 : Int32) = i3 5 from rfl)) (by omega) (by omega) (by omega))) (i3A (zm_rd (Z := Z) (ν := ν) (k := 2) (show ((0 : Nat) : Int) = 0 from rfl) (show ((0 : Nat) : Int) = 0 from rfl) (i3I (y := (1212 + 12 * a1)) (i3A (i3A (show (1210 : Int32) = i3 1210 from rfl) (i3M (show (12 : Int32) = i3 12 from rfl) (rfl : i3 a1 = i3 a1))) (show (2 : Int32) = i3 2 from rfl)) (by omega) (by omega) (by omega))) (zm_rd (Z := Z) (ν := ν) (k := 2) (show ((0 : Nat) : Int) = 0 from rfl) (show ((0 : Nat) : Int) = 0 from rfl) (i3I (y := (1216 + 12 * a1)) (i3A (i3A (show (1210 : Int32) = i3 1210 from rfl) (i3M (show (12 : Int32) = i3 12 from rfl) (rfl : i3 a1 = i3 a1))) (show (6 : Int32) = i3 6 from rfl)) (by omega) (by omega) (by omega))))) (by omega) (by omega) (by omega) (by omega)) (decide_eq_false (by omega))) ?_
            refine wz_i0 (i3O (n := 4400) (i3A (i3A (show (1210 : Int32) = i3 1210 from rfl) (i3M (show (12 : Int32) = i3 12 from rfl) (rfl : i3 a1 = i3 a1))) (show (8 : Int32) = i3 8 from rfl)) (by omega) (by omega) (by omega)) ?_
            have r125 := zM_f hZ124I 2 0 0 (1218 + 12 * a1)
            have r126 := w3_r ((Z124 2 0 0 (1218 + 12 * a1)) + 1)
            obtain ⟨Z127, hZ127⟩ := zx (zu Z124 2 0 0 (1218 + 12 * a1) (w3 ((Z124 2 0 0 (1218 + 12 * a1)) + 1)))
            replace hP := zl_e hP hZ127
            have hZ127I := zM_u2 hZ124I hZ127 (lo := -2147483648) (hi := 2147483647) (zs_1210_8 (x := a1) (by omega) (by omega) (by omega)) (by omega) ⟨by decide, by decide⟩ (by simp only [zsp]; omega)
            have hZ127U : zU [] Z Z127 := zU_u hZ124U hZ127 (Or.inl rfl)
            have hZ127K : zC [2] Z Z127 := zC_u hZ124K hZ127 (zcl_2w (by omega) rfl)
            intro μ9 e9
            replace e9 := e9.trans (zm_wI (Z := Z124) (ν := ν) hZ127 (show ((0 : Nat) : Int) = 0 from rfl) (show ((0 : Nat) : Int) = 0 from rfl) (i3I (y := (1218 + 12 * a1)) (i3A (i3A (show (1210 : Int32) = i3 1210 from rfl) (i3M (show (12 : Int32) = i3 12 from rfl) (rfl : i3 a1 = i3 a1))) (show (8 : Int32) = i3 8 from rfl)) (by omega) (by omega) (by omega)) (i3W (i3A (zm_rd (Z := Z124) (ν := ν) (k := 2) (show ((0 : Nat) : Int) = 0 from rfl) (show ((0 : Nat) : Int) = 0 from rfl) (i3I (y := (1218 + 12 * a1)) (i3A (i3A (show (1210 : Int32) = i3 1210 from rfl) (i3M (show (12 : Int32) = i3 12 from rfl) (rfl : i3 a1 = i3 a1))) (show (8 : Int32) = i3 8 from rfl)) (by omega) (by omega) (by omega))) (show (1 : Int32) = i3 1 from rfl))))
            subst e9
            refine wz_i0 (i3O (n := 4400) (i3A (i3A (show (1210 : Int32) = i3 1210 from rfl) (i3M (show (12 : Int32) = i3 12 from rfl) (rfl : i3 a1 = i3 a1))) (show (6 : Int32) = i3 6 from rfl)) (by omega) (by omega) (by omega)) ?_
            obtain ⟨Z128, hZ128⟩ := zx (zu Z127 2 0 0 (1216 + 12 * a1) 0)
            replace hP := zl_e hP hZ128
            have hZ128I := zM_z2 hZ127I hZ128 (by omega) (by omega) (by omega)
            have hZ128U : zU [] Z Z128 := zU_u hZ127U hZ128 (Or.inl rfl)
            have hZ128K : zC [2] Z Z128 := zC_u hZ127K hZ128 (zcl_2w (by omega) rfl)
            intro μ9 e9
            replace e9 := e9.trans (zm_wI (Z := Z127) (ν := ν) hZ128 (show ((0 : Nat) : Int) = 0 from rfl) (show ((0 : Nat) : Int) = 0 from rfl) (i3I (y := (1216 + 12 * a1)) (i3A (i3A (show (1210 : Int32) = i3 1210 from rfl) (i3M (show (12 : Int32) = i3 12 from rfl) (rfl : i3 a1 = i3 a1))) (show (6 : Int32) = i3 6 from rfl)) (by omega) (by omega) (by omega)) (show (0 : Int32) = i3 0 from rfl))
            subst e9
            exact zlV hP ⟨hZ128I, hZ128K, hZ128U⟩
      · replace hP := zE_n hP h89
        have r129 := zM_k hZ 2 0 0 (1211 + 12 * a1) (lo := 0) (hi := 9) (by decide) (zs_1210_1 (x := a1) (by omega) (by omega) (by omega))
        refine wz_br (i3Le (zm_rd (Z := Z) (ν := ν) (k := 2) (show ((0 : Nat) : Int) = 0 from rfl) (show ((0 : Nat) : Int) = 0 from rfl) (i3I (y := (1213 + 12 * a1)) (i3A (i3A (show (1210 : Int32) = i3 1210 from rfl) (i3M (show (12 : Int32) = i3 12 from rfl) (rfl : i3 a1 = i3 a1))) (show (3 : Int32) = i3 3 from rfl)) (by omega) (by omega) (by omega))) (i3A (i3S (zm_rd (Z := Z) (ν := ν) (k := 2) (show ((0 : Nat) : Int) = 0 from rfl) (show ((0 : Nat) : Int) = 0 from rfl) (i3I (y := (1215 + 12 * a1)) (i3A (i3A (show (1210 : Int32) = i3 1210 from rfl) (i3M (show (12 : Int32) = i3 12 from rfl) (rfl : i3 a1 = i3 a1))) (show (5 : Int32) = i3 5 from rfl)) (by omega) (by omega) (by omega))) (i3A (zm_rd (Z := Z) (ν := ν) (k := 2) (show ((0 : Nat) : Int) = 0 from rfl) (show ((0 : Nat) : Int) = 0 from rfl) (i3I (y := (1212 + 12 * a1)) (i3A (i3A (show (1210 : Int32) = i3 1210 from rfl) (i3M (show (12 : Int32) = i3 12 from rfl) (rfl : i3 a1 = i3 a1))) (show (2 : Int32) = i3 2 from rfl)) (by omega) (by omega) (by omega))) (zm_rd (Z := Z) (ν := ν) (k := 2) (show ((0 : Nat) : Int) = 0 from rfl) (show ((0 : Nat) : Int) = 0 from rfl) (i3I (y := (1216 + 12 * a1)) (i3A (i3A (show (1210 : Int32) = i3 1210 from rfl) (i3M (show (12 : Int32) = i3 12 from rfl) (rfl : i3 a1 = i3 a1))) (show (6 : Int32) = i3 6 from rfl)) (by omega) (by omega) (by omega))))) (zm_rd (Z := Z) (ν := ν) (k := 2) (show ((0 : Nat) : Int) = 0 from rfl) (show ((0 : Nat) : Int) = 0 from rfl) (i3I (y := (1211 + 12 * a1)) (i3A (i3A (show (1210 : Int32) = i3 1210 from rfl) (i3M (show (12 : Int32) = i3 12 from rfl) (rfl : i3 a1 = i3 a1))) (show (1 : Int32) = i3 1 from rfl)) (by omega) (by omega) (by omega)))) (by omega) (by omega) (by omega) (by omega)) (fun h130 => ?_) (fun h130 => ?_)
        · replace hP := zE_p hP h130
          refine wz_i0 (i3O (n := 4400) (i3A (i3A (show (1210 : Int32) = i3 1210 from rfl) (i3M (show (12 : Int32) = i3 12 from rfl) (rfl : i3 a1 = i3 a1))) (show (5 : Int32) = i3 5 from rfl)) (by omega) (by omega) (by omega)) ?_
          obtain ⟨Z131, hZ131⟩ := zx (zu Z 2 0 0 (1215 + 12 * a1) (Z 2 0 0 (1213 + 12 * a1)))
          replace hP := zl_e hP hZ131
          have hZ131I := zM_u2 hZ hZ131 (lo := 0) (hi := 40) (zs_1210_5 (x := a1) (by omega) (by omega) (by omega)) (by omega) ⟨by decide, by decide⟩ (by simp only [zsp]; omega)
          have hZ131U : zU [] Z Z131 := zU_u zU_r hZ131 (Or.inl rfl)
          have hZ131K : zC [2] Z Z131 := zC_u zC_r hZ131 (zcl_2w (by omega) rfl)
          intro μ9 e9
          replace e9 := e9.trans (zm_wI (Z := Z) (ν := ν) hZ131 (show ((0 : Nat) : Int) = 0 from rfl) (show ((0 : Nat) : Int) = 0 from rfl) (i3I (y := (1215 + 12 * a1)) (i3A (i3A (show (1210 : Int32) = i3 1210 from rfl) (i3M (show (12 : Int32) = i3 12 from rfl) (rfl : i3 a1 = i3 a1))) (show (5 : Int32) = i3 5 from rfl)) (by omega) (by omega) (by omega)) (zm_rd (Z := Z) (ν := ν) (k := 2) (show ((0 : Nat) : Int) = 0 from rfl) (show ((0 : Nat) : Int) = 0 from rfl) (i3I (y := (1213 + 12 * a1)) (i3A (i3A (show (1210 : Int32) = i3 1210 from rfl) (i3M (show (12 : Int32) = i3 12 from rfl) (rfl : i3 a1 = i3 a1))) (show (3 : Int32) = i3 3 from rfl)) (by omega) (by omega) (by omega))))
          subst e9
          refine wz_i0 (i3O (n := 4400) (i3A (i3A (show (1210 : Int32) = i3 1210 from rfl) (i3M (show (12 : Int32) = i3 12 from rfl) (rfl : i3 a1 = i3 a1))) (show (7 : Int32) = i3 7 from rfl)) (by omega) (by omega) (by omega)) ?_
          refine wz_br (i3E (zm_rd (Z := Z) (ν := ν) (k := 2) (show ((0 : Nat) : Int) = 0 from rfl) (show ((0 : Nat) : Int) = 0 from rfl) (i3I (y := (1213 + 12 * a1)) (i3A (i3A (show (1210 : Int32) = i3 1210 from rfl) (i3M (show (12 : Int32) = i3 12 from rfl) (rfl : i3 a1 = i3 a1))) (show (3 : Int32) = i3 3 from rfl)) (by omega) (by omega) (by omega))) (i3S (zm_rd (Z := Z) (ν := ν) (k := 2) (show ((0 : Nat) : Int) = 0 from rfl) (show ((0 : Nat) : Int) = 0 from rfl) (i3I (y := (1215 + 12 * a1)) (i3A (i3A (show (1210 : Int32) = i3 1210 from rfl) (i3M (show (12 : Int32) = i3 12 from rfl) (rfl : i3 a1 = i3 a1))) (show (5 : Int32) = i3 5 from rfl)) (by omega) (by omega) (by omega))) (i3A (zm_rd (Z := Z) (ν := ν) (k := 2) (show ((0 : Nat) : Int) = 0 from rfl) (show ((0 : Nat) : Int) = 0 from rfl) (i3I (y := (1212 + 12 * a1)) (i3A (i3A (show (1210 : Int32) = i3 1210 from rfl) (i3M (show (12 : Int32) = i3 12 from rfl) (rfl : i3 a1 = i3 a1))) (show (2 : Int32) = i3 2 from rfl)) (by omega) (by omega) (by omega))) (zm_rd (Z := Z) (ν := ν) (k := 2) (show ((0 : Nat) : Int) = 0 from rfl) (show ((0 : Nat) : Int) = 0 from rfl) (i3I (y := (1216 + 12 * a1)) (i3A (i3A (show (1210 : Int32) = i3 1210 from rfl) (i3M (show (12 : Int32) = i3 12 from rfl) (rfl : i3 a1 = i3 a1))) (show (6 : Int32) = i3 6 from rfl)) (by omega) (by omega) (by omega))))) (by omega) (by omega) (by omega) (by omega)) (fun h132 => ?_) (fun h132 => ?_)
          · replace hP := zE_p hP h132
            refine wz_i0 (i3O (n := 4400) (i3A (i3A (show (1210 : Int32) = i3 1210 from rfl) (i3M (show (12 : Int32) = i3 12 from rfl) (rfl : i3 a1 = i3 a1))) (show (7 : Int32) = i3 7 from rfl)) (by omega) (by omega) (by omega)) ?_
            have r133 := zM_f hZ131I 2 0 0 (1217 + 12 * a1)
            obtain ⟨Z134, hZ134⟩ := zx (zu Z131 2 0 0 (1217 + 12 * a1) ((Z131 2 0 0 (1217 + 12 * a1)) + 0))
            replace hP := zl_e hP hZ134
            have hZ134I := zM_u2 hZ131I hZ134 (lo := -2147483648) (hi := 2147483647) (zs_1210_7 (x := a1) (by omega) (by omega) (by omega)) (by omega) ⟨by decide, by decide⟩ (by simp only [zsp]; omega)
            have hZ134U : zU [] Z Z134 := zU_u hZ131U hZ134 (Or.inl rfl)
            have hZ134K : zC [2] Z Z134 := zC_u hZ131K hZ134 (zcl_2w (by omega) rfl)
            intro μ9 e9
            replace e9 := e9.trans (zm_wI (Z := Z131) (ν := ν) hZ134 (show ((0 : Nat) : Int) = 0 from rfl) (show ((0 : Nat) : Int) = 0 from rfl) (i3I (y := (1217 + 12 * a1)) (i3A (i3A (show (1210 : Int32) = i3 1210 from rfl) (i3M (show (12 : Int32) = i3 12 from rfl) (rfl : i3 a1 = i3 a1))) (show (7 : Int32) = i3 7 from rfl)) (by omega) (by omega) (by omega)) (i3A (zm_rd (Z := Z131) (ν := ν) (k := 2) (show ((0 : Nat) : Int) = 0 from rfl) (show ((0 : Nat) : Int) = 0 from rfl) (i3I (y := (1217 + 12 * a1)) (i3A (i3A (show (1210 : Int32) = i3 1210 from rfl) (i3M (show (12 : Int32) = i3 12 from rfl) (rfl : i3 a1 = i3 a1))) (show (7 : Int32) = i3 7 from rfl)) (by omega) (by omega) (by omega))) (show (0 : Int32) = i3 0 from rfl)))
            subst e9
            refine wz_i0 (i3O (n := 4400) (i3A (i3A (show (1210 : Int32) = i3 1210 from rfl) (i3M (show (12 : Int32) = i3 12 from rfl) (rfl : i3 a1 = i3 a1))) (show (8 : Int32) = i3 8 from rfl)) (by omega) (by omega) (by omega)) ?_
            refine wz_br (i3E (zm_rd (Z := Z) (ν := ν) (k := 2) (show ((0 : Nat) : Int) = 0 from rfl) (show ((0 : Nat) : Int) = 0 from rfl) (i3I (y := (1213 + 12 * a1)) (i3A (i3A (show (1210 : Int32) = i3 1210 from rfl) (i3M (show (12 : Int32) = i3 12 from rfl) (rfl : i3 a1 = i3 a1))) (show (3 : Int32) = i3 3 from rfl)) (by omega) (by omega) (by omega))) (i3S (zm_rd (Z := Z) (ν := ν) (k := 2) (show ((0 : Nat) : Int) = 0 from rfl) (show ((0 : Nat) : Int) = 0 from rfl) (i3I (y := (1215 + 12 * a1)) (i3A (i3A (show (1210 : Int32) = i3 1210 from rfl) (i3M (show (12 : Int32) = i3 12 from rfl) (rfl : i3 a1 = i3 a1))) (show (5 : Int32) = i3 5 from rfl)) (by omega) (by omega) (by omega))) (i3A (zm_rd (Z := Z) (ν := ν) (k := 2) (show ((0 : Nat) : Int) = 0 from rfl) (show ((0 : Nat) : Int) = 0 from rfl) (i3I (y := (1212 + 12 * a1)) (i3A (i3A (show (1210 : Int32) = i3 1210 from rfl) (i3M (show (12 : Int32) = i3 12 from rfl) (rfl : i3 a1 = i3 a1))) (show (2 : Int32) = i3 2 from rfl)) (by omega) (by omega) (by omega))) (zm_rd (Z := Z) (ν := ν) (k := 2) (show ((0 : Nat) : Int) = 0 from rfl) (show ((0 : Nat) : Int) = 0 from rfl) (i3I (y := (1216 + 12 * a1)) (i3A (i3A (show (1210 : Int32) = i3 1210 from rfl) (i3M (show (12 : Int32) = i3 12 from rfl) (rfl : i3 a1 = i3 a1))) (show (6 : Int32) = i3 6 from rfl)) (by omega) (by omega) (by omega))))) (by omega) (by omega) (by omega) (by omega)) (fun h135 => ?_) (fun h135 => ?_)
            · replace hP := zE_p hP h135
              refine wz_i0 (i3O (n := 4400) (i3A (i3A (show (1210 : Int32) = i3 1210 from rfl) (i3M (show (12 : Int32) = i3 12 from rfl) (rfl : i3 a1 = i3 a1))) (show (8 : Int32) = i3 8 from rfl)) (by omega) (by omega) (by omega)) ?_
              have r136 := zM_f hZ134I 2 0 0 (1218 + 12 * a1)
              obtain ⟨Z137, hZ137⟩ := zx (zu Z134 2 0 0 (1218 + 12 * a1) ((Z134 2 0 0 (1218 + 12 * a1)) + 0))
              replace hP := zl_e hP hZ137
              have hZ137I := zM_u2 hZ134I hZ137 (lo := -2147483648) (hi := 2147483647) (zs_1210_8 (x := a1) (by omega) (by omega) (by omega)) (by omega) ⟨by decide, by decide⟩ (by simp only [zsp]; omega)
              have hZ137U : zU [] Z Z137 := zU_u hZ134U hZ137 (Or.inl rfl)
              have hZ137K : zC [2] Z Z137 := zC_u hZ134K hZ137 (zcl_2w (by omega) rfl)
              intro μ9 e9
              replace e9 := e9.trans (zm_wI (Z := Z134) (ν := ν) hZ137 (show ((0 : Nat) : Int) = 0 from rfl) (show ((0 : Nat) : Int) = 0 from rfl) (i3I (y := (1218 + 12 * a1)) (i3A (i3A (show (1210 : Int32) = i3 1210 from rfl) (i3M (show (12 : Int32) = i3 12 from rfl) (rfl : i3 a1 = i3 a1))) (show (8 : Int32) = i3 8 from rfl)) (by omega) (by omega) (by omega)) (i3A (zm_rd (Z := Z134) (ν := ν) (k := 2) (show ((0 : Nat) : Int) = 0 from rfl) (show ((0 : Nat) : Int) = 0 from rfl) (i3I (y := (1218 + 12 * a1)) (i3A (i3A (show (1210 : Int32) = i3 1210 from rfl) (i3M (show (12 : Int32) = i3 12 from rfl) (rfl : i3 a1 = i3 a1))) (show (8 : Int32) = i3 8 from rfl)) (by omega) (by omega) (by omega))) (show (0 : Int32) = i3 0 from rfl)))
              subst e9
              refine wz_i0 (i3O (n := 4400) (i3A (i3A (show (1210 : Int32) = i3 1210 from rfl) (i3M (show (12 : Int32) = i3 12 from rfl) (rfl : i3 a1 = i3 a1))) (show (6 : Int32) = i3 6 from rfl)) (by omega) (by omega) (by omega)) ?_
              obtain ⟨Z138, hZ138⟩ := zx (zu Z137 2 0 0 (1216 + 12 * a1) 0)
              replace hP := zl_e hP hZ138
              have hZ138I := zM_z2 hZ137I hZ138 (by omega) (by omega) (by omega)
              have hZ138U : zU [] Z Z138 := zU_u hZ137U hZ138 (Or.inl rfl)
              have hZ138K : zC [2] Z Z138 := zC_u hZ137K hZ138 (zcl_2w (by omega) rfl)
              intro μ9 e9
              replace e9 := e9.trans (zm_wI (Z := Z137) (ν := ν) hZ138 (show ((0 : Nat) : Int) = 0 from rfl) (show ((0 : Nat) : Int) = 0 from rfl) (i3I (y := (1216 + 12 * a1)) (i3A (i3A (show (1210 : Int32) = i3 1210 from rfl) (i3M (show (12 : Int32) = i3 12 from rfl) (rfl : i3 a1 = i3 a1))) (show (6 : Int32) = i3 6 from rfl)) (by omega) (by omega) (by omega)) (show (0 : Int32) = i3 0 from rfl))
              subst e9
              exact zlV hP ⟨hZ138I, hZ138K, hZ138U⟩
            · replace hP := zE_n hP h135
              refine wz_i0 (i3O (n := 4400) (i3A (i3A (show (1210 : Int32) = i3 1210 from rfl) (i3M (show (12 : Int32) = i3 12 from rfl) (rfl : i3 a1 = i3 a1))) (show (8 : Int32) = i3 8 from rfl)) (by omega) (by omega) (by omega)) ?_
              have r139 := zM_f hZ134I 2 0 0 (1218 + 12 * a1)
              have r140 := w3_r ((Z134 2 0 0 (1218 + 12 * a1)) + 1)
              obtain ⟨Z141, hZ141⟩ := zx (zu Z134 2 0 0 (1218 + 12 * a1) (w3 ((Z134 2 0 0 (1218 + 12 * a1)) + 1)))
              replace hP := zl_e hP hZ141
              have hZ141I := zM_u2 hZ134I hZ141 (lo := -2147483648) (hi := 2147483647) (zs_1210_8 (x := a1) (by omega) (by omega) (by omega)) (by omega) ⟨by decide, by decide⟩ (by simp only [zsp]; omega)
              have hZ141U : zU [] Z Z141 := zU_u hZ134U hZ141 (Or.inl rfl)
              have hZ141K : zC [2] Z Z141 := zC_u hZ134K hZ141 (zcl_2w (by omega) rfl)
              intro μ9 e9
              replace e9 := e9.trans (zm_wI (Z := Z134) (ν := ν) hZ141 (show ((0 : Nat) : Int) = 0 from rfl) (show ((0 : Nat) : Int) = 0 from rfl) (i3I (y := (1218 + 12 * a1)) (i3A (i3A (show (1210 : Int32) = i3 1210 from rfl) (i3M (show (12 : Int32) = i3 12 from rfl) (rfl : i3 a1 = i3 a1))) (show (8 : Int32) = i3 8 from rfl)) (by omega) (by omega) (by omega)) (i3W (i3A (zm_rd (Z := Z134) (ν := ν) (k := 2) (show ((0 : Nat) : Int) = 0 from rfl) (show ((0 : Nat) : Int) = 0 from rfl) (i3I (y := (1218 + 12 * a1)) (i3A (i3A (show (1210 : Int32) = i3 1210 from rfl) (i3M (show (12 : Int32) = i3 12 from rfl) (rfl : i3 a1 = i3 a1))) (show (8 : Int32) = i3 8 from rfl)) (by omega) (by omega) (by omega))) (show (1 : Int32) = i3 1 from rfl))))
              subst e9
              refine wz_i0 (i3O (n := 4400) (i3A (i3A (show (1210 : Int32) = i3 1210 from rfl) (i3M (show (12 : Int32) = i3 12 from rfl) (rfl : i3 a1 = i3 a1))) (show (6 : Int32) = i3 6 from rfl)) (by omega) (by omega) (by omega)) ?_
              obtain ⟨Z142, hZ142⟩ := zx (zu Z141 2 0 0 (1216 + 12 * a1) 0)
              replace hP := zl_e hP hZ142
              have hZ142I := zM_z2 hZ141I hZ142 (by omega) (by omega) (by omega)
              have hZ142U : zU [] Z Z142 := zU_u hZ141U hZ142 (Or.inl rfl)
              have hZ142K : zC [2] Z Z142 := zC_u hZ141K hZ142 (zcl_2w (by omega) rfl)
              intro μ9 e9
              replace e9 := e9.trans (zm_wI (Z := Z141) (ν := ν) hZ142 (show ((0 : Nat) : Int) = 0 from rfl) (show ((0 : Nat) : Int) = 0 from rfl) (i3I (y := (1216 + 12 * a1)) (i3A (i3A (show (1210 : Int32) = i3 1210 from rfl) (i3M (show (12 : Int32) = i3 12 from rfl) (rfl : i3 a1 = i3 a1))) (show (6 : Int32) = i3 6 from rfl)) (by omega) (by omega) (by omega)) (show (0 : Int32) = i3 0 from rfl))
              subst e9
              exact zlV hP ⟨hZ142I, hZ142K, hZ142U⟩
          · replace hP := zE_n hP h132
            refine wz_i0 (i3O (n := 4400) (i3A (i3A (show (1210 : Int32) = i3 1210 from rfl) (i3M (show (12 : Int32) = i3 12 from rfl) (rfl : i3 a1 = i3 a1))) (show (7 : Int32) = i3 7 from rfl)) (by omega) (by omega) (by omega)) ?_
            have r143 := zM_f hZ131I 2 0 0 (1217 + 12 * a1)
            have r144 := w3_r ((Z131 2 0 0 (1217 + 12 * a1)) + 1)
            obtain ⟨Z145, hZ145⟩ := zx (zu Z131 2 0 0 (1217 + 12 * a1) (w3 ((Z131 2 0 0 (1217 + 12 * a1)) + 1)))
            replace hP := zl_e hP hZ145
            have hZ145I := zM_u2 hZ131I hZ145 (lo := -2147483648) (hi := 2147483647) (zs_1210_7 (x := a1) (by omega) (by omega) (by omega)) (by omega) ⟨by decide, by decide⟩ (by simp only [zsp]; omega)
            have hZ145U : zU [] Z Z145 := zU_u hZ131U hZ145 (Or.inl rfl)
            have hZ145K : zC [2] Z Z145 := zC_u hZ131K hZ145 (zcl_2w (by omega) rfl)
            intro μ9 e9
            replace e9 := e9.trans (zm_wI (Z := Z131) (ν := ν) hZ145 (show ((0 : Nat) : Int) = 0 from rfl) (show ((0 : Nat) : Int) = 0 from rfl) (i3I (y := (1217 + 12 * a1)) (i3A (i3A (show (1210 : Int32) = i3 1210 from rfl) (i3M (show (12 : Int32) = i3 12 from rfl) (rfl : i3 a1 = i3 a1))) (show (7 : Int32) = i3 7 from rfl)) (by omega) (by omega) (by omega)) (i3W (i3A (zm_rd (Z := Z131) (ν := ν) (k := 2) (show ((0 : Nat) : Int) = 0 from rfl) (show ((0 : Nat) : Int) = 0 from rfl) (i3I (y := (1217 + 12 * a1)) (i3A (i3A (show (1210 : Int32) = i3 1210 from rfl) (i3M (show (12 : Int32) = i3 12 from rfl) (rfl : i3 a1 = i3 a1))) (show (7 : Int32) = i3 7 from rfl)) (by omega) (by omega) (by omega))) (show (1 : Int32) = i3 1 from rfl))))
            subst e9
            refine wz_i0 (i3O (n := 4400) (i3A (i3A (show (1210 : Int32) = i3 1210 from rfl) (i3M (show (12 : Int32) = i3 12 from rfl) (rfl : i3 a1 = i3 a1))) (show (8 : Int32) = i3 8 from rfl)) (by omega) (by omega) (by omega)) ?_
            refine wz_br (i3E (zm_rd (Z := Z) (ν := ν) (k := 2) (show ((0 : Nat) : Int) = 0 from rfl) (show ((0 : Nat) : Int) = 0 from rfl) (i3I (y := (1213 + 12 * a1)) (i3A (i3A (show (1210 : Int32) = i3 1210 from rfl) (i3M (show (12 : Int32) = i3 12 from rfl) (rfl : i3 a1 = i3 a1))) (show (3 : Int32) = i3 3 from rfl)) (by omega) (by omega) (by omega))) (i3S (zm_rd (Z := Z) (ν := ν) (k := 2) (show ((0 : Nat) : Int) = 0 from rfl) (show ((0 : Nat) : Int) = 0 from rfl) (i3I (y := (1215 + 12 * a1)) (i3A (i3A (show (1210 : Int32) = i3 1210 from rfl) (i3M (show (12 : Int32) = i3 12 from rfl) (rfl : i3 a1 = i3 a1))) (show (5 : Int32) = i3 5 from rfl)) (by omega) (by omega) (by omega))) (i3A (zm_rd (Z := Z) (ν := ν) (k := 2) (show ((0 : Nat) : Int) = 0 from rfl) (show ((0 : Nat) : Int) = 0 from rfl) (i3I (y := (1212 + 12 * a1)) (i3A (i3A (show (1210 : Int32) = i3 1210 from rfl) (i3M (show (12 : Int32) = i3 12 from rfl) (rfl : i3 a1 = i3 a1))) (show (2 : Int32) = i3 2 from rfl)) (by omega) (by omega) (by omega))) (zm_rd (Z := Z) (ν := ν) (k := 2) (show ((0 : Nat) : Int) = 0 from rfl) (show ((0 : Nat) : Int) = 0 from rfl) (i3I (y := (1216 + 12 * a1)) (i3A (i3A (show (1210 : Int32) = i3 1210 from rfl) (i3M (show (12 : Int32) = i3 12 from rfl) (rfl : i3 a1 = i3 a1))) (show (6 : Int32) = i3 6 from rfl)) (by omega) (by omega) (by omega))))) (by omega) (by omega) (by omega) (by omega)) (fun h146 => ?_) (fun h146 => ?_)
            · replace hP := zE_p hP h146
              refine wz_i0 (i3O (n := 4400) (i3A (i3A (show (1210 : Int32) = i3 1210 from rfl) (i3M (show (12 : Int32) = i3 12 from rfl) (rfl : i3 a1 = i3 a1))) (show (8 : Int32) = i3 8 from rfl)) (by omega) (by omega) (by omega)) ?_
              have r147 := zM_f hZ145I 2 0 0 (1218 + 12 * a1)
              obtain ⟨Z148, hZ148⟩ := zx (zu Z145 2 0 0 (1218 + 12 * a1) ((Z145 2 0 0 (1218 + 12 * a1)) + 0))
              replace hP := zl_e hP hZ148
              have hZ148I := zM_u2 hZ145I hZ148 (lo := -2147483648) (hi := 2147483647) (zs_1210_8 (x := a1) (by omega) (by omega) (by omega)) (by omega) ⟨by decide, by decide⟩ (by simp only [zsp]; omega)
              have hZ148U : zU [] Z Z148 := zU_u hZ145U hZ148 (Or.inl rfl)
              have hZ148K : zC [2] Z Z148 := zC_u hZ145K hZ148 (zcl_2w (by omega) rfl)
              intro μ9 e9
              replace e9 := e9.trans (zm_wI (Z := Z145) (ν := ν) hZ148 (show ((0 : Nat) : Int) = 0 from rfl) (show ((0 : Nat) : Int) = 0 from rfl) (i3I (y := (1218 + 12 * a1)) (i3A (i3A (show (1210 : Int32) = i3 1210 from rfl) (i3M (show (12 : Int32) = i3 12 from rfl) (rfl : i3 a1 = i3 a1))) (show (8 : Int32) = i3 8 from rfl)) (by omega) (by omega) (by omega)) (i3A (zm_rd (Z := Z145) (ν := ν) (k := 2) (show ((0 : Nat) : Int) = 0 from rfl) (show ((0 : Nat) : Int) = 0 from rfl) (i3I (y := (1218 + 12 * a1)) (i3A (i3A (show (1210 : Int32) = i3 1210 from rfl) (i3M (show (12 : Int32) = i3 12 from rfl) (rfl : i3 a1 = i3 a1))) (show (8 : Int32) = i3 8 from rfl)) (by omega) (by omega) (by omega))) (show (0 : Int32) = i3 0 from rfl)))
              subst e9
              refine wz_i0 (i3O (n := 4400) (i3A (i3A (show (1210 : Int32) = i3 1210 from rfl) (i3M (show (12 : Int32) = i3 12 from rfl) (rfl : i3 a1 = i3 a1))) (show (6 : Int32) = i3 6 from rfl)) (by omega) (by omega) (by omega)) ?_
              obtain ⟨Z149, hZ149⟩ := zx (zu Z148 2 0 0 (1216 + 12 * a1) 0)
              replace hP := zl_e hP hZ149
              have hZ149I := zM_z2 hZ148I hZ149 (by omega) (by omega) (by omega)
              have hZ149U : zU [] Z Z149 := zU_u hZ148U hZ149 (Or.inl rfl)
              have hZ149K : zC [2] Z Z149 := zC_u hZ148K hZ149 (zcl_2w (by omega) rfl)
              intro μ9 e9
              replace e9 := e9.trans (zm_wI (Z := Z148) (ν := ν) hZ149 (show ((0 : Nat) : Int) = 0 from rfl) (show ((0 : Nat) : Int) = 0 from rfl) (i3I (y := (1216 + 12 * a1)) (i3A (i3A (show (1210 : Int32) = i3 1210 from rfl) (i3M (show (12 : Int32) = i3 12 from rfl) (rfl : i3 a1 = i3 a1))) (show (6 : Int32) = i3 6 from rfl)) (by omega) (by omega) (by omega)) (show (0 : Int32) = i3 0 from rfl))
              subst e9
              exact zlV hP ⟨hZ149I, hZ149K, hZ149U⟩
            · replace hP := zE_n hP h146
              refine wz_i0 (i3O (n := 4400) (i3A (i3A (show (1210 : Int32) = i3 1210 from rfl) (i3M (show (12 : Int32) = i3 12 from rfl) (rfl : i3 a1 = i3 a1))) (show (8 : Int32) = i3 8 from rfl)) (by omega) (by omega) (by omega)) ?_
              have r150 := zM_f hZ145I 2 0 0 (1218 + 12 * a1)
              have r151 := w3_r ((Z145 2 0 0 (1218 + 12 * a1)) + 1)
              obtain ⟨Z152, hZ152⟩ := zx (zu Z145 2 0 0 (1218 + 12 * a1) (w3 ((Z145 2 0 0 (1218 + 12 * a1)) + 1)))
              replace hP := zl_e hP hZ152
              have hZ152I := zM_u2 hZ145I hZ152 (lo := -2147483648) (hi := 2147483647) (zs_1210_8 (x := a1) (by omega) (by omega) (by omega)) (by omega) ⟨by decide, by decide⟩ (by simp only [zsp]; omega)
              have hZ152U : zU [] Z Z152 := zU_u hZ145U hZ152 (Or.inl rfl)
              have hZ152K : zC [2] Z Z152 := zC_u hZ145K hZ152 (zcl_2w (by omega) rfl)
              intro μ9 e9
              replace e9 := e9.trans (zm_wI (Z := Z145) (ν := ν) hZ152 (show ((0 : Nat) : Int) = 0 from rfl) (show ((0 : Nat) : Int) = 0 from rfl) (i3I (y := (1218 + 12 * a1)) (i3A (i3A (show (1210 : Int32) = i3 1210 from rfl) (i3M (show (12 : Int32) = i3 12 from rfl) (rfl : i3 a1 = i3 a1))) (show (8 : Int32) = i3 8 from rfl)) (by omega) (by omega) (by omega)) (i3W (i3A (zm_rd (Z := Z145) (ν := ν) (k := 2) (show ((0 : Nat) : Int) = 0 from rfl) (show ((0 : Nat) : Int) = 0 from rfl) (i3I (y := (1218 + 12 * a1)) (i3A (i3A (show (1210 : Int32) = i3 1210 from rfl) (i3M (show (12 : Int32) = i3 12 from rfl) (rfl : i3 a1 = i3 a1))) (show (8 : Int32) = i3 8 from rfl)) (by omega) (by omega) (by omega))) (show (1 : Int32) = i3 1 from rfl))))
              subst e9
              refine wz_i0 (i3O (n := 4400) (i3A (i3A (show (1210 : Int32) = i3 1210 from rfl) (i3M (show (12 : Int32) = i3 12 from rfl) (rfl : i3 a1 = i3 a1))) (show (6 : Int32) = i3 6 from rfl)) (by omega) (by omega) (by omega)) ?_
              obtain ⟨Z153, hZ153⟩ := zx (zu Z152 2 0 0 (1216 + 12 * a1) 0)
              replace hP := zl_e hP hZ153
              have hZ153I := zM_z2 hZ152I hZ153 (by omega) (by omega) (by omega)
              have hZ153U : zU [] Z Z153 := zU_u hZ152U hZ153 (Or.inl rfl)
              have hZ153K : zC [2] Z Z153 := zC_u hZ152K hZ153 (zcl_2w (by omega) rfl)
              intro μ9 e9
              replace e9 := e9.trans (zm_wI (Z := Z152) (ν := ν) hZ153 (show ((0 : Nat) : Int) = 0 from rfl) (show ((0 : Nat) : Int) = 0 from rfl) (i3I (y := (1216 + 12 * a1)) (i3A (i3A (show (1210 : Int32) = i3 1210 from rfl) (i3M (show (12 : Int32) = i3 12 from rfl) (rfl : i3 a1 = i3 a1))) (show (6 : Int32) = i3 6 from rfl)) (by omega) (by omega) (by omega)) (show (0 : Int32) = i3 0 from rfl))
              subst e9
              exact zlV hP ⟨hZ153I, hZ153K, hZ153U⟩
        · replace hP := zE_n hP h130
          refine wz_i0 (i3O (n := 4400) (i3A (i3A (show (1210 : Int32) = i3 1210 from rfl) (i3M (show (12 : Int32) = i3 12 from rfl) (rfl : i3 a1 = i3 a1))) (show (5 : Int32) = i3 5 from rfl)) (by omega) (by omega) (by omega)) ?_
          obtain ⟨Z154, hZ154⟩ := zx (zu Z 2 0 0 (1215 + 12 * a1) (((Z 2 0 0 (1215 + 12 * a1)) - ((Z 2 0 0 (1212 + 12 * a1)) + (Z 2 0 0 (1216 + 12 * a1)))) + (Z 2 0 0 (1211 + 12 * a1))))
          replace hP := zl_e hP hZ154
          have hZ154I := zM_u2 hZ hZ154 (lo := 0) (hi := 40) (zs_1210_5 (x := a1) (by omega) (by omega) (by omega)) (by omega) ⟨by decide, by decide⟩ (by simp only [zsp]; omega)
          have hZ154U : zU [] Z Z154 := zU_u zU_r hZ154 (Or.inl rfl)
          have hZ154K : zC [2] Z Z154 := zC_u zC_r hZ154 (zcl_2w (by omega) rfl)
          intro μ9 e9
          replace e9 := e9.trans (zm_wI (Z := Z) (ν := ν) hZ154 (show ((0 : Nat) : Int) = 0 from rfl) (show ((0 : Nat) : Int) = 0 from rfl) (i3I (y := (1215 + 12 * a1)) (i3A (i3A (show (1210 : Int32) = i3 1210 from rfl) (i3M (show (12 : Int32) = i3 12 from rfl) (rfl : i3 a1 = i3 a1))) (show (5 : Int32) = i3 5 from rfl)) (by omega) (by omega) (by omega)) (i3A (i3S (zm_rd (Z := Z) (ν := ν) (k := 2) (show ((0 : Nat) : Int) = 0 from rfl) (show ((0 : Nat) : Int) = 0 from rfl) (i3I (y := (1215 + 12 * a1)) (i3A (i3A (show (1210 : Int32) = i3 1210 from rfl) (i3M (show (12 : Int32) = i3 12 from rfl) (rfl : i3 a1 = i3 a1))) (show (5 : Int32) = i3 5 from rfl)) (by omega) (by omega) (by omega))) (i3A (zm_rd (Z := Z) (ν := ν) (k := 2) (show ((0 : Nat) : Int) = 0 from rfl) (show ((0 : Nat) : Int) = 0 from rfl) (i3I (y := (1212 + 12 * a1)) (i3A (i3A (show (1210 : Int32) = i3 1210 from rfl) (i3M (show (12 : Int32) = i3 12 from rfl) (rfl : i3 a1 = i3 a1))) (show (2 : Int32) = i3 2 from rfl)) (by omega) (by omega) (by omega))) (zm_rd (Z := Z) (ν := ν) (k := 2) (show ((0 : Nat) : Int) = 0 from rfl) (show ((0 : Nat) : Int) = 0 from rfl) (i3I (y := (1216 + 12 * a1)) (i3A (i3A (show (1210 : Int32) = i3 1210 from rfl) (i3M (show (12 : Int32) = i3 12 from rfl) (rfl : i3 a1 = i3 a1))) (show (6 : Int32) = i3 6 from rfl)) (by omega) (by omega) (by omega))))) (zm_rd (Z := Z) (ν := ν) (k := 2) (show ((0 : Nat) : Int) = 0 from rfl) (show ((0 : Nat) : Int) = 0 from rfl) (i3I (y := (1211 + 12 * a1)) (i3A (i3A (show (1210 : Int32) = i3 1210 from rfl) (i3M (show (12 : Int32) = i3 12 from rfl) (rfl : i3 a1 = i3 a1))) (show (1 : Int32) = i3 1 from rfl)) (by omega) (by omega) (by omega)))))
          subst e9
          refine wz_i0 (i3O (n := 4400) (i3A (i3A (show (1210 : Int32) = i3 1210 from rfl) (i3M (show (12 : Int32) = i3 12 from rfl) (rfl : i3 a1 = i3 a1))) (show (7 : Int32) = i3 7 from rfl)) (by omega) (by omega) (by omega)) ?_
          refine wz_br (i3E (i3A (i3S (zm_rd (Z := Z) (ν := ν) (k := 2) (show ((0 : Nat) : Int) = 0 from rfl) (show ((0 : Nat) : Int) = 0 from rfl) (i3I (y := (1215 + 12 * a1)) (i3A (i3A (show (1210 : Int32) = i3 1210 from rfl) (i3M (show (12 : Int32) = i3 12 from rfl) (rfl : i3 a1 = i3 a1))) (show (5 : Int32) = i3 5 from rfl)) (by omega) (by omega) (by omega))) (i3A (zm_rd (Z := Z) (ν := ν) (k := 2) (show ((0 : Nat) : Int) = 0 from rfl) (show ((0 : Nat) : Int) = 0 from rfl) (i3I (y := (1212 + 12 * a1)) (i3A (i3A (show (1210 : Int32) = i3 1210 from rfl) (i3M (show (12 : Int32) = i3 12 from rfl) (rfl : i3 a1 = i3 a1))) (show (2 : Int32) = i3 2 from rfl)) (by omega) (by omega) (by omega))) (zm_rd (Z := Z) (ν := ν) (k := 2) (show ((0 : Nat) : Int) = 0 from rfl) (show ((0 : Nat) : Int) = 0 from rfl) (i3I (y := (1216 + 12 * a1)) (i3A (i3A (show (1210 : Int32) = i3 1210 from rfl) (i3M (show (12 : Int32) = i3 12 from rfl) (rfl : i3 a1 = i3 a1))) (show (6 : Int32) = i3 6 from rfl)) (by omega) (by omega) (by omega))))) (zm_rd (Z := Z) (ν := ν) (k := 2) (show ((0 : Nat) : Int) = 0 from rfl) (show ((0 : Nat) : Int) = 0 from rfl) (i3I (y := (1211 + 12 * a1)) (i3A (i3A (show (1210 : Int32) = i3 1210 from rfl) (i3M (show (12 : Int32) = i3 12 from rfl) (rfl : i3 a1 = i3 a1))) (show (1 : Int32) = i3 1 from rfl)) (by omega) (by omega) (by omega)))) (i3S (zm_rd (Z := Z) (ν := ν) (k := 2) (show ((0 : Nat) : Int) = 0 from rfl) (show ((0 : Nat) : Int) = 0 from rfl) (i3I (y := (1215 + 12 * a1)) (i3A (i3A (show (1210 : Int32) = i3 1210 from rfl) (i3M (show (12 : Int32) = i3 12 from rfl) (rfl : i3 a1 = i3 a1))) (show (5 : Int32) = i3 5 from rfl)) (by omega) (by omega) (by omega))) (i3A (zm_rd (Z := Z) (ν := ν) (k := 2) (show ((0 : Nat) : Int) = 0 from rfl) (show ((0 : Nat) : Int) = 0 from rfl) (i3I (y := (1212 + 12 * a1)) (i3A (i3A (show (1210 : Int32) = i3 1210 from rfl) (i3M (show (12 : Int32) = i3 12 from rfl) (rfl : i3 a1 = i3 a1))) (show (2 : Int32) = i3 2 from rfl)) (by omega) (by omega) (by omega))) (zm_rd (Z := Z) (ν := ν) (k := 2) (show ((0 : Nat) : Int) = 0 from rfl) (show ((0 : Nat) : Int) = 0 from rfl) (i3I (y := (1216 + 12 * a1)) (i3A (i3A (show (1210 : Int32) = i3 1210 from rfl) (i3M (show (12 : Int32) = i3 12 from rfl) (rfl : i3 a1 = i3 a1))) (show (6 : Int32) = i3 6 from rfl)) (by omega) (by omega) (by omega))))) (by omega) (by omega) (by omega) (by omega)) (fun h155 => ?_) (fun h155 => ?_)
          · replace hP := zE_p hP h155
            refine wz_i0 (i3O (n := 4400) (i3A (i3A (show (1210 : Int32) = i3 1210 from rfl) (i3M (show (12 : Int32) = i3 12 from rfl) (rfl : i3 a1 = i3 a1))) (show (7 : Int32) = i3 7 from rfl)) (by omega) (by omega) (by omega)) ?_
            have r156 := zM_f hZ154I 2 0 0 (1217 + 12 * a1)
            obtain ⟨Z157, hZ157⟩ := zx (zu Z154 2 0 0 (1217 + 12 * a1) ((Z154 2 0 0 (1217 + 12 * a1)) + 0))
            replace hP := zl_e hP hZ157
            have hZ157I := zM_u2 hZ154I hZ157 (lo := -2147483648) (hi := 2147483647) (zs_1210_7 (x := a1) (by omega) (by omega) (by omega)) (by omega) ⟨by decide, by decide⟩ (by simp only [zsp]; omega)
            have hZ157U : zU [] Z Z157 := zU_u hZ154U hZ157 (Or.inl rfl)
            have hZ157K : zC [2] Z Z157 := zC_u hZ154K hZ157 (zcl_2w (by omega) rfl)
            intro μ9 e9
            replace e9 := e9.trans (zm_wI (Z := Z154) (ν := ν) hZ157 (show ((0 : Nat) : Int) = 0 from rfl) (show ((0 : Nat) : Int) = 0 from rfl) (i3I (y := (1217 + 12 * a1)) (i3A (i3A (show (1210 : Int32) = i3 1210 from rfl) (i3M (show (12 : Int32) = i3 12 from rfl) (rfl : i3 a1 = i3 a1))) (show (7 : Int32) = i3 7 from rfl)) (by omega) (by omega) (by omega)) (i3A (zm_rd (Z := Z154) (ν := ν) (k := 2) (show ((0 : Nat) : Int) = 0 from rfl) (show ((0 : Nat) : Int) = 0 from rfl) (i3I (y := (1217 + 12 * a1)) (i3A (i3A (show (1210 : Int32) = i3 1210 from rfl) (i3M (show (12 : Int32) = i3 12 from rfl) (rfl : i3 a1 = i3 a1))) (show (7 : Int32) = i3 7 from rfl)) (by omega) (by omega) (by omega))) (show (0 : Int32) = i3 0 from rfl)))
            subst e9
            refine wz_i0 (i3O (n := 4400) (i3A (i3A (show (1210 : Int32) = i3 1210 from rfl) (i3M (show (12 : Int32) = i3 12 from rfl) (rfl : i3 a1 = i3 a1))) (show (8 : Int32) = i3 8 from rfl)) (by omega) (by omega) (by omega)) ?_
            refine wz_i1 (Eq.trans (i3E (i3A (i3S (zm_rd (Z := Z) (ν := ν) (k := 2) (show ((0 : Nat) : Int) = 0 from rfl) (show ((0 : Nat) : Int) = 0 from rfl) (i3I (y := (1215 + 12 * a1)) (i3A (i3A (show (1210 : Int32) = i3 1210 from rfl) (i3M (show (12 : Int32) = i3 12 from rfl) (rfl : i3 a1 = i3 a1))) (show (5 : Int32) = i3 5 from rfl)) (by omega) (by omega) (by omega))) (i3A (zm_rd (Z := Z) (ν := ν) (k := 2) (show ((0 : Nat) : Int) = 0 from rfl) (show ((0 : Nat) : Int) = 0 from rfl) (i3I (y := (1212 + 12 * a1)) (i3A (i3A (show (1210 : Int32) = i3 1210 from rfl) (i3M (show (12 : Int32) = i3 12 from rfl) (rfl : i3 a1 = i3 a1))) (show (2 : Int32) = i3 2 from rfl)) (by omega) (by omega) (by omega))) (zm_rd (Z := Z) (ν := ν) (k := 2) (show ((0 : Nat) : Int) = 0 from rfl) (show ((0 : Nat) : Int) = 0 from rfl) (i3I (y := (1216 + 12 * a1)) (i3A (i3A (show (1210 : Int32) = i3 1210 from rfl) (i3M (show (12 : Int32) = i3 12 from rfl) (rfl : i3 a1 = i3 a1))) (show (6 : Int32) = i3 6 from rfl)) (by omega) (by omega) (by omega))))) (zm_rd (Z := Z) (ν := ν) (k := 2) (show ((0 : Nat) : Int) = 0 from rfl) (show ((0 : Nat) : Int) = 0 from rfl) (i3I (y := (1211 + 12 * a1)) (i3A (i3A (show (1210 : Int32) = i3 1210 from rfl) (i3M (show (12 : Int32) = i3 12 from rfl) (rfl : i3 a1 = i3 a1))) (show (1 : Int32) = i3 1 from rfl)) (by omega) (by omega) (by omega)))) (i3S (zm_rd (Z := Z) (ν := ν) (k := 2) (show ((0 : Nat) : Int) = 0 from rfl) (show ((0 : Nat) : Int) = 0 from rfl) (i3I (y := (1215 + 12 * a1)) (i3A (i3A (show (1210 : Int32) = i3 1210 from rfl) (i3M (show (12 : Int32) = i3 12 from rfl) (rfl : i3 a1 = i3 a1))) (show (5 : Int32) = i3 5 from rfl)) (by omega) (by omega) (by omega))) (i3A (zm_rd (Z := Z) (ν := ν) (k := 2) (show ((0 : Nat) : Int) = 0 from rfl) (show ((0 : Nat) : Int) = 0 from rfl) (i3I (y := (1212 + 12 * a1)) (i3A (i3A (show (1210 : Int32) = i3 1210 from rfl) (i3M (show (12 : Int32) = i3 12 from rfl) (rfl : i3 a1 = i3 a1))) (show (2 : Int32) = i3 2 from rfl)) (by omega) (by omega) (by omega))) (zm_rd (Z := Z) (ν := ν) (k := 2) (show ((0 : Nat) : Int) = 0 from rfl) (show ((0 : Nat) : Int) = 0 from rfl) (i3I (y := (1216 + 12 * a1)) (i3A (i3A (show (1210 : Int32) = i3 1210 from rfl) (i3M (show (12 : Int32) = i3 12 from rfl) (rfl : i3 a1 = i3 a1))) (show (6 : Int32) = i3 6 from rfl)) (by omega) (by omega) (by omega))))) (by omega) (by omega) (by omega) (by omega)) (decide_eq_true (by omega))) ?_
            refine wz_i0 (i3O (n := 4400) (i3A (i3A (show (1210 : Int32) = i3 1210 from rfl) (i3M (show (12 : Int32) = i3 12 from rfl) (rfl : i3 a1 = i3 a1))) (show (8 : Int32) = i3 8 from rfl)) (by omega) (by omega) (by omega)) ?_
            have r158 := zM_f hZ157I 2 0 0 (1218 + 12 * a1)
            obtain ⟨Z159, hZ159⟩ := zx (zu Z157 2 0 0 (1218 + 12 * a1) ((Z157 2 0 0 (1218 + 12 * a1)) + 0))
            replace hP := zl_e hP hZ159
            have hZ159I := zM_u2 hZ157I hZ159 (lo := -2147483648) (hi := 2147483647) (zs_1210_8 (x := a1) (by omega) (by omega) (by omega)) (by omega) ⟨by decide, by decide⟩ (by simp only [zsp]; omega)
            have hZ159U : zU [] Z Z159 := zU_u hZ157U hZ159 (Or.inl rfl)
            have hZ159K : zC [2] Z Z159 := zC_u hZ157K hZ159 (zcl_2w (by omega) rfl)
            intro μ9 e9
            replace e9 := e9.trans (zm_wI (Z := Z157) (ν := ν) hZ159 (show ((0 : Nat) : Int) = 0 from rfl) (show ((0 : Nat) : Int) = 0 from rfl) (i3I (y := (1218 + 12 * a1)) (i3A (i3A (show (1210 : Int32) = i3 1210 from rfl) (i3M (show (12 : Int32) = i3 12 from rfl) (rfl : i3 a1 = i3 a1))) (show (8 : Int32) = i3 8 from rfl)) (by omega) (by omega) (by omega)) (i3A (zm_rd (Z := Z157) (ν := ν) (k := 2) (show ((0 : Nat) : Int) = 0 from rfl) (show ((0 : Nat) : Int) = 0 from rfl) (i3I (y := (1218 + 12 * a1)) (i3A (i3A (show (1210 : Int32) = i3 1210 from rfl) (i3M (show (12 : Int32) = i3 12 from rfl) (rfl : i3 a1 = i3 a1))) (show (8 : Int32) = i3 8 from rfl)) (by omega) (by omega) (by omega))) (show (0 : Int32) = i3 0 from rfl)))
            subst e9
            refine wz_i0 (i3O (n := 4400) (i3A (i3A (show (1210 : Int32) = i3 1210 from rfl) (i3M (show (12 : Int32) = i3 12 from rfl) (rfl : i3 a1 = i3 a1))) (show (6 : Int32) = i3 6 from rfl)) (by omega) (by omega) (by omega)) ?_
            obtain ⟨Z160, hZ160⟩ := zx (zu Z159 2 0 0 (1216 + 12 * a1) 0)
            replace hP := zl_e hP hZ160
            have hZ160I := zM_z2 hZ159I hZ160 (by omega) (by omega) (by omega)
            have hZ160U : zU [] Z Z160 := zU_u hZ159U hZ160 (Or.inl rfl)
            have hZ160K : zC [2] Z Z160 := zC_u hZ159K hZ160 (zcl_2w (by omega) rfl)
            intro μ9 e9
            replace e9 := e9.trans (zm_wI (Z := Z159) (ν := ν) hZ160 (show ((0 : Nat) : Int) = 0 from rfl) (show ((0 : Nat) : Int) = 0 from rfl) (i3I (y := (1216 + 12 * a1)) (i3A (i3A (show (1210 : Int32) = i3 1210 from rfl) (i3M (show (12 : Int32) = i3 12 from rfl) (rfl : i3 a1 = i3 a1))) (show (6 : Int32) = i3 6 from rfl)) (by omega) (by omega) (by omega)) (show (0 : Int32) = i3 0 from rfl))
            subst e9
            exact zlV hP ⟨hZ160I, hZ160K, hZ160U⟩
          · replace hP := zE_n hP h155
            refine wz_i0 (i3O (n := 4400) (i3A (i3A (show (1210 : Int32) = i3 1210 from rfl) (i3M (show (12 : Int32) = i3 12 from rfl) (rfl : i3 a1 = i3 a1))) (show (7 : Int32) = i3 7 from rfl)) (by omega) (by omega) (by omega)) ?_
            have r161 := zM_f hZ154I 2 0 0 (1217 + 12 * a1)
            have r162 := w3_r ((Z154 2 0 0 (1217 + 12 * a1)) + 1)
            obtain ⟨Z163, hZ163⟩ := zx (zu Z154 2 0 0 (1217 + 12 * a1) (w3 ((Z154 2 0 0 (1217 + 12 * a1)) + 1)))
            replace hP := zl_e hP hZ163
            have hZ163I := zM_u2 hZ154I hZ163 (lo := -2147483648) (hi := 2147483647) (zs_1210_7 (x := a1) (by omega) (by omega) (by omega)) (by omega) ⟨by decide, by decide⟩ (by simp only [zsp]; omega)
            have hZ163U : zU [] Z Z163 := zU_u hZ154U hZ163 (Or.inl rfl)
            have hZ163K : zC [2] Z Z163 := zC_u hZ154K hZ163 (zcl_2w (by omega) rfl)
            intro μ9 e9
            replace e9 := e9.trans (zm_wI (Z := Z154) (ν := ν) hZ163 (show ((0 : Nat) : Int) = 0 from rfl) (show ((0 : Nat) : Int) = 0 from rfl) (i3I (y := (1217 + 12 * a1)) (i3A (i3A (show (1210 : Int32) = i3 1210 from rfl) (i3M (show (12 : Int32) = i3 12 from rfl) (rfl : i3 a1 = i3 a1))) (show (7 : Int32) = i3 7 from rfl)) (by omega) (by omega) (by omega)) (i3W (i3A (zm_rd (Z := Z154) (ν := ν) (k := 2) (show ((0 : Nat) : Int) = 0 from rfl) (show ((0 : Nat) : Int) = 0 from rfl) (i3I (y := (1217 + 12 * a1)) (i3A (i3A (show (1210 : Int32) = i3 1210 from rfl) (i3M (show (12 : Int32) = i3 12 from rfl) (rfl : i3 a1 = i3 a1))) (show (7 : Int32) = i3 7 from rfl)) (by omega) (by omega) (by omega))) (show (1 : Int32) = i3 1 from rfl))))
            subst e9
            refine wz_i0 (i3O (n := 4400) (i3A (i3A (show (1210 : Int32) = i3 1210 from rfl) (i3M (show (12 : Int32) = i3 12 from rfl) (rfl : i3 a1 = i3 a1))) (show (8 : Int32) = i3 8 from rfl)) (by omega) (by omega) (by omega)) ?_
            refine wz_i0 (Eq.trans (i3E (i3A (i3S (zm_rd (Z := Z) (ν := ν) (k := 2) (show ((0 : Nat) : Int) = 0 from rfl) (show ((0 : Nat) : Int) = 0 from rfl) (i3I (y := (1215 + 12 * a1)) (i3A (i3A (show (1210 : Int32) = i3 1210 from rfl) (i3M (show (12 : Int32) = i3 12 from rfl) (rfl : i3 a1 = i3 a1))) (show (5 : Int32) = i3 5 from rfl)) (by omega) (by omega) (by omega))) (i3A (zm_rd (Z := Z) (ν := ν) (k := 2) (show ((0 : Nat) : Int) = 0 from rfl) (show ((0 : Nat) : Int) = 0 from rfl) (i3I (y := (1212 + 12 * a1)) (i3A (i3A (show (1210 : Int32) = i3 1210 from rfl) (i3M (show (12 : Int32) = i3 12 from rfl) (rfl : i3 a1 = i3 a1))) (show (2 : Int32) = i3 2 from rfl)) (by omega) (by omega) (by omega))) (zm_rd (Z := Z) (ν := ν) (k := 2) (show ((0 : Nat) : Int) = 0 from rfl) (show ((0 : Nat) : Int) = 0 from rfl) (i3I (y := (1216 + 12 * a1)) (i3A (i3A (show (1210 : Int32) = i3 1210 from rfl) (i3M (show (12 : Int32) = i3 12 from rfl) (rfl : i3 a1 = i3 a1))) (show (6 : Int32) = i3 6 from rfl)) (by omega) (by omega) (by omega))))) (zm_rd (Z := Z) (ν := ν) (k := 2) (show ((0 : Nat) : Int) = 0 from rfl) (show ((0 : Nat) : Int) = 0 from rfl) (i3I (y := (1211 + 12 * a1)) (i3A (i3A (show (1210 : Int32) = i3 1210 from rfl) (i3M (show (12 : Int32) = i3 12 from rfl) (rfl : i3 a1 = i3 a1))) (show (1 : Int32) = i3 1 from rfl)) (by omega) (by omega) (by omega)))) (i3S (zm_rd (Z := Z) (ν := ν) (k := 2) (show ((0 : Nat) : Int) = 0 from rfl) (show ((0 : Nat) : Int) = 0 from rfl) (i3I (y := (1215 + 12 * a1)) (i3A (i3A (show (1210 : Int32) = i3 1210 from rfl) (i3M (show (12 : Int32) = i3 12 from rfl) (rfl : i3 a1 = i3 a1))) (show (5 : Int32) = i3 5 from rfl)) (by omega) (by omega) (by omega))) (i3A (zm_rd (Z := Z) (ν := ν) (k := 2) (show ((0 : Nat) : Int) = 0 from rfl) (show ((0 : Nat) : Int) = 0 from rfl) (i3I (y := (1212 + 12 * a1)) (i3A (i3A (show (1210 : Int32) = i3 1210 from rfl) (i3M (show (12 : Int32) = i3 12 from rfl) (rfl : i3 a1 = i3 a1))) (show (2 : Int32) = i3 2 from rfl)) (by omega) (by omega) (by omega))) (zm_rd (Z := Z) (ν := ν) (k := 2) (show ((0 : Nat) : Int) = 0 from rfl) (show ((0 : Nat) : Int) = 0 from rfl) (i3I (y := (1216 + 12 * a1)) (i3A (i3A (show (1210 : Int32) = i3 1210 from rfl) (i3M (show (12 : Int32) = i3 12 from rfl) (rfl : i3 a1 = i3 a1))) (show (6 : Int32) = i3 6 from rfl)) (by omega) (by omega) (by omega))))) (by omega) (by omega) (by omega) (by omega)) (decide_eq_false (by omega))) ?_
            refine wz_i0 (i3O (n := 4400) (i3A (i3A (show (1210 : Int32) = i3 1210 from rfl) (i3M (show (12 : Int32) = i3 12 from rfl) (rfl : i3 a1 = i3 a1))) (show (8 : Int32) = i3 8 from rfl)) (by omega) (by omega) (by omega)) ?_
            have r164 := zM_f hZ163I 2 0 0 (1218 + 12 * a1)
            have r165 := w3_r ((Z163 2 0 0 (1218 + 12 * a1)) + 1)
            obtain ⟨Z166, hZ166⟩ := zx (zu Z163 2 0 0 (1218 + 12 * a1) (w3 ((Z163 2 0 0 (1218 + 12 * a1)) + 1)))
            replace hP := zl_e hP hZ166
            have hZ166I := zM_u2 hZ163I hZ166 (lo := -2147483648) (hi := 2147483647) (zs_1210_8 (x := a1) (by omega) (by omega) (by omega)) (by omega) ⟨by decide, by decide⟩ (by simp only [zsp]; omega)
            have hZ166U : zU [] Z Z166 := zU_u hZ163U hZ166 (Or.inl rfl)
            have hZ166K : zC [2] Z Z166 := zC_u hZ163K hZ166 (zcl_2w (by omega) rfl)
            intro μ9 e9
            replace e9 := e9.trans (zm_wI (Z := Z163) (ν := ν) hZ166 (show ((0 : Nat) : Int) = 0 from rfl) (show ((0 : Nat) : Int) = 0 from rfl) (i3I (y := (1218 + 12 * a1)) (i3A (i3A (show (1210 : Int32) = i3 1210 from rfl) (i3M (show (12 : Int32) = i3 12 from rfl) (rfl : i3 a1 = i3 a1))) (show (8 : Int32) = i3 8 from rfl)) (by omega) (by omega) (by omega)) (i3W (i3A (zm_rd (Z := Z163) (ν := ν) (k := 2) (show ((0 : Nat) : Int) = 0 from rfl) (show ((0 : Nat) : Int) = 0 from rfl) (i3I (y := (1218 + 12 * a1)) (i3A (i3A (show (1210 : Int32) = i3 1210 from rfl) (i3M (show (12 : Int32) = i3 12 from rfl) (rfl : i3 a1 = i3 a1))) (show (8 : Int32) = i3 8 from rfl)) (by omega) (by omega) (by omega))) (show (1 : Int32) = i3 1 from rfl))))
            subst e9
            refine wz_i0 (i3O (n := 4400) (i3A (i3A (show (1210 : Int32) = i3 1210 from rfl) (i3M (show (12 : Int32) = i3 12 from rfl) (rfl : i3 a1 = i3 a1))) (show (6 : Int32) = i3 6 from rfl)) (by omega) (by omega) (by omega)) ?_
            obtain ⟨Z167, hZ167⟩ := zx (zu Z166 2 0 0 (1216 + 12 * a1) 0)
            replace hP := zl_e hP hZ167
            have hZ167I := zM_z2 hZ166I hZ167 (by omega) (by omega) (by omega)
            have hZ167U : zU [] Z Z167 := zU_u hZ166U hZ167 (Or.inl rfl)
            have hZ167K : zC [2] Z Z167 := zC_u hZ166K hZ167 (zcl_2w (by omega) rfl)
            intro μ9 e9
            replace e9 := e9.trans (zm_wI (Z := Z166) (ν := ν) hZ167 (show ((0 : Nat) : Int) = 0 from rfl) (show ((0 : Nat) : Int) = 0 from rfl) (i3I (y := (1216 + 12 * a1)) (i3A (i3A (show (1210 : Int32) = i3 1210 from rfl) (i3M (show (12 : Int32) = i3 12 from rfl) (rfl : i3 a1 = i3 a1))) (show (6 : Int32) = i3 6 from rfl)) (by omega) (by omega) (by omega)) (show (0 : Int32) = i3 0 from rfl))
            subst e9
            exact zlV hP ⟨hZ167I, hZ167K, hZ167U⟩
  · replace hP := zE_n hP h4
    have r168 := zM_k hZ 2 0 0 (1212 + 12 * a1) (lo := 0) (hi := 9) (by decide) (zs_1210_2 (x := a1) (by omega) (by omega) (by omega))
    have r169 := zM_dr hZ a1 (by omega) (zbh (c := 0) (k := 0) hM (Nat.le_of_ble_eq_true rfl))
    refine wz_br (i3Le (zm_rd (Z := Z) (ν := ν) (k := 2) (show ((0 : Nat) : Int) = 0 from rfl) (show ((0 : Nat) : Int) = 0 from rfl) (i3I (y := (1300 + ((Z 2 0 0 0) / 24))) (i3A (show (1300 : Int32) = i3 1300 from rfl) (i3D (zm_rd (Z := Z) (ν := ν) (k := 2) (show ((0 : Nat) : Int) = 0 from rfl) (show ((0 : Nat) : Int) = 0 from rfl) (show ((0 : Nat) : Int) = 0 from rfl)) (show (24 : Int32) = i3 24 from rfl) (by omega) (by omega) (by omega) (by omega))) (by omega) (by omega) (by omega))) (i3A (zm_rd (Z := Z) (ν := ν) (k := 2) (show ((0 : Nat) : Int) = 0 from rfl) (show ((0 : Nat) : Int) = 0 from rfl) (i3I (y := (1215 + 12 * a1)) (i3A (i3A (show (1210 : Int32) = i3 1210 from rfl) (i3M (show (12 : Int32) = i3 12 from rfl) (rfl : i3 a1 = i3 a1))) (show (5 : Int32) = i3 5 from rfl)) (by omega) (by omega) (by omega))) (i3A (zm_rd (Z := Z) (ν := ν) (k := 2) (show ((0 : Nat) : Int) = 0 from rfl) (show ((0 : Nat) : Int) = 0 from rfl) (i3I (y := (1212 + 12 * a1)) (i3A (i3A (show (1210 : Int32) = i3 1210 from rfl) (i3M (show (12 : Int32) = i3 12 from rfl) (rfl : i3 a1 = i3 a1))) (show (2 : Int32) = i3 2 from rfl)) (by omega) (by omega) (by omega))) (zm_rd (Z := Z) (ν := ν) (k := 2) (show ((0 : Nat) : Int) = 0 from rfl) (show ((0 : Nat) : Int) = 0 from rfl) (i3I (y := (1216 + 12 * a1)) (i3A (i3A (show (1210 : Int32) = i3 1210 from rfl) (i3M (show (12 : Int32) = i3 12 from rfl) (rfl : i3 a1 = i3 a1))) (show (6 : Int32) = i3 6 from rfl)) (by omega) (by omega) (by omega))))) (by omega) (by omega) (by omega) (by omega)) (fun h170 => ?_) (fun h170 => ?_)
    · replace hP := zE_p hP h170
      refine wz_i0 (i3O (n := 4400) (i3A (i3A (show (1210 : Int32) = i3 1210 from rfl) (i3M (show (12 : Int32) = i3 12 from rfl) (rfl : i3 a1 = i3 a1))) (show (3 : Int32) = i3 3 from rfl)) (by omega) (by omega) (by omega)) ?_
      refine wz_i0 (i3O (n := 4400) (i3A (i3A (show (1210 : Int32) = i3 1210 from rfl) (i3M (show (12 : Int32) = i3 12 from rfl) (rfl : i3 a1 = i3 a1))) (show (1 : Int32) = i3 1 from rfl)) (by omega) (by omega) (by omega)) ?_
      have r171 := zM_k hZ 2 0 0 (1213 + 12 * a1) (lo := 0) (hi := 40) (by decide) (zs_1210_3 (x := a1) (by omega) (by omega) (by omega))
      refine wz_br (i3Le (zm_rd (Z := Z) (ν := ν) (k := 2) (show ((0 : Nat) : Int) = 0 from rfl) (show ((0 : Nat) : Int) = 0 from rfl) (i3I (y := (1213 + 12 * a1)) (i3A (i3A (show (1210 : Int32) = i3 1210 from rfl) (i3M (show (12 : Int32) = i3 12 from rfl) (rfl : i3 a1 = i3 a1))) (show (3 : Int32) = i3 3 from rfl)) (by omega) (by omega) (by omega))) (zm_rd (Z := Z) (ν := ν) (k := 2) (show ((0 : Nat) : Int) = 0 from rfl) (show ((0 : Nat) : Int) = 0 from rfl) (i3I (y := (1300 + ((Z 2 0 0 0) / 24))) (i3A (show (1300 : Int32) = i3 1300 from rfl) (i3D (zm_rd (Z := Z) (ν := ν) (k := 2) (show ((0 : Nat) : Int) = 0 from rfl) (show ((0 : Nat) : Int) = 0 from rfl) (show ((0 : Nat) : Int) = 0 from rfl)) (show (24 : Int32) = i3 24 from rfl) (by omega) (by omega) (by omega) (by omega))) (by omega) (by omega) (by omega))) (by omega) (by omega) (by omega) (by omega)) (fun h172 => ?_) (fun h172 => ?_)
      · replace hP := zE_p hP h172
        have r173 := zM_k hZ 2 0 0 (1211 + 12 * a1) (lo := 0) (hi := 9) (by decide) (zs_1210_1 (x := a1) (by omega) (by omega) (by omega))
        refine wz_br (i3Le (i3S (zm_rd (Z := Z) (ν := ν) (k := 2) (show ((0 : Nat) : Int) = 0 from rfl) (show ((0 : Nat) : Int) = 0 from rfl) (i3I (y := (1300 + ((Z 2 0 0 0) / 24))) (i3A (show (1300 : Int32) = i3 1300 from rfl) (i3D (zm_rd (Z := Z) (ν := ν) (k := 2) (show ((0 : Nat) : Int) = 0 from rfl) (show ((0 : Nat) : Int) = 0 from rfl) (show ((0 : Nat) : Int) = 0 from rfl)) (show (24 : Int32) = i3 24 from rfl) (by omega) (by omega) (by omega) (by omega))) (by omega) (by omega) (by omega))) (zm_rd (Z := Z) (ν := ν) (k := 2) (show ((0 : Nat) : Int) = 0 from rfl) (show ((0 : Nat) : Int) = 0 from rfl) (i3I (y := (1211 + 12 * a1)) (i3A (i3A (show (1210 : Int32) = i3 1210 from rfl) (i3M (show (12 : Int32) = i3 12 from rfl) (rfl : i3 a1 = i3 a1))) (show (1 : Int32) = i3 1 from rfl)) (by omega) (by omega) (by omega)))) (zm_rd (Z := Z) (ν := ν) (k := 2) (show ((0 : Nat) : Int) = 0 from rfl) (show ((0 : Nat) : Int) = 0 from rfl) (i3I (y := (1213 + 12 * a1)) (i3A (i3A (show (1210 : Int32) = i3 1210 from rfl) (i3M (show (12 : Int32) = i3 12 from rfl) (rfl : i3 a1 = i3 a1))) (show (3 : Int32) = i3 3 from rfl)) (by omega) (by omega) (by omega))) (by omega) (by omega) (by omega) (by omega)) (fun h174 => ?_) (fun h174 => ?_)
        · replace hP := zE_p hP h174
          refine wz_i0 (i3O (n := 4400) (i3A (i3A (show (1210 : Int32) = i3 1210 from rfl) (i3M (show (12 : Int32) = i3 12 from rfl) (rfl : i3 a1 = i3 a1))) (show (5 : Int32) = i3 5 from rfl)) (by omega) (by omega) (by omega)) ?_
          obtain ⟨Z175, hZ175⟩ := zx (zu Z 2 0 0 (1215 + 12 * a1) (Z 2 0 0 (1213 + 12 * a1)))
          replace hP := zl_e hP hZ175
          have hZ175I := zM_u2 hZ hZ175 (lo := 0) (hi := 40) (zs_1210_5 (x := a1) (by omega) (by omega) (by omega)) (by omega) ⟨by decide, by decide⟩ (by simp only [zsp]; omega)
          have hZ175U : zU [] Z Z175 := zU_u zU_r hZ175 (Or.inl rfl)
          have hZ175K : zC [2] Z Z175 := zC_u zC_r hZ175 (zcl_2w (by omega) rfl)
          intro μ9 e9
          replace e9 := e9.trans (zm_wI (Z := Z) (ν := ν) hZ175 (show ((0 : Nat) : Int) = 0 from rfl) (show ((0 : Nat) : Int) = 0 from rfl) (i3I (y := (1215 + 12 * a1)) (i3A (i3A (show (1210 : Int32) = i3 1210 from rfl) (i3M (show (12 : Int32) = i3 12 from rfl) (rfl : i3 a1 = i3 a1))) (show (5 : Int32) = i3 5 from rfl)) (by omega) (by omega) (by omega)) (zm_rd (Z := Z) (ν := ν) (k := 2) (show ((0 : Nat) : Int) = 0 from rfl) (show ((0 : Nat) : Int) = 0 from rfl) (i3I (y := (1213 + 12 * a1)) (i3A (i3A (show (1210 : Int32) = i3 1210 from rfl) (i3M (show (12 : Int32) = i3 12 from rfl) (rfl : i3 a1 = i3 a1))) (show (3 : Int32) = i3 3 from rfl)) (by omega) (by omega) (by omega))))
          subst e9
          refine wz_i0 (i3O (n := 4400) (i3A (i3A (show (1210 : Int32) = i3 1210 from rfl) (i3M (show (12 : Int32) = i3 12 from rfl) (rfl : i3 a1 = i3 a1))) (show (7 : Int32) = i3 7 from rfl)) (by omega) (by omega) (by omega)) ?_
          refine wz_br (i3E (zm_rd (Z := Z) (ν := ν) (k := 2) (show ((0 : Nat) : Int) = 0 from rfl) (show ((0 : Nat) : Int) = 0 from rfl) (i3I (y := (1213 + 12 * a1)) (i3A (i3A (show (1210 : Int32) = i3 1210 from rfl) (i3M (show (12 : Int32) = i3 12 from rfl) (rfl : i3 a1 = i3 a1))) (show (3 : Int32) = i3 3 from rfl)) (by omega) (by omega) (by omega))) (zm_rd (Z := Z) (ν := ν) (k := 2) (show ((0 : Nat) : Int) = 0 from rfl) (show ((0 : Nat) : Int) = 0 from rfl) (i3I (y := (1300 + ((Z 2 0 0 0) / 24))) (i3A (show (1300 : Int32) = i3 1300 from rfl) (i3D (zm_rd (Z := Z) (ν := ν) (k := 2) (show ((0 : Nat) : Int) = 0 from rfl) (show ((0 : Nat) : Int) = 0 from rfl) (show ((0 : Nat) : Int) = 0 from rfl)) (show (24 : Int32) = i3 24 from rfl) (by omega) (by omega) (by omega) (by omega))) (by omega) (by omega) (by omega))) (by omega) (by omega) (by omega) (by omega)) (fun h176 => ?_) (fun h176 => ?_)
          · replace hP := zE_p hP h176
            refine wz_i0 (i3O (n := 4400) (i3A (i3A (show (1210 : Int32) = i3 1210 from rfl) (i3M (show (12 : Int32) = i3 12 from rfl) (rfl : i3 a1 = i3 a1))) (show (7 : Int32) = i3 7 from rfl)) (by omega) (by omega) (by omega)) ?_
            have r177 := zM_f hZ175I 2 0 0 (1217 + 12 * a1)
            obtain ⟨Z178, hZ178⟩ := zx (zu Z175 2 0 0 (1217 + 12 * a1) ((Z175 2 0 0 (1217 + 12 * a1)) + 0))
            replace hP := zl_e hP hZ178
            have hZ178I := zM_u2 hZ175I hZ178 (lo := -2147483648) (hi := 2147483647) (zs_1210_7 (x := a1) (by omega) (by omega) (by omega)) (by omega) ⟨by decide, by decide⟩ (by simp only [zsp]; omega)
            have hZ178U : zU [] Z Z178 := zU_u hZ175U hZ178 (Or.inl rfl)
            have hZ178K : zC [2] Z Z178 := zC_u hZ175K hZ178 (zcl_2w (by omega) rfl)
            intro μ9 e9
            replace e9 := e9.trans (zm_wI (Z := Z175) (ν := ν) hZ178 (show ((0 : Nat) : Int) = 0 from rfl) (show ((0 : Nat) : Int) = 0 from rfl) (i3I (y := (1217 + 12 * a1)) (i3A (i3A (show (1210 : Int32) = i3 1210 from rfl) (i3M (show (12 : Int32) = i3 12 from rfl) (rfl : i3 a1 = i3 a1))) (show (7 : Int32) = i3 7 from rfl)) (by omega) (by omega) (by omega)) (i3A (zm_rd (Z := Z175) (ν := ν) (k := 2) (show ((0 : Nat) : Int) = 0 from rfl) (show ((0 : Nat) : Int) = 0 from rfl) (i3I (y := (1217 + 12 * a1)) (i3A (i3A (show (1210 : Int32) = i3 1210 from rfl) (i3M (show (12 : Int32) = i3 12 from rfl) (rfl : i3 a1 = i3 a1))) (show (7 : Int32) = i3 7 from rfl)) (by omega) (by omega) (by omega))) (show (0 : Int32) = i3 0 from rfl)))
            subst e9
            refine wz_i0 (i3O (n := 4400) (i3A (i3A (show (1210 : Int32) = i3 1210 from rfl) (i3M (show (12 : Int32) = i3 12 from rfl) (rfl : i3 a1 = i3 a1))) (show (8 : Int32) = i3 8 from rfl)) (by omega) (by omega) (by omega)) ?_
            refine wz_br (i3E (zm_rd (Z := Z) (ν := ν) (k := 2) (show ((0 : Nat) : Int) = 0 from rfl) (show ((0 : Nat) : Int) = 0 from rfl) (i3I (y := (1213 + 12 * a1)) (i3A (i3A (show (1210 : Int32) = i3 1210 from rfl) (i3M (show (12 : Int32) = i3 12 from rfl) (rfl : i3 a1 = i3 a1))) (show (3 : Int32) = i3 3 from rfl)) (by omega) (by omega) (by omega))) (zm_rd (Z := Z) (ν := ν) (k := 2) (show ((0 : Nat) : Int) = 0 from rfl) (show ((0 : Nat) : Int) = 0 from rfl) (i3I (y := (1300 + ((Z 2 0 0 0) / 24))) (i3A (show (1300 : Int32) = i3 1300 from rfl) (i3D (zm_rd (Z := Z) (ν := ν) (k := 2) (show ((0 : Nat) : Int) = 0 from rfl) (show ((0 : Nat) : Int) = 0 from rfl) (show ((0 : Nat) : Int) = 0 from rfl)) (show (24 : Int32) = i3 24 from rfl) (by omega) (by omega) (by omega) (by omega))) (by omega) (by omega) (by omega))) (by omega) (by omega) (by omega) (by omega)) (fun h179 => ?_) (fun h179 => ?_)
            · replace hP := zE_p hP h179
              refine wz_i0 (i3O (n := 4400) (i3A (i3A (show (1210 : Int32) = i3 1210 from rfl) (i3M (show (12 : Int32) = i3 12 from rfl) (rfl : i3 a1 = i3 a1))) (show (8 : Int32) = i3 8 from rfl)) (by omega) (by omega) (by omega)) ?_
              have r180 := zM_f hZ178I 2 0 0 (1218 + 12 * a1)
              obtain ⟨Z181, hZ181⟩ := zx (zu Z178 2 0 0 (1218 + 12 * a1) ((Z178 2 0 0 (1218 + 12 * a1)) + 0))
              replace hP := zl_e hP hZ181
              have hZ181I := zM_u2 hZ178I hZ181 (lo := -2147483648) (hi := 2147483647) (zs_1210_8 (x := a1) (by omega) (by omega) (by omega)) (by omega) ⟨by decide, by decide⟩ (by simp only [zsp]; omega)
              have hZ181U : zU [] Z Z181 := zU_u hZ178U hZ181 (Or.inl rfl)
              have hZ181K : zC [2] Z Z181 := zC_u hZ178K hZ181 (zcl_2w (by omega) rfl)
              intro μ9 e9
              replace e9 := e9.trans (zm_wI (Z := Z178) (ν := ν) hZ181 (show ((0 : Nat) : Int) = 0 from rfl) (show ((0 : Nat) : Int) = 0 from rfl) (i3I (y := (1218 + 12 * a1)) (i3A (i3A (show (1210 : Int32) = i3 1210 from rfl) (i3M (show (12 : Int32) = i3 12 from rfl) (rfl : i3 a1 = i3 a1))) (show (8 : Int32) = i3 8 from rfl)) (by omega) (by omega) (by omega)) (i3A (zm_rd (Z := Z178) (ν := ν) (k := 2) (show ((0 : Nat) : Int) = 0 from rfl) (show ((0 : Nat) : Int) = 0 from rfl) (i3I (y := (1218 + 12 * a1)) (i3A (i3A (show (1210 : Int32) = i3 1210 from rfl) (i3M (show (12 : Int32) = i3 12 from rfl) (rfl : i3 a1 = i3 a1))) (show (8 : Int32) = i3 8 from rfl)) (by omega) (by omega) (by omega))) (show (0 : Int32) = i3 0 from rfl)))
              subst e9
              refine wz_i0 (i3O (n := 4400) (i3A (i3A (show (1210 : Int32) = i3 1210 from rfl) (i3M (show (12 : Int32) = i3 12 from rfl) (rfl : i3 a1 = i3 a1))) (show (6 : Int32) = i3 6 from rfl)) (by omega) (by omega) (by omega)) ?_
              obtain ⟨Z182, hZ182⟩ := zx (zu Z181 2 0 0 (1216 + 12 * a1) 0)
              replace hP := zl_e hP hZ182
              have hZ182I := zM_z2 hZ181I hZ182 (by omega) (by omega) (by omega)
              have hZ182U : zU [] Z Z182 := zU_u hZ181U hZ182 (Or.inl rfl)
              have hZ182K : zC [2] Z Z182 := zC_u hZ181K hZ182 (zcl_2w (by omega) rfl)
              intro μ9 e9
              replace e9 := e9.trans (zm_wI (Z := Z181) (ν := ν) hZ182 (show ((0 : Nat) : Int) = 0 from rfl) (show ((0 : Nat) : Int) = 0 from rfl) (i3I (y := (1216 + 12 * a1)) (i3A (i3A (show (1210 : Int32) = i3 1210 from rfl) (i3M (show (12 : Int32) = i3 12 from rfl) (rfl : i3 a1 = i3 a1))) (show (6 : Int32) = i3 6 from rfl)) (by omega) (by omega) (by omega)) (show (0 : Int32) = i3 0 from rfl))
              subst e9
              exact zlV hP ⟨hZ182I, hZ182K, hZ182U⟩
            · replace hP := zE_n hP h179
              refine wz_i0 (i3O (n := 4400) (i3A (i3A (show (1210 : Int32) = i3 1210 from rfl) (i3M (show (12 : Int32) = i3 12 from rfl) (rfl : i3 a1 = i3 a1))) (show (8 : Int32) = i3 8 from rfl)) (by omega) (by omega) (by omega)) ?_
              have r183 := zM_f hZ178I 2 0 0 (1218 + 12 * a1)
              have r184 := w3_r ((Z178 2 0 0 (1218 + 12 * a1)) + 1)
              obtain ⟨Z185, hZ185⟩ := zx (zu Z178 2 0 0 (1218 + 12 * a1) (w3 ((Z178 2 0 0 (1218 + 12 * a1)) + 1)))
              replace hP := zl_e hP hZ185
              have hZ185I := zM_u2 hZ178I hZ185 (lo := -2147483648) (hi := 2147483647) (zs_1210_8 (x := a1) (by omega) (by omega) (by omega)) (by omega) ⟨by decide, by decide⟩ (by simp only [zsp]; omega)
              have hZ185U : zU [] Z Z185 := zU_u hZ178U hZ185 (Or.inl rfl)
              have hZ185K : zC [2] Z Z185 := zC_u hZ178K hZ185 (zcl_2w (by omega) rfl)
              intro μ9 e9
              replace e9 := e9.trans (zm_wI (Z := Z178) (ν := ν) hZ185 (show ((0 : Nat) : Int) = 0 from rfl) (show ((0 : Nat) : Int) = 0 from rfl) (i3I (y := (1218 + 12 * a1)) (i3A (i3A (show (1210 : Int32) = i3 1210 from rfl) (i3M (show (12 : Int32) = i3 12 from rfl) (rfl : i3 a1 = i3 a1))) (show (8 : Int32) = i3 8 from rfl)) (by omega) (by omega) (by omega)) (i3W (i3A (zm_rd (Z := Z178) (ν := ν) (k := 2) (show ((0 : Nat) : Int) = 0 from rfl) (show ((0 : Nat) : Int) = 0 from rfl) (i3I (y := (1218 + 12 * a1)) (i3A (i3A (show (1210 : Int32) = i3 1210 from rfl) (i3M (show (12 : Int32) = i3 12 from rfl) (rfl : i3 a1 = i3 a1))) (show (8 : Int32) = i3 8 from rfl)) (by omega) (by omega) (by omega))) (show (1 : Int32) = i3 1 from rfl))))
              subst e9
              refine wz_i0 (i3O (n := 4400) (i3A (i3A (show (1210 : Int32) = i3 1210 from rfl) (i3M (show (12 : Int32) = i3 12 from rfl) (rfl : i3 a1 = i3 a1))) (show (6 : Int32) = i3 6 from rfl)) (by omega) (by omega) (by omega)) ?_
              obtain ⟨Z186, hZ186⟩ := zx (zu Z185 2 0 0 (1216 + 12 * a1) 0)
              replace hP := zl_e hP hZ186
              have hZ186I := zM_z2 hZ185I hZ186 (by omega) (by omega) (by omega)
              have hZ186U : zU [] Z Z186 := zU_u hZ185U hZ186 (Or.inl rfl)
              have hZ186K : zC [2] Z Z186 := zC_u hZ185K hZ186 (zcl_2w (by omega) rfl)
              intro μ9 e9
              replace e9 := e9.trans (zm_wI (Z := Z185) (ν := ν) hZ186 (show ((0 : Nat) : Int) = 0 from rfl) (show ((0 : Nat) : Int) = 0 from rfl) (i3I (y := (1216 + 12 * a1)) (i3A (i3A (show (1210 : Int32) = i3 1210 from rfl) (i3M (show (12 : Int32) = i3 12 from rfl) (rfl : i3 a1 = i3 a1))) (show (6 : Int32) = i3 6 from rfl)) (by omega) (by omega) (by omega)) (show (0 : Int32) = i3 0 from rfl))
              subst e9
              exact zlV hP ⟨hZ186I, hZ186K, hZ186U⟩
          · replace hP := zE_n hP h176
            refine wz_i0 (i3O (n := 4400) (i3A (i3A (show (1210 : Int32) = i3 1210 from rfl) (i3M (show (12 : Int32) = i3 12 from rfl) (rfl : i3 a1 = i3 a1))) (show (7 : Int32) = i3 7 from rfl)) (by omega) (by omega) (by omega)) ?_
            have r187 := zM_f hZ175I 2 0 0 (1217 + 12 * a1)
            have r188 := w3_r ((Z175 2 0 0 (1217 + 12 * a1)) + 1)
            obtain ⟨Z189, hZ189⟩ := zx (zu Z175 2 0 0 (1217 + 12 * a1) (w3 ((Z175 2 0 0 (1217 + 12 * a1)) + 1)))
            replace hP := zl_e hP hZ189
            have hZ189I := zM_u2 hZ175I hZ189 (lo := -2147483648) (hi := 2147483647) (zs_1210_7 (x := a1) (by omega) (by omega) (by omega)) (by omega) ⟨by decide, by decide⟩ (by simp only [zsp]; omega)
            have hZ189U : zU [] Z Z189 := zU_u hZ175U hZ189 (Or.inl rfl)
            have hZ189K : zC [2] Z Z189 := zC_u hZ175K hZ189 (zcl_2w (by omega) rfl)
            intro μ9 e9
            replace e9 := e9.trans (zm_wI (Z := Z175) (ν := ν) hZ189 (show ((0 : Nat) : Int) = 0 from rfl) (show ((0 : Nat) : Int) = 0 from rfl) (i3I (y := (1217 + 12 * a1)) (i3A (i3A (show (1210 : Int32) = i3 1210 from rfl) (i3M (show (12 : Int32) = i3 12 from rfl) (rfl : i3 a1 = i3 a1))) (show (7 : Int32) = i3 7 from rfl)) (by omega) (by omega) (by omega)) (i3W (i3A (zm_rd (Z := Z175) (ν := ν) (k := 2) (show ((0 : Nat) : Int) = 0 from rfl) (show ((0 : Nat) : Int) = 0 from rfl) (i3I (y := (1217 + 12 * a1)) (i3A (i3A (show (1210 : Int32) = i3 1210 from rfl) (i3M (show (12 : Int32) = i3 12 from rfl) (rfl : i3 a1 = i3 a1))) (show (7 : Int32) = i3 7 from rfl)) (by omega) (by omega) (by omega))) (show (1 : Int32) = i3 1 from rfl))))
            subst e9
            refine wz_i0 (i3O (n := 4400) (i3A (i3A (show (1210 : Int32) = i3 1210 from rfl) (i3M (show (12 : Int32) = i3 12 from rfl) (rfl : i3 a1 = i3 a1))) (show (8 : Int32) = i3 8 from rfl)) (by omega) (by omega) (by omega)) ?_
            refine wz_br (i3E (zm_rd (Z := Z) (ν := ν) (k := 2) (show ((0 : Nat) : Int) = 0 from rfl) (show ((0 : Nat) : Int) = 0 from rfl) (i3I (y := (1213 + 12 * a1)) (i3A (i3A (show (1210 : Int32) = i3 1210 from rfl) (i3M (show (12 : Int32) = i3 12 from rfl) (rfl : i3 a1 = i3 a1))) (show (3 : Int32) = i3 3 from rfl)) (by omega) (by omega) (by omega))) (zm_rd (Z := Z) (ν := ν) (k := 2) (show ((0 : Nat) : Int) = 0 from rfl) (show ((0 : Nat) : Int) = 0 from rfl) (i3I (y := (1300 + ((Z 2 0 0 0) / 24))) (i3A (show (1300 : Int32) = i3 1300 from rfl) (i3D (zm_rd (Z := Z) (ν := ν) (k := 2) (show ((0 : Nat) : Int) = 0 from rfl) (show ((0 : Nat) : Int) = 0 from rfl) (show ((0 : Nat) : Int) = 0 from rfl)) (show (24 : Int32) = i3 24 from rfl) (by omega) (by omega) (by omega) (by omega))) (by omega) (by omega) (by omega))) (by omega) (by omega) (by omega) (by omega)) (fun h190 => ?_) (fun h190 => ?_)
            · replace hP := zE_p hP h190
              refine wz_i0 (i3O (n := 4400) (i3A (i3A (show (1210 : Int32) = i3 1210 from rfl) (i3M (show (12 : Int32) = i3 12 from rfl) (rfl : i3 a1 = i3 a1))) (show (8 : Int32) = i3 8 from rfl)) (by omega) (by omega) (by omega)) ?_
              have r191 := zM_f hZ189I 2 0 0 (1218 + 12 * a1)
              obtain ⟨Z192, hZ192⟩ := zx (zu Z189 2 0 0 (1218 + 12 * a1) ((Z189 2 0 0 (1218 + 12 * a1)) + 0))
              replace hP := zl_e hP hZ192
              have hZ192I := zM_u2 hZ189I hZ192 (lo := -2147483648) (hi := 2147483647) (zs_1210_8 (x := a1) (by omega) (by omega) (by omega)) (by omega) ⟨by decide, by decide⟩ (by simp only [zsp]; omega)
              have hZ192U : zU [] Z Z192 := zU_u hZ189U hZ192 (Or.inl rfl)
              have hZ192K : zC [2] Z Z192 := zC_u hZ189K hZ192 (zcl_2w (by omega) rfl)
              intro μ9 e9
              replace e9 := e9.trans (zm_wI (Z := Z189) (ν := ν) hZ192 (show ((0 : Nat) : Int) = 0 from rfl) (show ((0 : Nat) : Int) = 0 from rfl) (i3I (y := (1218 + 12 * a1)) (i3A (i3A (show (1210 : Int32) = i3 1210 from rfl) (i3M (show (12 : Int32) = i3 12 from rfl) (rfl : i3 a1 = i3 a1))) (show (8 : Int32) = i3 8 from rfl)) (by omega) (by omega) (by omega)) (i3A (zm_rd (Z := Z189) (ν := ν) (k := 2) (show ((0 : Nat) : Int) = 0 from rfl) (show ((0 : Nat) : Int) = 0 from rfl) (i3I (y := (1218 + 12 * a1)) (i3A (i3A (show (1210 : Int32) = i3 1210 from rfl) (i3M (show (12 : Int32) = i3 12 from rfl) (rfl : i3 a1 = i3 a1))) (show (8 : Int32) = i3 8 from rfl)) (by omega) (by omega) (by omega))) (show (0 : Int32) = i3 0 from rfl)))
              subst e9
              refine wz_i0 (i3O (n := 4400) (i3A (i3A (show (1210 : Int32) = i3 1210 from rfl) (i3M (show (12 : Int32) = i3 12 from rfl) (rfl : i3 a1 = i3 a1))) (show (6 : Int32) = i3 6 from rfl)) (by omega) (by omega) (by omega)) ?_
              obtain ⟨Z193, hZ193⟩ := zx (zu Z192 2 0 0 (1216 + 12 * a1) 0)
              replace hP := zl_e hP hZ193
              have hZ193I := zM_z2 hZ192I hZ193 (by omega) (by omega) (by omega)
              have hZ193U : zU [] Z Z193 := zU_u hZ192U hZ193 (Or.inl rfl)
              have hZ193K : zC [2] Z Z193 := zC_u hZ192K hZ193 (zcl_2w (by omega) rfl)
              intro μ9 e9
              replace e9 := e9.trans (zm_wI (Z := Z192) (ν := ν) hZ193 (show ((0 : Nat) : Int) = 0 from rfl) (show ((0 : Nat) : Int) = 0 from rfl) (i3I (y := (1216 + 12 * a1)) (i3A (i3A (show (1210 : Int32) = i3 1210 from rfl) (i3M (show (12 : Int32) = i3 12 from rfl) (rfl : i3 a1 = i3 a1))) (show (6 : Int32) = i3 6 from rfl)) (by omega) (by omega) (by omega)) (show (0 : Int32) = i3 0 from rfl))
              subst e9
              exact zlV hP ⟨hZ193I, hZ193K, hZ193U⟩
            · replace hP := zE_n hP h190
              refine wz_i0 (i3O (n := 4400) (i3A (i3A (show (1210 : Int32) = i3 1210 from rfl) (i3M (show (12 : Int32) = i3 12 from rfl) (rfl : i3 a1 = i3 a1))) (show (8 : Int32) = i3 8 from rfl)) (by omega) (by omega) (by omega)) ?_
              have r194 := zM_f hZ189I 2 0 0 (1218 + 12 * a1)
              have r195 := w3_r ((Z189 2 0 0 (1218 + 12 * a1)) + 1)
              obtain ⟨Z196, hZ196⟩ := zx (zu Z189 2 0 0 (1218 + 12 * a1) (w3 ((Z189 2 0 0 (1218 + 12 * a1)) + 1)))
              replace hP := zl_e hP hZ196
              have hZ196I := zM_u2 hZ189I hZ196 (lo := -2147483648) (hi := 2147483647) (zs_1210_8 (x := a1) (by omega) (by omega) (by omega)) (by omega) ⟨by decide, by decide⟩ (by simp only [zsp]; omega)
              have hZ196U : zU [] Z Z196 := zU_u hZ189U hZ196 (Or.inl rfl)
              have hZ196K : zC [2] Z Z196 := zC_u hZ189K hZ196 (zcl_2w (by omega) rfl)
              intro μ9 e9
              replace e9 := e9.trans (zm_wI (Z := Z189) (ν := ν) hZ196 (show ((0 : Nat) : Int) = 0 from rfl) (show ((0 : Nat) : Int) = 0 from rfl) (i3I (y := (1218 + 12 * a1)) (i3A (i3A (show (1210 : Int32) = i3 1210 from rfl) (i3M (show (12 : Int32) = i3 12 from rfl) (rfl : i3 a1 = i3 a1))) (show (8 : Int32) = i3 8 from rfl)) (by omega) (by omega) (by omega)) (i3W (i3A (zm_rd (Z := Z189) (ν := ν) (k := 2) (show ((0 : Nat) : Int) = 0 from rfl) (show ((0 : Nat) : Int) = 0 from rfl) (i3I (y := (1218 + 12 * a1)) (i3A (i3A (show (1210 : Int32) = i3 1210 from rfl) (i3M (show (12 : Int32) = i3 12 from rfl) (rfl : i3 a1 = i3 a1))) (show (8 : Int32) = i3 8 from rfl)) (by omega) (by omega) (by omega))) (show (1 : Int32) = i3 1 from rfl))))
              subst e9
              refine wz_i0 (i3O (n := 4400) (i3A (i3A (show (1210 : Int32) = i3 1210 from rfl) (i3M (show (12 : Int32) = i3 12 from rfl) (rfl : i3 a1 = i3 a1))) (show (6 : Int32) = i3 6 from rfl)) (by omega) (by omega) (by omega)) ?_
              obtain ⟨Z197, hZ197⟩ := zx (zu Z196 2 0 0 (1216 + 12 * a1) 0)
              replace hP := zl_e hP hZ197
              have hZ197I := zM_z2 hZ196I hZ197 (by omega) (by omega) (by omega)
              have hZ197U : zU [] Z Z197 := zU_u hZ196U hZ197 (Or.inl rfl)
              have hZ197K : zC [2] Z Z197 := zC_u hZ196K hZ197 (zcl_2w (by omega) rfl)
              intro μ9 e9
              replace e9 := e9.trans (zm_wI (Z := Z196) (ν := ν) hZ197 (show ((0 : Nat) : Int) = 0 from rfl) (show ((0 : Nat) : Int) = 0 from rfl) (i3I (y := (1216 + 12 * a1)) (i3A (i3A (show (1210 : Int32) = i3 1210 from rfl) (i3M (show (12 : Int32) = i3 12 from rfl) (rfl : i3 a1 = i3 a1))) (show (6 : Int32) = i3 6 from rfl)) (by omega) (by omega) (by omega)) (show (0 : Int32) = i3 0 from rfl))
              subst e9
              exact zlV hP ⟨hZ197I, hZ197K, hZ197U⟩
        · replace hP := zE_n hP h174
          refine wz_i0 (i3O (n := 4400) (i3A (i3A (show (1210 : Int32) = i3 1210 from rfl) (i3M (show (12 : Int32) = i3 12 from rfl) (rfl : i3 a1 = i3 a1))) (show (5 : Int32) = i3 5 from rfl)) (by omega) (by omega) (by omega)) ?_
          obtain ⟨Z198, hZ198⟩ := zx (zu Z 2 0 0 (1215 + 12 * a1) ((Z 2 0 0 (1300 + ((Z 2 0 0 0) / 24))) - (Z 2 0 0 (1211 + 12 * a1))))
          replace hP := zl_e hP hZ198
          have hZ198I := zM_u2 hZ hZ198 (lo := 0) (hi := 40) (zs_1210_5 (x := a1) (by omega) (by omega) (by omega)) (by omega) ⟨by decide, by decide⟩ (by simp only [zsp]; omega)
          have hZ198U : zU [] Z Z198 := zU_u zU_r hZ198 (Or.inl rfl)
          have hZ198K : zC [2] Z Z198 := zC_u zC_r hZ198 (zcl_2w (by omega) rfl)
          intro μ9 e9
          replace e9 := e9.trans (zm_wI (Z := Z) (ν := ν) hZ198 (show ((0 : Nat) : Int) = 0 from rfl) (show ((0 : Nat) : Int) = 0 from rfl) (i3I (y := (1215 + 12 * a1)) (i3A (i3A (show (1210 : Int32) = i3 1210 from rfl) (i3M (show (12 : Int32) = i3 12 from rfl) (rfl : i3 a1 = i3 a1))) (show (5 : Int32) = i3 5 from rfl)) (by omega) (by omega) (by omega)) (i3S (zm_rd (Z := Z) (ν := ν) (k := 2) (show ((0 : Nat) : Int) = 0 from rfl) (show ((0 : Nat) : Int) = 0 from rfl) (i3I (y := (1300 + ((Z 2 0 0 0) / 24))) (i3A (show (1300 : Int32) = i3 1300 from rfl) (i3D (zm_rd (Z := Z) (ν := ν) (k := 2) (show ((0 : Nat) : Int) = 0 from rfl) (show ((0 : Nat) : Int) = 0 from rfl) (show ((0 : Nat) : Int) = 0 from rfl)) (show (24 : Int32) = i3 24 from rfl) (by omega) (by omega) (by omega) (by omega))) (by omega) (by omega) (by omega))) (zm_rd (Z := Z) (ν := ν) (k := 2) (show ((0 : Nat) : Int) = 0 from rfl) (show ((0 : Nat) : Int) = 0 from rfl) (i3I (y := (1211 + 12 * a1)) (i3A (i3A (show (1210 : Int32) = i3 1210 from rfl) (i3M (show (12 : Int32) = i3 12 from rfl) (rfl : i3 a1 = i3 a1))) (show (1 : Int32) = i3 1 from rfl)) (by omega) (by omega) (by omega)))))
          subst e9
          refine wz_i0 (i3O (n := 4400) (i3A (i3A (show (1210 : Int32) = i3 1210 from rfl) (i3M (show (12 : Int32) = i3 12 from rfl) (rfl : i3 a1 = i3 a1))) (show (7 : Int32) = i3 7 from rfl)) (by omega) (by omega) (by omega)) ?_
          refine wz_br (i3E (i3S (zm_rd (Z := Z) (ν := ν) (k := 2) (show ((0 : Nat) : Int) = 0 from rfl) (show ((0 : Nat) : Int) = 0 from rfl) (i3I (y := (1300 + ((Z 2 0 0 0) / 24))) (i3A (show (1300 : Int32) = i3 1300 from rfl) (i3D (zm_rd (Z := Z) (ν := ν) (k := 2) (show ((0 : Nat) : Int) = 0 from rfl) (show ((0 : Nat) : Int) = 0 from rfl) (show ((0 : Nat) : Int) = 0 from rfl)) (show (24 : Int32) = i3 24 from rfl) (by omega) (by omega) (by omega) (by omega))) (by omega) (by omega) (by omega))) (zm_rd (Z := Z) (ν := ν) (k := 2) (show ((0 : Nat) : Int) = 0 from rfl) (show ((0 : Nat) : Int) = 0 from rfl) (i3I (y := (1211 + 12 * a1)) (i3A (i3A (show (1210 : Int32) = i3 1210 from rfl) (i3M (show (12 : Int32) = i3 12 from rfl) (rfl : i3 a1 = i3 a1))) (show (1 : Int32) = i3 1 from rfl)) (by omega) (by omega) (by omega)))) (zm_rd (Z := Z) (ν := ν) (k := 2) (show ((0 : Nat) : Int) = 0 from rfl) (show ((0 : Nat) : Int) = 0 from rfl) (i3I (y := (1300 + ((Z 2 0 0 0) / 24))) (i3A (show (1300 : Int32) = i3 1300 from rfl) (i3D (zm_rd (Z := Z) (ν := ν) (k := 2) (show ((0 : Nat) : Int) = 0 from rfl) (show ((0 : Nat) : Int) = 0 from rfl) (show ((0 : Nat) : Int) = 0 from rfl)) (show (24 : Int32) = i3 24 from rfl) (by omega) (by omega) (by omega) (by omega))) (by omega) (by omega) (by omega))) (by omega) (by omega) (by omega) (by omega)) (fun h199 => ?_) (fun h199 => ?_)
          · replace hP := zE_p hP h199
            refine wz_i0 (i3O (n := 4400) (i3A (i3A (show (1210 : Int32) = i3 1210 from rfl) (i3M (show (12 : Int32) = i3 12 from rfl) (rfl : i3 a1 = i3 a1))) (show (7 : Int32) = i3 7 from rfl)) (by omega) (by omega) (by omega)) ?_
            have r200 := zM_f hZ198I 2 0 0 (1217 + 12 * a1)
            obtain ⟨Z201, hZ201⟩ := zx (zu Z198 2 0 0 (1217 + 12 * a1) ((Z198 2 0 0 (1217 + 12 * a1)) + 0))
            replace hP := zl_e hP hZ201
            have hZ201I := zM_u2 hZ198I hZ201 (lo := -2147483648) (hi := 2147483647) (zs_1210_7 (x := a1) (by omega) (by omega) (by omega)) (by omega) ⟨by decide, by decide⟩ (by simp only [zsp]; omega)
            have hZ201U : zU [] Z Z201 := zU_u hZ198U hZ201 (Or.inl rfl)
            have hZ201K : zC [2] Z Z201 := zC_u hZ198K hZ201 (zcl_2w (by omega) rfl)
            intro μ9 e9
            replace e9 := e9.trans (zm_wI (Z := Z198) (ν := ν) hZ201 (show ((0 : Nat) : Int) = 0 from rfl) (show ((0 : Nat) : Int) = 0 from rfl) (i3I (y := (1217 + 12 * a1)) (i3A (i3A (show (1210 : Int32) = i3 1210 from rfl) (i3M (show (12 : Int32) = i3 12 from rfl) (rfl : i3 a1 = i3 a1))) (show (7 : Int32) = i3 7 from rfl)) (by omega) (by omega) (by omega)) (i3A (zm_rd (Z := Z198) (ν := ν) (k := 2) (show ((0 : Nat) : Int) = 0 from rfl) (show ((0 : Nat) : Int) = 0 from rfl) (i3I (y := (1217 + 12 * a1)) (i3A (i3A (show (1210 : Int32) = i3 1210 from rfl) (i3M (show (12 : Int32) = i3 12 from rfl) (rfl : i3 a1 = i3 a1))) (show (7 : Int32) = i3 7 from rfl)) (by omega) (by omega) (by omega))) (show (0 : Int32) = i3 0 from rfl)))
            subst e9
            refine wz_i0 (i3O (n := 4400) (i3A (i3A (show (1210 : Int32) = i3 1210 from rfl) (i3M (show (12 : Int32) = i3 12 from rfl) (rfl : i3 a1 = i3 a1))) (show (8 : Int32) = i3 8 from rfl)) (by omega) (by omega) (by omega)) ?_
            refine wz_i1 (Eq.trans (i3E (i3S (zm_rd (Z := Z) (ν := ν) (k := 2) (show ((0 : Nat) : Int) = 0 from rfl) (show ((0 : Nat) : Int) = 0 from rfl) (i3I (y := (1300 + ((Z 2 0 0 0) / 24))) (i3A (show (1300 : Int32) = i3 1300 from rfl) (i3D (zm_rd (Z := Z) (ν := ν) (k := 2) (show ((0 : Nat) : Int) = 0 from rfl) (show ((0 : Nat) : Int) = 0 from rfl) (show ((0 : Nat) : Int) = 0 from rfl)) (show (24 : Int32) = i3 24 from rfl) (by omega) (by omega) (by omega) (by omega))) (by omega) (by omega) (by omega))) (zm_rd (Z := Z) (ν := ν) (k := 2) (show ((0 : Nat) : Int) = 0 from rfl) (show ((0 : Nat) : Int) = 0 from rfl) (i3I (y := (1211 + 12 * a1)) (i3A (i3A (show (1210 : Int32) = i3 1210 from rfl) (i3M (show (12 : Int32) = i3 12 from rfl) (rfl : i3 a1 = i3 a1))) (show (1 : Int32) = i3 1 from rfl)) (by omega) (by omega) (by omega)))) (zm_rd (Z := Z) (ν := ν) (k := 2) (show ((0 : Nat) : Int) = 0 from rfl) (show ((0 : Nat) : Int) = 0 from rfl) (i3I (y := (1300 + ((Z 2 0 0 0) / 24))) (i3A (show (1300 : Int32) = i3 1300 from rfl) (i3D (zm_rd (Z := Z) (ν := ν) (k := 2) (show ((0 : Nat) : Int) = 0 from rfl) (show ((0 : Nat) : Int) = 0 from rfl) (show ((0 : Nat) : Int) = 0 from rfl)) (show (24 : Int32) = i3 24 from rfl) (by omega) (by omega) (by omega) (by omega))) (by omega) (by omega) (by omega))) (by omega) (by omega) (by omega) (by omega)) (decide_eq_true (by omega))) ?_
            refine wz_i0 (i3O (n := 4400) (i3A (i3A (show (1210 : Int32) = i3 1210 from rfl) (i3M (show (12 : Int32) = i3 12 from rfl) (rfl : i3 a1 = i3 a1))) (show (8 : Int32) = i3 8 from rfl)) (by omega) (by omega) (by omega)) ?_
            have r202 := zM_f hZ201I 2 0 0 (1218 + 12 * a1)
            obtain ⟨Z203, hZ203⟩ := zx (zu Z201 2 0 0 (1218 + 12 * a1) ((Z201 2 0 0 (1218 + 12 * a1)) + 0))
            replace hP := zl_e hP hZ203
            have hZ203I := zM_u2 hZ201I hZ203 (lo := -2147483648) (hi := 2147483647) (zs_1210_8 (x := a1) (by omega) (by omega) (by omega)) (by omega) ⟨by decide, by decide⟩ (by simp only [zsp]; omega)
            have hZ203U : zU [] Z Z203 := zU_u hZ201U hZ203 (Or.inl rfl)
            have hZ203K : zC [2] Z Z203 := zC_u hZ201K hZ203 (zcl_2w (by omega) rfl)
            intro μ9 e9
            replace e9 := e9.trans (zm_wI (Z := Z201) (ν := ν) hZ203 (show ((0 : Nat) : Int) = 0 from rfl) (show ((0 : Nat) : Int) = 0 from rfl) (i3I (y := (1218 + 12 * a1)) (i3A (i3A (show (1210 : Int32) = i3 1210 from rfl) (i3M (show (12 : Int32) = i3 12 from rfl) (rfl : i3 a1 = i3 a1))) (show (8 : Int32) = i3 8 from rfl)) (by omega) (by omega) (by omega)) (i3A (zm_rd (Z := Z201) (ν := ν) (k := 2) (show ((0 : Nat) : Int) = 0 from rfl) (show ((0 : Nat) : Int) = 0 from rfl) (i3I (y := (1218 + 12 * a1)) (i3A (i3A (show (1210 : Int32) = i3 1210 from rfl) (i3M (show (12 : Int32) = i3 12 from rfl) (rfl : i3 a1 = i3 a1))) (show (8 : Int32) = i3 8 from rfl)) (by omega) (by omega) (by omega))) (show (0 : Int32) = i3 0 from rfl)))
            subst e9
            refine wz_i0 (i3O (n := 4400) (i3A (i3A (show (1210 : Int32) = i3 1210 from rfl) (i3M (show (12 : Int32) = i3 12 from rfl) (rfl : i3 a1 = i3 a1))) (show (6 : Int32) = i3 6 from rfl)) (by omega) (by omega) (by omega)) ?_
            obtain ⟨Z204, hZ204⟩ := zx (zu Z203 2 0 0 (1216 + 12 * a1) 0)
            replace hP := zl_e hP hZ204
            have hZ204I := zM_z2 hZ203I hZ204 (by omega) (by omega) (by omega)
            have hZ204U : zU [] Z Z204 := zU_u hZ203U hZ204 (Or.inl rfl)
            have hZ204K : zC [2] Z Z204 := zC_u hZ203K hZ204 (zcl_2w (by omega) rfl)
            intro μ9 e9
            replace e9 := e9.trans (zm_wI (Z := Z203) (ν := ν) hZ204 (show ((0 : Nat) : Int) = 0 from rfl) (show ((0 : Nat) : Int) = 0 from rfl) (i3I (y := (1216 + 12 * a1)) (i3A (i3A (show (1210 : Int32) = i3 1210 from rfl) (i3M (show (12 : Int32) = i3 12 from rfl) (rfl : i3 a1 = i3 a1))) (show (6 : Int32) = i3 6 from rfl)) (by omega) (by omega) (by omega)) (show (0 : Int32) = i3 0 from rfl))
            subst e9
            exact zlV hP ⟨hZ204I, hZ204K, hZ204U⟩
          · replace hP := zE_n hP h199
            refine wz_i0 (i3O (n := 4400) (i3A (i3A (show (1210 : Int32) = i3 1210 from rfl) (i3M (show (12 : Int32) = i3 12 from rfl) (rfl : i3 a1 = i3 a1))) (show (7 : Int32) = i3 7 from rfl)) (by omega) (by omega) (by omega)) ?_
            have r205 := zM_f hZ198I 2 0 0 (1217 + 12 * a1)
            have r206 := w3_r ((Z198 2 0 0 (1217 + 12 * a1)) + 1)
            obtain ⟨Z207, hZ207⟩ := zx (zu Z198 2 0 0 (1217 + 12 * a1) (w3 ((Z198 2 0 0 (1217 + 12 * a1)) + 1)))
            replace hP := zl_e hP hZ207
            have hZ207I := zM_u2 hZ198I hZ207 (lo := -2147483648) (hi := 2147483647) (zs_1210_7 (x := a1) (by omega) (by omega) (by omega)) (by omega) ⟨by decide, by decide⟩ (by simp only [zsp]; omega)
            have hZ207U : zU [] Z Z207 := zU_u hZ198U hZ207 (Or.inl rfl)
            have hZ207K : zC [2] Z Z207 := zC_u hZ198K hZ207 (zcl_2w (by omega) rfl)
            intro μ9 e9
            replace e9 := e9.trans (zm_wI (Z := Z198) (ν := ν) hZ207 (show ((0 : Nat) : Int) = 0 from rfl) (show ((0 : Nat) : Int) = 0 from rfl) (i3I (y := (1217 + 12 * a1)) (i3A (i3A (show (1210 : Int32) = i3 1210 from rfl) (i3M (show (12 : Int32) = i3 12 from rfl) (rfl : i3 a1 = i3 a1))) (show (7 : Int32) = i3 7 from rfl)) (by omega) (by omega) (by omega)) (i3W (i3A (zm_rd (Z := Z198) (ν := ν) (k := 2) (show ((0 : Nat) : Int) = 0 from rfl) (show ((0 : Nat) : Int) = 0 from rfl) (i3I (y := (1217 + 12 * a1)) (i3A (i3A (show (1210 : Int32) = i3 1210 from rfl) (i3M (show (12 : Int32) = i3 12 from rfl) (rfl : i3 a1 = i3 a1))) (show (7 : Int32) = i3 7 from rfl)) (by omega) (by omega) (by omega))) (show (1 : Int32) = i3 1 from rfl))))
            subst e9
            refine wz_i0 (i3O (n := 4400) (i3A (i3A (show (1210 : Int32) = i3 1210 from rfl) (i3M (show (12 : Int32) = i3 12 from rfl) (rfl : i3 a1 = i3 a1))) (show (8 : Int32) = i3 8 from rfl)) (by omega) (by omega) (by omega)) ?_
            refine wz_i0 (Eq.trans (i3E (i3S (zm_rd (Z := Z) (ν := ν) (k := 2) (show ((0 : Nat) : Int) = 0 from rfl) (show ((0 : Nat) : Int) = 0 from rfl) (i3I (y := (1300 + ((Z 2 0 0 0) / 24))) (i3A (show (1300 : Int32) = i3 1300 from rfl) (i3D (zm_rd (Z := Z) (ν := ν) (k := 2) (show ((0 : Nat) : Int) = 0 from rfl) (show ((0 : Nat) : Int) = 0 from rfl) (show ((0 : Nat) : Int) = 0 from rfl)) (show (24 : Int32) = i3 24 from rfl) (by omega) (by omega) (by omega) (by omega))) (by omega) (by omega) (by omega))) (zm_rd (Z := Z) (ν := ν) (k := 2) (show ((0 : Nat) : Int) = 0 from rfl) (show ((0 : Nat) : Int) = 0 from rfl) (i3I (y := (1211 + 12 * a1)) (i3A (i3A (show (1210 : Int32) = i3 1210 from rfl) (i3M (show (12 : Int32) = i3 12 from rfl) (rfl : i3 a1 = i3 a1))) (show (1 : Int32) = i3 1 from rfl)) (by omega) (by omega) (by omega)))) (zm_rd (Z := Z) (ν := ν) (k := 2) (show ((0 : Nat) : Int) = 0 from rfl) (show ((0 : Nat) : Int) = 0 from rfl) (i3I (y := (1300 + ((Z 2 0 0 0) / 24))) (i3A (show (1300 : Int32) = i3 1300 from rfl) (i3D (zm_rd (Z := Z) (ν := ν) (k := 2) (show ((0 : Nat) : Int) = 0 from rfl) (show ((0 : Nat) : Int) = 0 from rfl) (show ((0 : Nat) : Int) = 0 from rfl)) (show (24 : Int32) = i3 24 from rfl) (by omega) (by omega) (by omega) (by omega))) (by omega) (by omega) (by omega))) (by omega) (by omega) (by omega) (by omega)) (decide_eq_false (by omega))) ?_
            refine wz_i0 (i3O (n := 4400) (i3A (i3A (show (1210 : Int32) = i3 1210 from rfl) (i3M (show (12 : Int32) = i3 12 from rfl) (rfl : i3 a1 = i3 a1))) (show (8 : Int32) = i3 8 from rfl)) (by omega) (by omega) (by omega)) ?_
            have r208 := zM_f hZ207I 2 0 0 (1218 + 12 * a1)
            have r209 := w3_r ((Z207 2 0 0 (1218 + 12 * a1)) + 1)
            obtain ⟨Z210, hZ210⟩ := zx (zu Z207 2 0 0 (1218 + 12 * a1) (w3 ((Z207 2 0 0 (1218 + 12 * a1)) + 1)))
            replace hP := zl_e hP hZ210
            have hZ210I := zM_u2 hZ207I hZ210 (lo := -2147483648) (hi := 2147483647) (zs_1210_8 (x := a1) (by omega) (by omega) (by omega)) (by omega) ⟨by decide, by decide⟩ (by simp only [zsp]; omega)
            have hZ210U : zU [] Z Z210 := zU_u hZ207U hZ210 (Or.inl rfl)
            have hZ210K : zC [2] Z Z210 := zC_u hZ207K hZ210 (zcl_2w (by omega) rfl)
            intro μ9 e9
            replace e9 := e9.trans (zm_wI (Z := Z207) (ν := ν) hZ210 (show ((0 : Nat) : Int) = 0 from rfl) (show ((0 : Nat) : Int) = 0 from rfl) (i3I (y := (1218 + 12 * a1)) (i3A (i3A (show (1210 : Int32) = i3 1210 from rfl) (i3M (show (12 : Int32) = i3 12 from rfl) (rfl : i3 a1 = i3 a1))) (show (8 : Int32) = i3 8 from rfl)) (by omega) (by omega) (by omega)) (i3W (i3A (zm_rd (Z := Z207) (ν := ν) (k := 2) (show ((0 : Nat) : Int) = 0 from rfl) (show ((0 : Nat) : Int) = 0 from rfl) (i3I (y := (1218 + 12 * a1)) (i3A (i3A (show (1210 : Int32) = i3 1210 from rfl) (i3M (show (12 : Int32) = i3 12 from rfl) (rfl : i3 a1 = i3 a1))) (show (8 : Int32) = i3 8 from rfl)) (by omega) (by omega) (by omega))) (show (1 : Int32) = i3 1 from rfl))))
            subst e9
            refine wz_i0 (i3O (n := 4400) (i3A (i3A (show (1210 : Int32) = i3 1210 from rfl) (i3M (show (12 : Int32) = i3 12 from rfl) (rfl : i3 a1 = i3 a1))) (show (6 : Int32) = i3 6 from rfl)) (by omega) (by omega) (by omega)) ?_
            obtain ⟨Z211, hZ211⟩ := zx (zu Z210 2 0 0 (1216 + 12 * a1) 0)
            replace hP := zl_e hP hZ211
            have hZ211I := zM_z2 hZ210I hZ211 (by omega) (by omega) (by omega)
            have hZ211U : zU [] Z Z211 := zU_u hZ210U hZ211 (Or.inl rfl)
            have hZ211K : zC [2] Z Z211 := zC_u hZ210K hZ211 (zcl_2w (by omega) rfl)
            intro μ9 e9
            replace e9 := e9.trans (zm_wI (Z := Z210) (ν := ν) hZ211 (show ((0 : Nat) : Int) = 0 from rfl) (show ((0 : Nat) : Int) = 0 from rfl) (i3I (y := (1216 + 12 * a1)) (i3A (i3A (show (1210 : Int32) = i3 1210 from rfl) (i3M (show (12 : Int32) = i3 12 from rfl) (rfl : i3 a1 = i3 a1))) (show (6 : Int32) = i3 6 from rfl)) (by omega) (by omega) (by omega)) (show (0 : Int32) = i3 0 from rfl))
            subst e9
            exact zlV hP ⟨hZ211I, hZ211K, hZ211U⟩
      · replace hP := zE_n hP h172
        have r212 := zM_k hZ 2 0 0 (1211 + 12 * a1) (lo := 0) (hi := 9) (by decide) (zs_1210_1 (x := a1) (by omega) (by omega) (by omega))
        refine wz_br (i3Le (zm_rd (Z := Z) (ν := ν) (k := 2) (show ((0 : Nat) : Int) = 0 from rfl) (show ((0 : Nat) : Int) = 0 from rfl) (i3I (y := (1213 + 12 * a1)) (i3A (i3A (show (1210 : Int32) = i3 1210 from rfl) (i3M (show (12 : Int32) = i3 12 from rfl) (rfl : i3 a1 = i3 a1))) (show (3 : Int32) = i3 3 from rfl)) (by omega) (by omega) (by omega))) (i3A (zm_rd (Z := Z) (ν := ν) (k := 2) (show ((0 : Nat) : Int) = 0 from rfl) (show ((0 : Nat) : Int) = 0 from rfl) (i3I (y := (1300 + ((Z 2 0 0 0) / 24))) (i3A (show (1300 : Int32) = i3 1300 from rfl) (i3D (zm_rd (Z := Z) (ν := ν) (k := 2) (show ((0 : Nat) : Int) = 0 from rfl) (show ((0 : Nat) : Int) = 0 from rfl) (show ((0 : Nat) : Int) = 0 from rfl)) (show (24 : Int32) = i3 24 from rfl) (by omega) (by omega) (by omega) (by omega))) (by omega) (by omega) (by omega))) (zm_rd (Z := Z) (ν := ν) (k := 2) (show ((0 : Nat) : Int) = 0 from rfl) (show ((0 : Nat) : Int) = 0 from rfl) (i3I (y := (1211 + 12 * a1)) (i3A (i3A (show (1210 : Int32) = i3 1210 from rfl) (i3M (show (12 : Int32) = i3 12 from rfl) (rfl : i3 a1 = i3 a1))) (show (1 : Int32) = i3 1 from rfl)) (by omega) (by omega) (by omega)))) (by omega) (by omega) (by omega) (by omega)) (fun h213 => ?_) (fun h213 => ?_)
        · replace hP := zE_p hP h213
          refine wz_i0 (i3O (n := 4400) (i3A (i3A (show (1210 : Int32) = i3 1210 from rfl) (i3M (show (12 : Int32) = i3 12 from rfl) (rfl : i3 a1 = i3 a1))) (show (5 : Int32) = i3 5 from rfl)) (by omega) (by omega) (by omega)) ?_
          obtain ⟨Z214, hZ214⟩ := zx (zu Z 2 0 0 (1215 + 12 * a1) (Z 2 0 0 (1213 + 12 * a1)))
          replace hP := zl_e hP hZ214
          have hZ214I := zM_u2 hZ hZ214 (lo := 0) (hi := 40) (zs_1210_5 (x := a1) (by omega) (by omega) (by omega)) (by omega) ⟨by decide, by decide⟩ (by simp only [zsp]; omega)
          have hZ214U : zU [] Z Z214 := zU_u zU_r hZ214 (Or.inl rfl)
          have hZ214K : zC [2] Z Z214 := zC_u zC_r hZ214 (zcl_2w (by omega) rfl)
          intro μ9 e9
          replace e9 := e9.trans (zm_wI (Z := Z) (ν := ν) hZ214 (show ((0 : Nat) : Int) = 0 from rfl) (show ((0 : Nat) : Int) = 0 from rfl) (i3I (y := (1215 + 12 * a1)) (i3A (i3A (show (1210 : Int32) = i3 1210 from rfl) (i3M (show (12 : Int32) = i3 12 from rfl) (rfl : i3 a1 = i3 a1))) (show (5 : Int32) = i3 5 from rfl)) (by omega) (by omega) (by omega)) (zm_rd (Z := Z) (ν := ν) (k := 2) (show ((0 : Nat) : Int) = 0 from rfl) (show ((0 : Nat) : Int) = 0 from rfl) (i3I (y := (1213 + 12 * a1)) (i3A (i3A (show (1210 : Int32) = i3 1210 from rfl) (i3M (show (12 : Int32) = i3 12 from rfl) (rfl : i3 a1 = i3 a1))) (show (3 : Int32) = i3 3 from rfl)) (by omega) (by omega) (by omega))))
          subst e9
          refine wz_i0 (i3O (n := 4400) (i3A (i3A (show (1210 : Int32) = i3 1210 from rfl) (i3M (show (12 : Int32) = i3 12 from rfl) (rfl : i3 a1 = i3 a1))) (show (7 : Int32) = i3 7 from rfl)) (by omega) (by omega) (by omega)) ?_
          refine wz_br (i3E (zm_rd (Z := Z) (ν := ν) (k := 2) (show ((0 : Nat) : Int) = 0 from rfl) (show ((0 : Nat) : Int) = 0 from rfl) (i3I (y := (1213 + 12 * a1)) (i3A (i3A (show (1210 : Int32) = i3 1210 from rfl) (i3M (show (12 : Int32) = i3 12 from rfl) (rfl : i3 a1 = i3 a1))) (show (3 : Int32) = i3 3 from rfl)) (by omega) (by omega) (by omega))) (zm_rd (Z := Z) (ν := ν) (k := 2) (show ((0 : Nat) : Int) = 0 from rfl) (show ((0 : Nat) : Int) = 0 from rfl) (i3I (y := (1300 + ((Z 2 0 0 0) / 24))) (i3A (show (1300 : Int32) = i3 1300 from rfl) (i3D (zm_rd (Z := Z) (ν := ν) (k := 2) (show ((0 : Nat) : Int) = 0 from rfl) (show ((0 : Nat) : Int) = 0 from rfl) (show ((0 : Nat) : Int) = 0 from rfl)) (show (24 : Int32) = i3 24 from rfl) (by omega) (by omega) (by omega) (by omega))) (by omega) (by omega) (by omega))) (by omega) (by omega) (by omega) (by omega)) (fun h215 => ?_) (fun h215 => ?_)
          · replace hP := zE_p hP h215
            refine wz_i0 (i3O (n := 4400) (i3A (i3A (show (1210 : Int32) = i3 1210 from rfl) (i3M (show (12 : Int32) = i3 12 from rfl) (rfl : i3 a1 = i3 a1))) (show (7 : Int32) = i3 7 from rfl)) (by omega) (by omega) (by omega)) ?_
            have r216 := zM_f hZ214I 2 0 0 (1217 + 12 * a1)
            obtain ⟨Z217, hZ217⟩ := zx (zu Z214 2 0 0 (1217 + 12 * a1) ((Z214 2 0 0 (1217 + 12 * a1)) + 0))
            replace hP := zl_e hP hZ217
            have hZ217I := zM_u2 hZ214I hZ217 (lo := -2147483648) (hi := 2147483647) (zs_1210_7 (x := a1) (by omega) (by omega) (by omega)) (by omega) ⟨by decide, by decide⟩ (by simp only [zsp]; omega)
            have hZ217U : zU [] Z Z217 := zU_u hZ214U hZ217 (Or.inl rfl)
            have hZ217K : zC [2] Z Z217 := zC_u hZ214K hZ217 (zcl_2w (by omega) rfl)
            intro μ9 e9
            replace e9 := e9.trans (zm_wI (Z := Z214) (ν := ν) hZ217 (show ((0 : Nat) : Int) = 0 from rfl) (show ((0 : Nat) : Int) = 0 from rfl) (i3I (y := (1217 + 12 * a1)) (i3A (i3A (show (1210 : Int32) = i3 1210 from rfl) (i3M (show (12 : Int32) = i3 12 from rfl) (rfl : i3 a1 = i3 a1))) (show (7 : Int32) = i3 7 from rfl)) (by omega) (by omega) (by omega)) (i3A (zm_rd (Z := Z214) (ν := ν) (k := 2) (show ((0 : Nat) : Int) = 0 from rfl) (show ((0 : Nat) : Int) = 0 from rfl) (i3I (y := (1217 + 12 * a1)) (i3A (i3A (show (1210 : Int32) = i3 1210 from rfl) (i3M (show (12 : Int32) = i3 12 from rfl) (rfl : i3 a1 = i3 a1))) (show (7 : Int32) = i3 7 from rfl)) (by omega) (by omega) (by omega))) (show (0 : Int32) = i3 0 from rfl)))
            subst e9
            refine wz_i0 (i3O (n := 4400) (i3A (i3A (show (1210 : Int32) = i3 1210 from rfl) (i3M (show (12 : Int32) = i3 12 from rfl) (rfl : i3 a1 = i3 a1))) (show (8 : Int32) = i3 8 from rfl)) (by omega) (by omega) (by omega)) ?_
            refine wz_br (i3E (zm_rd (Z := Z) (ν := ν) (k := 2) (show ((0 : Nat) : Int) = 0 from rfl) (show ((0 : Nat) : Int) = 0 from rfl) (i3I (y := (1213 + 12 * a1)) (i3A (i3A (show (1210 : Int32) = i3 1210 from rfl) (i3M (show (12 : Int32) = i3 12 from rfl) (rfl : i3 a1 = i3 a1))) (show (3 : Int32) = i3 3 from rfl)) (by omega) (by omega) (by omega))) (zm_rd (Z := Z) (ν := ν) (k := 2) (show ((0 : Nat) : Int) = 0 from rfl) (show ((0 : Nat) : Int) = 0 from rfl) (i3I (y := (1300 + ((Z 2 0 0 0) / 24))) (i3A (show (1300 : Int32) = i3 1300 from rfl) (i3D (zm_rd (Z := Z) (ν := ν) (k := 2) (show ((0 : Nat) : Int) = 0 from rfl) (show ((0 : Nat) : Int) = 0 from rfl) (show ((0 : Nat) : Int) = 0 from rfl)) (show (24 : Int32) = i3 24 from rfl) (by omega) (by omega) (by omega) (by omega))) (by omega) (by omega) (by omega))) (by omega) (by omega) (by omega) (by omega)) (fun h218 => ?_) (fun h218 => ?_)
            · replace hP := zE_p hP h218
              refine wz_i0 (i3O (n := 4400) (i3A (i3A (show (1210 : Int32) = i3 1210 from rfl) (i3M (show (12 : Int32) = i3 12 from rfl) (rfl : i3 a1 = i3 a1))) (show (8 : Int32) = i3 8 from rfl)) (by omega) (by omega) (by omega)) ?_
              have r219 := zM_f hZ217I 2 0 0 (1218 + 12 * a1)
              obtain ⟨Z220, hZ220⟩ := zx (zu Z217 2 0 0 (1218 + 12 * a1) ((Z217 2 0 0 (1218 + 12 * a1)) + 0))
              replace hP := zl_e hP hZ220
              have hZ220I := zM_u2 hZ217I hZ220 (lo := -2147483648) (hi := 2147483647) (zs_1210_8 (x := a1) (by omega) (by omega) (by omega)) (by omega) ⟨by decide, by decide⟩ (by simp only [zsp]; omega)
              have hZ220U : zU [] Z Z220 := zU_u hZ217U hZ220 (Or.inl rfl)
              have hZ220K : zC [2] Z Z220 := zC_u hZ217K hZ220 (zcl_2w (by omega) rfl)
              intro μ9 e9
              replace e9 := e9.trans (zm_wI (Z := Z217) (ν := ν) hZ220 (show ((0 : Nat) : Int) = 0 from rfl) (show ((0 : Nat) : Int) = 0 from rfl) (i3I (y := (1218 + 12 * a1)) (i3A (i3A (show (1210 : Int32) = i3 1210 from rfl) (i3M (show (12 : Int32) = i3 12 from rfl) (rfl : i3 a1 = i3 a1))) (show (8 : Int32) = i3 8 from rfl)) (by omega) (by omega) (by omega)) (i3A (zm_rd (Z := Z217) (ν := ν) (k := 2) (show ((0 : Nat) : Int) = 0 from rfl) (show ((0 : Nat) : Int) = 0 from rfl) (i3I (y := (1218 + 12 * a1)) (i3A (i3A (show (1210 : Int32) = i3 1210 from rfl) (i3M (show (12 : Int32) = i3 12 from rfl) (rfl : i3 a1 = i3 a1))) (show (8 : Int32) = i3 8 from rfl)) (by omega) (by omega) (by omega))) (show (0 : Int32) = i3 0 from rfl)))
              subst e9
              refine wz_i0 (i3O (n := 4400) (i3A (i3A (show (1210 : Int32) = i3 1210 from rfl) (i3M (show (12 : Int32) = i3 12 from rfl) (rfl : i3 a1 = i3 a1))) (show (6 : Int32) = i3 6 from rfl)) (by omega) (by omega) (by omega)) ?_
              obtain ⟨Z221, hZ221⟩ := zx (zu Z220 2 0 0 (1216 + 12 * a1) 0)
              replace hP := zl_e hP hZ221
              have hZ221I := zM_z2 hZ220I hZ221 (by omega) (by omega) (by omega)
              have hZ221U : zU [] Z Z221 := zU_u hZ220U hZ221 (Or.inl rfl)
              have hZ221K : zC [2] Z Z221 := zC_u hZ220K hZ221 (zcl_2w (by omega) rfl)
              intro μ9 e9
              replace e9 := e9.trans (zm_wI (Z := Z220) (ν := ν) hZ221 (show ((0 : Nat) : Int) = 0 from rfl) (show ((0 : Nat) : Int) = 0 from rfl) (i3I (y := (1216 + 12 * a1)) (i3A (i3A (show (1210 : Int32) = i3 1210 from rfl) (i3M (show (12 : Int32) = i3 12 from rfl) (rfl : i3 a1 = i3 a1))) (show (6 : Int32) = i3 6 from rfl)) (by omega) (by omega) (by omega)) (show (0 : Int32) = i3 0 from rfl))
              subst e9
              exact zlV hP ⟨hZ221I, hZ221K, hZ221U⟩
            · replace hP := zE_n hP h218
              refine wz_i0 (i3O (n := 4400) (i3A (i3A (show (1210 : Int32) = i3 1210 from rfl) (i3M (show (12 : Int32) = i3 12 from rfl) (rfl : i3 a1 = i3 a1))) (show (8 : Int32) = i3 8 from rfl)) (by omega) (by omega) (by omega)) ?_
              have r222 := zM_f hZ217I 2 0 0 (1218 + 12 * a1)
              have r223 := w3_r ((Z217 2 0 0 (1218 + 12 * a1)) + 1)
              obtain ⟨Z224, hZ224⟩ := zx (zu Z217 2 0 0 (1218 + 12 * a1) (w3 ((Z217 2 0 0 (1218 + 12 * a1)) + 1)))
              replace hP := zl_e hP hZ224
              have hZ224I := zM_u2 hZ217I hZ224 (lo := -2147483648) (hi := 2147483647) (zs_1210_8 (x := a1) (by omega) (by omega) (by omega)) (by omega) ⟨by decide, by decide⟩ (by simp only [zsp]; omega)
              have hZ224U : zU [] Z Z224 := zU_u hZ217U hZ224 (Or.inl rfl)
              have hZ224K : zC [2] Z Z224 := zC_u hZ217K hZ224 (zcl_2w (by omega) rfl)
              intro μ9 e9
              replace e9 := e9.trans (zm_wI (Z := Z217) (ν := ν) hZ224 (show ((0 : Nat) : Int) = 0 from rfl) (show ((0 : Nat) : Int) = 0 from rfl) (i3I (y := (1218 + 12 * a1)) (i3A (i3A (show (1210 : Int32) = i3 1210 from rfl) (i3M (show (12 : Int32) = i3 12 from rfl) (rfl : i3 a1 = i3 a1))) (show (8 : Int32) = i3 8 from rfl)) (by omega) (by omega) (by omega)) (i3W (i3A (zm_rd (Z := Z217) (ν := ν) (k := 2) (show ((0 : Nat) : Int) = 0 from rfl) (show ((0 : Nat) : Int) = 0 from rfl) (i3I (y := (1218 + 12 * a1)) (i3A (i3A (show (1210 : Int32) = i3 1210 from rfl) (i3M (show (12 : Int32) = i3 12 from rfl) (rfl : i3 a1 = i3 a1))) (show (8 : Int32) = i3 8 from rfl)) (by omega) (by omega) (by omega))) (show (1 : Int32) = i3 1 from rfl))))
              subst e9
              refine wz_i0 (i3O (n := 4400) (i3A (i3A (show (1210 : Int32) = i3 1210 from rfl) (i3M (show (12 : Int32) = i3 12 from rfl) (rfl : i3 a1 = i3 a1))) (show (6 : Int32) = i3 6 from rfl)) (by omega) (by omega) (by omega)) ?_
              obtain ⟨Z225, hZ225⟩ := zx (zu Z224 2 0 0 (1216 + 12 * a1) 0)
              replace hP := zl_e hP hZ225
              have hZ225I := zM_z2 hZ224I hZ225 (by omega) (by omega) (by omega)
              have hZ225U : zU [] Z Z225 := zU_u hZ224U hZ225 (Or.inl rfl)
              have hZ225K : zC [2] Z Z225 := zC_u hZ224K hZ225 (zcl_2w (by omega) rfl)
              intro μ9 e9
              replace e9 := e9.trans (zm_wI (Z := Z224) (ν := ν) hZ225 (show ((0 : Nat) : Int) = 0 from rfl) (show ((0 : Nat) : Int) = 0 from rfl) (i3I (y := (1216 + 12 * a1)) (i3A (i3A (show (1210 : Int32) = i3 1210 from rfl) (i3M (show (12 : Int32) = i3 12 from rfl) (rfl : i3 a1 = i3 a1))) (show (6 : Int32) = i3 6 from rfl)) (by omega) (by omega) (by omega)) (show (0 : Int32) = i3 0 from rfl))
              subst e9
              exact zlV hP ⟨hZ225I, hZ225K, hZ225U⟩
          · replace hP := zE_n hP h215
            refine wz_i0 (i3O (n := 4400) (i3A (i3A (show (1210 : Int32) = i3 1210 from rfl) (i3M (show (12 : Int32) = i3 12 from rfl) (rfl : i3 a1 = i3 a1))) (show (7 : Int32) = i3 7 from rfl)) (by omega) (by omega) (by omega)) ?_
            have r226 := zM_f hZ214I 2 0 0 (1217 + 12 * a1)
            have r227 := w3_r ((Z214 2 0 0 (1217 + 12 * a1)) + 1)
            obtain ⟨Z228, hZ228⟩ := zx (zu Z214 2 0 0 (1217 + 12 * a1) (w3 ((Z214 2 0 0 (1217 + 12 * a1)) + 1)))
            replace hP := zl_e hP hZ228
            have hZ228I := zM_u2 hZ214I hZ228 (lo := -2147483648) (hi := 2147483647) (zs_1210_7 (x := a1) (by omega) (by omega) (by omega)) (by omega) ⟨by decide, by decide⟩ (by simp only [zsp]; omega)
            have hZ228U : zU [] Z Z228 := zU_u hZ214U hZ228 (Or.inl rfl)
            have hZ228K : zC [2] Z Z228 := zC_u hZ214K hZ228 (zcl_2w (by omega) rfl)
            intro μ9 e9
            replace e9 := e9.trans (zm_wI (Z := Z214) (ν := ν) hZ228 (show ((0 : Nat) : Int) = 0 from rfl) (show ((0 : Nat) : Int) = 0 from rfl) (i3I (y := (1217 + 12 * a1)) (i3A (i3A (show (1210 : Int32) = i3 1210 from rfl) (i3M (show (12 : Int32) = i3 12 from rfl) (rfl : i3 a1 = i3 a1))) (show (7 : Int32) = i3 7 from rfl)) (by omega) (by omega) (by omega)) (i3W (i3A (zm_rd (Z := Z214) (ν := ν) (k := 2) (show ((0 : Nat) : Int) = 0 from rfl) (show ((0 : Nat) : Int) = 0 from rfl) (i3I (y := (1217 + 12 * a1)) (i3A (i3A (show (1210 : Int32) = i3 1210 from rfl) (i3M (show (12 : Int32) = i3 12 from rfl) (rfl : i3 a1 = i3 a1))) (show (7 : Int32) = i3 7 from rfl)) (by omega) (by omega) (by omega))) (show (1 : Int32) = i3 1 from rfl))))
            subst e9
            refine wz_i0 (i3O (n := 4400) (i3A (i3A (show (1210 : Int32) = i3 1210 from rfl) (i3M (show (12 : Int32) = i3 12 from rfl) (rfl : i3 a1 = i3 a1))) (show (8 : Int32) = i3 8 from rfl)) (by omega) (by omega) (by omega)) ?_
            refine wz_br (i3E (zm_rd (Z := Z) (ν := ν) (k := 2) (show ((0 : Nat) : Int) = 0 from rfl) (show ((0 : Nat) : Int) = 0 from rfl) (i3I (y := (1213 + 12 * a1)) (i3A (i3A (show (1210 : Int32) = i3 1210 from rfl) (i3M (show (12 : Int32) = i3 12 from rfl) (rfl : i3 a1 = i3 a1))) (show (3 : Int32) = i3 3 from rfl)) (by omega) (by omega) (by omega))) (zm_rd (Z := Z) (ν := ν) (k := 2) (show ((0 : Nat) : Int) = 0 from rfl) (show ((0 : Nat) : Int) = 0 from rfl) (i3I (y := (1300 + ((Z 2 0 0 0) / 24))) (i3A (show (1300 : Int32) = i3 1300 from rfl) (i3D (zm_rd (Z := Z) (ν := ν) (k := 2) (show ((0 : Nat) : Int) = 0 from rfl) (show ((0 : Nat) : Int) = 0 from rfl) (show ((0 : Nat) : Int) = 0 from rfl)) (show (24 : Int32) = i3 24 from rfl) (by omega) (by omega) (by omega) (by omega))) (by omega) (by omega) (by omega))) (by omega) (by omega) (by omega) (by omega)) (fun h229 => ?_) (fun h229 => ?_)
            · replace hP := zE_p hP h229
              refine wz_i0 (i3O (n := 4400) (i3A (i3A (show (1210 : Int32) = i3 1210 from rfl) (i3M (show (12 : Int32) = i3 12 from rfl) (rfl : i3 a1 = i3 a1))) (show (8 : Int32) = i3 8 from rfl)) (by omega) (by omega) (by omega)) ?_
              have r230 := zM_f hZ228I 2 0 0 (1218 + 12 * a1)
              obtain ⟨Z231, hZ231⟩ := zx (zu Z228 2 0 0 (1218 + 12 * a1) ((Z228 2 0 0 (1218 + 12 * a1)) + 0))
              replace hP := zl_e hP hZ231
              have hZ231I := zM_u2 hZ228I hZ231 (lo := -2147483648) (hi := 2147483647) (zs_1210_8 (x := a1) (by omega) (by omega) (by omega)) (by omega) ⟨by decide, by decide⟩ (by simp only [zsp]; omega)
              have hZ231U : zU [] Z Z231 := zU_u hZ228U hZ231 (Or.inl rfl)
              have hZ231K : zC [2] Z Z231 := zC_u hZ228K hZ231 (zcl_2w (by omega) rfl)
              intro μ9 e9
              replace e9 := e9.trans (zm_wI (Z := Z228) (ν := ν) hZ231 (show ((0 : Nat) : Int) = 0 from rfl) (show ((0 : Nat) : Int) = 0 from rfl) (i3I (y := (1218 + 12 * a1)) (i3A (i3A (show (1210 : Int32) = i3 1210 from rfl) (i3M (show (12 : Int32) = i3 12 from rfl) (rfl : i3 a1 = i3 a1))) (show (8 : Int32) = i3 8 from rfl)) (by omega) (by omega) (by omega)) (i3A (zm_rd (Z := Z228) (ν := ν) (k := 2) (show ((0 : Nat) : Int) = 0 from rfl) (show ((0 : Nat) : Int) = 0 from rfl) (i3I (y := (1218 + 12 * a1)) (i3A (i3A (show (1210 : Int32) = i3 1210 from rfl) (i3M (show (12 : Int32) = i3 12 from rfl) (rfl : i3 a1 = i3 a1))) (show (8 : Int32) = i3 8 from rfl)) (by omega) (by omega) (by omega))) (show (0 : Int32) = i3 0 from rfl)))
              subst e9
              refine wz_i0 (i3O (n := 4400) (i3A (i3A (show (1210 : Int32) = i3 1210 from rfl) (i3M (show (12 : Int32) = i3 12 from rfl) (rfl : i3 a1 = i3 a1))) (show (6 : Int32) = i3 6 from rfl)) (by omega) (by omega) (by omega)) ?_
              obtain ⟨Z232, hZ232⟩ := zx (zu Z231 2 0 0 (1216 + 12 * a1) 0)
              replace hP := zl_e hP hZ232
              have hZ232I := zM_z2 hZ231I hZ232 (by omega) (by omega) (by omega)
              have hZ232U : zU [] Z Z232 := zU_u hZ231U hZ232 (Or.inl rfl)
              have hZ232K : zC [2] Z Z232 := zC_u hZ231K hZ232 (zcl_2w (by omega) rfl)
              intro μ9 e9
              replace e9 := e9.trans (zm_wI (Z := Z231) (ν := ν) hZ232 (show ((0 : Nat) : Int) = 0 from rfl) (show ((0 : Nat) : Int) = 0 from rfl) (i3I (y := (1216 + 12 * a1)) (i3A (i3A (show (1210 : Int32) = i3 1210 from rfl) (i3M (show (12 : Int32) = i3 12 from rfl) (rfl : i3 a1 = i3 a1))) (show (6 : Int32) = i3 6 from rfl)) (by omega) (by omega) (by omega)) (show (0 : Int32) = i3 0 from rfl))
              subst e9
              exact zlV hP ⟨hZ232I, hZ232K, hZ232U⟩
            · replace hP := zE_n hP h229
              refine wz_i0 (i3O (n := 4400) (i3A (i3A (show (1210 : Int32) = i3 1210 from rfl) (i3M (show (12 : Int32) = i3 12 from rfl) (rfl : i3 a1 = i3 a1))) (show (8 : Int32) = i3 8 from rfl)) (by omega) (by omega) (by omega)) ?_
              have r233 := zM_f hZ228I 2 0 0 (1218 + 12 * a1)
              have r234 := w3_r ((Z228 2 0 0 (1218 + 12 * a1)) + 1)
              obtain ⟨Z235, hZ235⟩ := zx (zu Z228 2 0 0 (1218 + 12 * a1) (w3 ((Z228 2 0 0 (1218 + 12 * a1)) + 1)))
              replace hP := zl_e hP hZ235
              have hZ235I := zM_u2 hZ228I hZ235 (lo := -2147483648) (hi := 2147483647) (zs_1210_8 (x := a1) (by omega) (by omega) (by omega)) (by omega) ⟨by decide, by decide⟩ (by simp only [zsp]; omega)
              have hZ235U : zU [] Z Z235 := zU_u hZ228U hZ235 (Or.inl rfl)
              have hZ235K : zC [2] Z Z235 := zC_u hZ228K hZ235 (zcl_2w (by omega) rfl)
              intro μ9 e9
              replace e9 := e9.trans (zm_wI (Z := Z228) (ν := ν) hZ235 (show ((0 : Nat) : Int) = 0 from rfl) (show ((0 : Nat) : Int) = 0 from rfl) (i3I (y := (1218 + 12 * a1)) (i3A (i3A (show (1210 : Int32) = i3 1210 from rfl) (i3M (show (12 : Int32) = i3 12 from rfl) (rfl : i3 a1 = i3 a1))) (show (8 : Int32) = i3 8 from rfl)) (by omega) (by omega) (by omega)) (i3W (i3A (zm_rd (Z := Z228) (ν := ν) (k := 2) (show ((0 : Nat) : Int) = 0 from rfl) (show ((0 : Nat) : Int) = 0 from rfl) (i3I (y := (1218 + 12 * a1)) (i3A (i3A (show (1210 : Int32) = i3 1210 from rfl) (i3M (show (12 : Int32) = i3 12 from rfl) (rfl : i3 a1 = i3 a1))) (show (8 : Int32) = i3 8 from rfl)) (by omega) (by omega) (by omega))) (show (1 : Int32) = i3 1 from rfl))))
              subst e9
              refine wz_i0 (i3O (n := 4400) (i3A (i3A (show (1210 : Int32) = i3 1210 from rfl) (i3M (show (12 : Int32) = i3 12 from rfl) (rfl : i3 a1 = i3 a1))) (show (6 : Int32) = i3 6 from rfl)) (by omega) (by omega) (by omega)) ?_
              obtain ⟨Z236, hZ236⟩ := zx (zu Z235 2 0 0 (1216 + 12 * a1) 0)
              replace hP := zl_e hP hZ236
              have hZ236I := zM_z2 hZ235I hZ236 (by omega) (by omega) (by omega)
              have hZ236U : zU [] Z Z236 := zU_u hZ235U hZ236 (Or.inl rfl)
              have hZ236K : zC [2] Z Z236 := zC_u hZ235K hZ236 (zcl_2w (by omega) rfl)
              intro μ9 e9
              replace e9 := e9.trans (zm_wI (Z := Z235) (ν := ν) hZ236 (show ((0 : Nat) : Int) = 0 from rfl) (show ((0 : Nat) : Int) = 0 from rfl) (i3I (y := (1216 + 12 * a1)) (i3A (i3A (show (1210 : Int32) = i3 1210 from rfl) (i3M (show (12 : Int32) = i3 12 from rfl) (rfl : i3 a1 = i3 a1))) (show (6 : Int32) = i3 6 from rfl)) (by omega) (by omega) (by omega)) (show (0 : Int32) = i3 0 from rfl))
              subst e9
              exact zlV hP ⟨hZ236I, hZ236K, hZ236U⟩
        · replace hP := zE_n hP h213
          refine wz_i0 (i3O (n := 4400) (i3A (i3A (show (1210 : Int32) = i3 1210 from rfl) (i3M (show (12 : Int32) = i3 12 from rfl) (rfl : i3 a1 = i3 a1))) (show (5 : Int32) = i3 5 from rfl)) (by omega) (by omega) (by omega)) ?_
          obtain ⟨Z237, hZ237⟩ := zx (zu Z 2 0 0 (1215 + 12 * a1) ((Z 2 0 0 (1300 + ((Z 2 0 0 0) / 24))) + (Z 2 0 0 (1211 + 12 * a1))))
          replace hP := zl_e hP hZ237
          have hZ237I := zM_u2 hZ hZ237 (lo := 0) (hi := 40) (zs_1210_5 (x := a1) (by omega) (by omega) (by omega)) (by omega) ⟨by decide, by decide⟩ (by simp only [zsp]; omega)
          have hZ237U : zU [] Z Z237 := zU_u zU_r hZ237 (Or.inl rfl)
          have hZ237K : zC [2] Z Z237 := zC_u zC_r hZ237 (zcl_2w (by omega) rfl)
          intro μ9 e9
          replace e9 := e9.trans (zm_wI (Z := Z) (ν := ν) hZ237 (show ((0 : Nat) : Int) = 0 from rfl) (show ((0 : Nat) : Int) = 0 from rfl) (i3I (y := (1215 + 12 * a1)) (i3A (i3A (show (1210 : Int32) = i3 1210 from rfl) (i3M (show (12 : Int32) = i3 12 from rfl) (rfl : i3 a1 = i3 a1))) (show (5 : Int32) = i3 5 from rfl)) (by omega) (by omega) (by omega)) (i3A (zm_rd (Z := Z) (ν := ν) (k := 2) (show ((0 : Nat) : Int) = 0 from rfl) (show ((0 : Nat) : Int) = 0 from rfl) (i3I (y := (1300 + ((Z 2 0 0 0) / 24))) (i3A (show (1300 : Int32) = i3 1300 from rfl) (i3D (zm_rd (Z := Z) (ν := ν) (k := 2) (show ((0 : Nat) : Int) = 0 from rfl) (show ((0 : Nat) : Int) = 0 from rfl) (show ((0 : Nat) : Int) = 0 from rfl)) (show (24 : Int32) = i3 24 from rfl) (by omega) (by omega) (by omega) (by omega))) (by omega) (by omega) (by omega))) (zm_rd (Z := Z) (ν := ν) (k := 2) (show ((0 : Nat) : Int) = 0 from rfl) (show ((0 : Nat) : Int) = 0 from rfl) (i3I (y := (1211 + 12 * a1)) (i3A (i3A (show (1210 : Int32) = i3 1210 from rfl) (i3M (show (12 : Int32) = i3 12 from rfl) (rfl : i3 a1 = i3 a1))) (show (1 : Int32) = i3 1 from rfl)) (by omega) (by omega) (by omega)))))
          subst e9
          refine wz_i0 (i3O (n := 4400) (i3A (i3A (show (1210 : Int32) = i3 1210 from rfl) (i3M (show (12 : Int32) = i3 12 from rfl) (rfl : i3 a1 = i3 a1))) (show (7 : Int32) = i3 7 from rfl)) (by omega) (by omega) (by omega)) ?_
          refine wz_br (i3E (i3A (zm_rd (Z := Z) (ν := ν) (k := 2) (show ((0 : Nat) : Int) = 0 from rfl) (show ((0 : Nat) : Int) = 0 from rfl) (i3I (y := (1300 + ((Z 2 0 0 0) / 24))) (i3A (show (1300 : Int32) = i3 1300 from rfl) (i3D (zm_rd (Z := Z) (ν := ν) (k := 2) (show ((0 : Nat) : Int) = 0 from rfl) (show ((0 : Nat) : Int) = 0 from rfl) (show ((0 : Nat) : Int) = 0 from rfl)) (show (24 : Int32) = i3 24 from rfl) (by omega) (by omega) (by omega) (by omega))) (by omega) (by omega) (by omega))) (zm_rd (Z := Z) (ν := ν) (k := 2) (show ((0 : Nat) : Int) = 0 from rfl) (show ((0 : Nat) : Int) = 0 from rfl) (i3I (y := (1211 + 12 * a1)) (i3A (i3A (show (1210 : Int32) = i3 1210 from rfl) (i3M (show (12 : Int32) = i3 12 from rfl) (rfl : i3 a1 = i3 a1))) (show (1 : Int32) = i3 1 from rfl)) (by omega) (by omega) (by omega)))) (zm_rd (Z := Z) (ν := ν) (k := 2) (show ((0 : Nat) : Int) = 0 from rfl) (show ((0 : Nat) : Int) = 0 from rfl) (i3I (y := (1300 + ((Z 2 0 0 0) / 24))) (i3A (show (1300 : Int32) = i3 1300 from rfl) (i3D (zm_rd (Z := Z) (ν := ν) (k := 2) (show ((0 : Nat) : Int) = 0 from rfl) (show ((0 : Nat) : Int) = 0 from rfl) (show ((0 : Nat) : Int) = 0 from rfl)) (show (24 : Int32) = i3 24 from rfl) (by omega) (by omega) (by omega) (by omega))) (by omega) (by omega) (by omega))) (by omega) (by omega) (by omega) (by omega)) (fun h238 => ?_) (fun h238 => ?_)
          · replace hP := zE_p hP h238
            refine wz_i0 (i3O (n := 4400) (i3A (i3A (show (1210 : Int32) = i3 1210 from rfl) (i3M (show (12 : Int32) = i3 12 from rfl) (rfl : i3 a1 = i3 a1))) (show (7 : Int32) = i3 7 from rfl)) (by omega) (by omega) (by omega)) ?_
            have r239 := zM_f hZ237I 2 0 0 (1217 + 12 * a1)
            obtain ⟨Z240, hZ240⟩ := zx (zu Z237 2 0 0 (1217 + 12 * a1) ((Z237 2 0 0 (1217 + 12 * a1)) + 0))
            replace hP := zl_e hP hZ240
            have hZ240I := zM_u2 hZ237I hZ240 (lo := -2147483648) (hi := 2147483647) (zs_1210_7 (x := a1) (by omega) (by omega) (by omega)) (by omega) ⟨by decide, by decide⟩ (by simp only [zsp]; omega)
            have hZ240U : zU [] Z Z240 := zU_u hZ237U hZ240 (Or.inl rfl)
            have hZ240K : zC [2] Z Z240 := zC_u hZ237K hZ240 (zcl_2w (by omega) rfl)
            intro μ9 e9
            replace e9 := e9.trans (zm_wI (Z := Z237) (ν := ν) hZ240 (show ((0 : Nat) : Int) = 0 from rfl) (show ((0 : Nat) : Int) = 0 from rfl) (i3I (y := (1217 + 12 * a1)) (i3A (i3A (show (1210 : Int32) = i3 1210 from rfl) (i3M (show (12 : Int32) = i3 12 from rfl) (rfl : i3 a1 = i3 a1))) (show (7 : Int32) = i3 7 from rfl)) (by omega) (by omega) (by omega)) (i3A (zm_rd (Z := Z237) (ν := ν) (k := 2) (show ((0 : Nat) : Int) = 0 from rfl) (show ((0 : Nat) : Int) = 0 from rfl) (i3I (y := (1217 + 12 * a1)) (i3A (i3A (show (1210 : Int32) = i3 1210 from rfl) (i3M (show (12 : Int32) = i3 12 from rfl) (rfl : i3 a1 = i3 a1))) (show (7 : Int32) = i3 7 from rfl)) (by omega) (by omega) (by omega))) (show (0 : Int32) = i3 0 from rfl)))
            subst e9
            refine wz_i0 (i3O (n := 4400) (i3A (i3A (show (1210 : Int32) = i3 1210 from rfl) (i3M (show (12 : Int32) = i3 12 from rfl) (rfl : i3 a1 = i3 a1))) (show (8 : Int32) = i3 8 from rfl)) (by omega) (by omega) (by omega)) ?_
            refine wz_i1 (Eq.trans (i3E (i3A (zm_rd (Z := Z) (ν := ν) (k := 2) (show ((0 : Nat) : Int) = 0 from rfl) (show ((0 : Nat) : Int) = 0 from rfl) (i3I (y := (1300 + ((Z 2 0 0 0) / 24))) (i3A (show (1300 : Int32) = i3 1300 from rfl) (i3D (zm_rd (Z := Z) (ν := ν) (k := 2) (show ((0 : Nat) : Int) = 0 from rfl) (show ((0 : Nat) : Int) = 0 from rfl) (show ((0 : Nat) : Int) = 0 from rfl)) (show (24 : Int32) = i3 24 from rfl) (by omega) (by omega) (by omega) (by omega))) (by omega) (by omega) (by omega))) (zm_rd (Z := Z) (ν := ν) (k := 2) (show ((0 : Nat) : Int) = 0 from rfl) (show ((0 : Nat) : Int) = 0 from rfl) (i3I (y := (1211 + 12 * a1)) (i3A (i3A (show (1210 : Int32) = i3 1210 from rfl) (i3M (show (12 : Int32) = i3 12 from rfl) (rfl : i3 a1 = i3 a1))) (show (1 : Int32) = i3 1 from rfl)) (by omega) (by omega) (by omega)))) (zm_rd (Z := Z) (ν := ν) (k := 2) (show ((0 : Nat) : Int) = 0 from rfl) (show ((0 : Nat) : Int) = 0 from rfl) (i3I (y := (1300 + ((Z 2 0 0 0) / 24))) (i3A (show (1300 : Int32) = i3 1300 from rfl) (i3D (zm_rd (Z := Z) (ν := ν) (k := 2) (show ((0 : Nat) : Int) = 0 from rfl) (show ((0 : Nat) : Int) = 0 from rfl) (show ((0 : Nat) : Int) = 0 from rfl)) (show (24 : Int32) = i3 24 from rfl) (by omega) (by omega) (by omega) (by omega))) (by omega) (by omega) (by omega))) (by omega) (by omega) (by omega) (by omega)) (decide_eq_true (by omega))) ?_
            refine wz_i0 (i3O (n := 4400) (i3A (i3A (show (1210 : Int32) = i3 1210 from rfl) (i3M (show (12 : Int32) = i3 12 from rfl) (rfl : i3 a1 = i3 a1))) (show (8 : Int32) = i3 8 from rfl)) (by omega) (by omega) (by omega)) ?_
            have r241 := zM_f hZ240I 2 0 0 (1218 + 12 * a1)
            obtain ⟨Z242, hZ242⟩ := zx (zu Z240 2 0 0 (1218 + 12 * a1) ((Z240 2 0 0 (1218 + 12 * a1)) + 0))
            replace hP := zl_e hP hZ242
            have hZ242I := zM_u2 hZ240I hZ242 (lo := -2147483648) (hi := 2147483647) (zs_1210_8 (x := a1) (by omega) (by omega) (by omega)) (by omega) ⟨by decide, by decide⟩ (by simp only [zsp]; omega)
            have hZ242U : zU [] Z Z242 := zU_u hZ240U hZ242 (Or.inl rfl)
            have hZ242K : zC [2] Z Z242 := zC_u hZ240K hZ242 (zcl_2w (by omega) rfl)
            intro μ9 e9
            replace e9 := e9.trans (zm_wI (Z := Z240) (ν := ν) hZ242 (show ((0 : Nat) : Int) = 0 from rfl) (show ((0 : Nat) : Int) = 0 from rfl) (i3I (y := (1218 + 12 * a1)) (i3A (i3A (show (1210 : Int32) = i3 1210 from rfl) (i3M (show (12 : Int32) = i3 12 from rfl) (rfl : i3 a1 = i3 a1))) (show (8 : Int32) = i3 8 from rfl)) (by omega) (by omega) (by omega)) (i3A (zm_rd (Z := Z240) (ν := ν) (k := 2) (show ((0 : Nat) : Int) = 0 from rfl) (show ((0 : Nat) : Int) = 0 from rfl) (i3I (y := (1218 + 12 * a1)) (i3A (i3A (show (1210 : Int32) = i3 1210 from rfl) (i3M (show (12 : Int32) = i3 12 from rfl) (rfl : i3 a1 = i3 a1))) (show (8 : Int32) = i3 8 from rfl)) (by omega) (by omega) (by omega))) (show (0 : Int32) = i3 0 from rfl)))
            subst e9
            refine wz_i0 (i3O (n := 4400) (i3A (i3A (show (1210 : Int32) = i3 1210 from rfl) (i3M (show (12 : Int32) = i3 12 from rfl) (rfl : i3 a1 = i3 a1))) (show (6 : Int32) = i3 6 from rfl)) (by omega) (by omega) (by omega)) ?_
            obtain ⟨Z243, hZ243⟩ := zx (zu Z242 2 0 0 (1216 + 12 * a1) 0)
            replace hP := zl_e hP hZ243
            have hZ243I := zM_z2 hZ242I hZ243 (by omega) (by omega) (by omega)
            have hZ243U : zU [] Z Z243 := zU_u hZ242U hZ243 (Or.inl rfl)
            have hZ243K : zC [2] Z Z243 := zC_u hZ242K hZ243 (zcl_2w (by omega) rfl)
            intro μ9 e9
            replace e9 := e9.trans (zm_wI (Z := Z242) (ν := ν) hZ243 (show ((0 : Nat) : Int) = 0 from rfl) (show ((0 : Nat) : Int) = 0 from rfl) (i3I (y := (1216 + 12 * a1)) (i3A (i3A (show (1210 : Int32) = i3 1210 from rfl) (i3M (show (12 : Int32) = i3 12 from rfl) (rfl : i3 a1 = i3 a1))) (show (6 : Int32) = i3 6 from rfl)) (by omega) (by omega) (by omega)) (show (0 : Int32) = i3 0 from rfl))
            subst e9
            exact zlV hP ⟨hZ243I, hZ243K, hZ243U⟩
          · replace hP := zE_n hP h238
            refine wz_i0 (i3O (n := 4400) (i3A (i3A (show (1210 : Int32) = i3 1210 from rfl) (i3M (show (12 : Int32) = i3 12 from rfl) (rfl : i3 a1 = i3 a1))) (show (7 : Int32) = i3 7 from rfl)) (by omega) (by omega) (by omega)) ?_
            have r244 := zM_f hZ237I 2 0 0 (1217 + 12 * a1)
            have r245 := w3_r ((Z237 2 0 0 (1217 + 12 * a1)) + 1)
            obtain ⟨Z246, hZ246⟩ := zx (zu Z237 2 0 0 (1217 + 12 * a1) (w3 ((Z237 2 0 0 (1217 + 12 * a1)) + 1)))
            replace hP := zl_e hP hZ246
            have hZ246I := zM_u2 hZ237I hZ246 (lo := -2147483648) (hi := 2147483647) (zs_1210_7 (x := a1) (by omega) (by omega) (by omega)) (by omega) ⟨by decide, by decide⟩ (by simp only [zsp]; omega)
            have hZ246U : zU [] Z Z246 := zU_u hZ237U hZ246 (Or.inl rfl)
            have hZ246K : zC [2] Z Z246 := zC_u hZ237K hZ246 (zcl_2w (by omega) rfl)
            intro μ9 e9
            replace e9 := e9.trans (zm_wI (Z := Z237) (ν := ν) hZ246 (show ((0 : Nat) : Int) = 0 from rfl) (show ((0 : Nat) : Int) = 0 from rfl) (i3I (y := (1217 + 12 * a1)) (i3A (i3A (show (1210 : Int32) = i3 1210 from rfl) (i3M (show (12 : Int32) = i3 12 from rfl) (rfl : i3 a1 = i3 a1))) (show (7 : Int32) = i3 7 from rfl)) (by omega) (by omega) (by omega)) (i3W (i3A (zm_rd (Z := Z237) (ν := ν) (k := 2) (show ((0 : Nat) : Int) = 0 from rfl) (show ((0 : Nat) : Int) = 0 from rfl) (i3I (y := (1217 + 12 * a1)) (i3A (i3A (show (1210 : Int32) = i3 1210 from rfl) (i3M (show (12 : Int32) = i3 12 from rfl) (rfl : i3 a1 = i3 a1))) (show (7 : Int32) = i3 7 from rfl)) (by omega) (by omega) (by omega))) (show (1 : Int32) = i3 1 from rfl))))
            subst e9
            refine wz_i0 (i3O (n := 4400) (i3A (i3A (show (1210 : Int32) = i3 1210 from rfl) (i3M (show (12 : Int32) = i3 12 from rfl) (rfl : i3 a1 = i3 a1))) (show (8 : Int32) = i3 8 from rfl)) (by omega) (by omega) (by omega)) ?_
            refine wz_i0 (Eq.trans (i3E (i3A (zm_rd (Z := Z) (ν := ν) (k := 2) (show ((0 : Nat) : Int) = 0 from rfl) (show ((0 : Nat) : Int) = 0 from rfl) (i3I (y := (1300 + ((Z 2 0 0 0) / 24))) (i3A (show (1300 : Int32) = i3 1300 from rfl) (i3D (zm_rd (Z := Z) (ν := ν) (k := 2) (show ((0 : Nat) : Int) = 0 from rfl) (show ((0 : Nat) : Int) = 0 from rfl) (show ((0 : Nat) : Int) = 0 from rfl)) (show (24 : Int32) = i3 24 from rfl) (by omega) (by omega) (by omega) (by omega))) (by omega) (by omega) (by omega))) (zm_rd (Z := Z) (ν := ν) (k := 2) (show ((0 : Nat) : Int) = 0 from rfl) (show ((0 : Nat) : Int) = 0 from rfl) (i3I (y := (1211 + 12 * a1)) (i3A (i3A (show (1210 : Int32) = i3 1210 from rfl) (i3M (show (12 : Int32) = i3 12 from rfl) (rfl : i3 a1 = i3 a1))) (show (1 : Int32) = i3 1 from rfl)) (by omega) (by omega) (by omega)))) (zm_rd (Z := Z) (ν := ν) (k := 2) (show ((0 : Nat) : Int) = 0 from rfl) (show ((0 : Nat) : Int) = 0 from rfl) (i3I (y := (1300 + ((Z 2 0 0 0) / 24))) (i3A (show (1300 : Int32) = i3 1300 from rfl) (i3D (zm_rd (Z := Z) (ν := ν) (k := 2) (show ((0 : Nat) : Int) = 0 from rfl) (show ((0 : Nat) : Int) = 0 from rfl) (show ((0 : Nat) : Int) = 0 from rfl)) (show (24 : Int32) = i3 24 from rfl) (by omega) (by omega) (by omega) (by omega))) (by omega) (by omega) (by omega))) (by omega) (by omega) (by omega) (by omega)) (decide_eq_false (by omega))) ?_
            refine wz_i0 (i3O (n := 4400) (i3A (i3A (show (1210 : Int32) = i3 1210 from rfl) (i3M (show (12 : Int32) = i3 12 from rfl) (rfl : i3 a1 = i3 a1))) (show (8 : Int32) = i3 8 from rfl)) (by omega) (by omega) (by omega)) ?_
            have r247 := zM_f hZ246I 2 0 0 (1218 + 12 * a1)
            have r248 := w3_r ((Z246 2 0 0 (1218 + 12 * a1)) + 1)
            obtain ⟨Z249, hZ249⟩ := zx (zu Z246 2 0 0 (1218 + 12 * a1) (w3 ((Z246 2 0 0 (1218 + 12 * a1)) + 1)))
            replace hP := zl_e hP hZ249
            have hZ249I := zM_u2 hZ246I hZ249 (lo := -2147483648) (hi := 2147483647) (zs_1210_8 (x := a1) (by omega) (by omega) (by omega)) (by omega) ⟨by decide, by decide⟩ (by simp only [zsp]; omega)
            have hZ249U : zU [] Z Z249 := zU_u hZ246U hZ249 (Or.inl rfl)
            have hZ249K : zC [2] Z Z249 := zC_u hZ246K hZ249 (zcl_2w (by omega) rfl)
            intro μ9 e9
            replace e9 := e9.trans (zm_wI (Z := Z246) (ν := ν) hZ249 (show ((0 : Nat) : Int) = 0 from rfl) (show ((0 : Nat) : Int) = 0 from rfl) (i3I (y := (1218 + 12 * a1)) (i3A (i3A (show (1210 : Int32) = i3 1210 from rfl) (i3M (show (12 : Int32) = i3 12 from rfl) (rfl : i3 a1 = i3 a1))) (show (8 : Int32) = i3 8 from rfl)) (by omega) (by omega) (by omega)) (i3W (i3A (zm_rd (Z := Z246) (ν := ν) (k := 2) (show ((0 : Nat) : Int) = 0 from rfl) (show ((0 : Nat) : Int) = 0 from rfl) (i3I (y := (1218 + 12 * a1)) (i3A (i3A (show (1210 : Int32) = i3 1210 from rfl) (i3M (show (12 : Int32) = i3 12 from rfl) (rfl : i3 a1 = i3 a1))) (show (8 : Int32) = i3 8 from rfl)) (by omega) (by omega) (by omega))) (show (1 : Int32) = i3 1 from rfl))))
            subst e9
            refine wz_i0 (i3O (n := 4400) (i3A (i3A (show (1210 : Int32) = i3 1210 from rfl) (i3M (show (12 : Int32) = i3 12 from rfl) (rfl : i3 a1 = i3 a1))) (show (6 : Int32) = i3 6 from rfl)) (by omega) (by omega) (by omega)) ?_
            obtain ⟨Z250, hZ250⟩ := zx (zu Z249 2 0 0 (1216 + 12 * a1) 0)
            replace hP := zl_e hP hZ250
            have hZ250I := zM_z2 hZ249I hZ250 (by omega) (by omega) (by omega)
            have hZ250U : zU [] Z Z250 := zU_u hZ249U hZ250 (Or.inl rfl)
            have hZ250K : zC [2] Z Z250 := zC_u hZ249K hZ250 (zcl_2w (by omega) rfl)
            intro μ9 e9
            replace e9 := e9.trans (zm_wI (Z := Z249) (ν := ν) hZ250 (show ((0 : Nat) : Int) = 0 from rfl) (show ((0 : Nat) : Int) = 0 from rfl) (i3I (y := (1216 + 12 * a1)) (i3A (i3A (show (1210 : Int32) = i3 1210 from rfl) (i3M (show (12 : Int32) = i3 12 from rfl) (rfl : i3 a1 = i3 a1))) (show (6 : Int32) = i3 6 from rfl)) (by omega) (by omega) (by omega)) (show (0 : Int32) = i3 0 from rfl))
            subst e9
            exact zlV hP ⟨hZ250I, hZ250K, hZ250U⟩
    · replace hP := zE_n hP h170
      refine wz_i0 (i3O (n := 4400) (i3A (i3A (show (1210 : Int32) = i3 1210 from rfl) (i3M (show (12 : Int32) = i3 12 from rfl) (rfl : i3 a1 = i3 a1))) (show (3 : Int32) = i3 3 from rfl)) (by omega) (by omega) (by omega)) ?_
      refine wz_i0 (i3O (n := 4400) (i3A (i3A (show (1210 : Int32) = i3 1210 from rfl) (i3M (show (12 : Int32) = i3 12 from rfl) (rfl : i3 a1 = i3 a1))) (show (1 : Int32) = i3 1 from rfl)) (by omega) (by omega) (by omega)) ?_
      have r251 := zM_k hZ 2 0 0 (1213 + 12 * a1) (lo := 0) (hi := 40) (by decide) (zs_1210_3 (x := a1) (by omega) (by omega) (by omega))
      refine wz_br (i3Le (zm_rd (Z := Z) (ν := ν) (k := 2) (show ((0 : Nat) : Int) = 0 from rfl) (show ((0 : Nat) : Int) = 0 from rfl) (i3I (y := (1213 + 12 * a1)) (i3A (i3A (show (1210 : Int32) = i3 1210 from rfl) (i3M (show (12 : Int32) = i3 12 from rfl) (rfl : i3 a1 = i3 a1))) (show (3 : Int32) = i3 3 from rfl)) (by omega) (by omega) (by omega))) (i3A (zm_rd (Z := Z) (ν := ν) (k := 2) (show ((0 : Nat) : Int) = 0 from rfl) (show ((0 : Nat) : Int) = 0 from rfl) (i3I (y := (1215 + 12 * a1)) (i3A (i3A (show (1210 : Int32) = i3 1210 from rfl) (i3M (show (12 : Int32) = i3 12 from rfl) (rfl : i3 a1 = i3 a1))) (show (5 : Int32) = i3 5 from rfl)) (by omega) (by omega) (by omega))) (i3A (zm_rd (Z := Z) (ν := ν) (k := 2) (show ((0 : Nat) : Int) = 0 from rfl) (show ((0 : Nat) : Int) = 0 from rfl) (i3I (y := (1212 + 12 * a1)) (i3A (i3A (show (1210 : Int32) = i3 1210 from rfl) (i3M (show (12 : Int32) = i3 12 from rfl) (rfl : i3 a1 = i3 a1))) (show (2 : Int32) = i3 2 from rfl)) (by omega) (by omega) (by omega))) (zm_rd (Z := Z) (ν := ν) (k := 2) (show ((0 : Nat) : Int) = 0 from rfl) (show ((0 : Nat) : Int) = 0 from rfl) (i3I (y := (1216 + 12 * a1)) (i3A (i3A (show (1210 : Int32) = i3 1210 from rfl) (i3M (show (12 : Int32) = i3 12 from rfl) (rfl : i3 a1 = i3 a1))) (show (6 : Int32) = i3 6 from rfl)) (by omega) (by omega) (by omega))))) (by omega) (by omega) (by omega) (by omega)) (fun h252 => ?_) (fun h252 => ?_)
      · replace hP := zE_p hP h252
        have r253 := zM_k hZ 2 0 0 (1211 + 12 * a1) (lo := 0) (hi := 9) (by decide) (zs_1210_1 (x := a1) (by omega) (by omega) (by omega))
        refine wz_br (i3Le (i3S (i3A (zm_rd (Z := Z) (ν := ν) (k := 2) (show ((0 : Nat) : Int) = 0 from rfl) (show ((0 : Nat) : Int) = 0 from rfl) (i3I (y := (1215 + 12 * a1)) (i3A (i3A (show (1210 : Int32) = i3 1210 from rfl) (i3M (show (12 : Int32) = i3 12 from rfl) (rfl : i3 a1 = i3 a1))) (show (5 : Int32) = i3 5 from rfl)) (by omega) (by omega) (by omega))) (i3A (zm_rd (Z := Z) (ν := ν) (k := 2) (show ((0 : Nat) : Int) = 0 from rfl) (show ((0 : Nat) : Int) = 0 from rfl) (i3I (y := (1212 + 12 * a1)) (i3A (i3A (show (1210 : Int32) = i3 1210 from rfl) (i3M (show (12 : Int32) = i3 12 from rfl) (rfl : i3 a1 = i3 a1))) (show (2 : Int32) = i3 2 from rfl)) (by omega) (by omega) (by omega))) (zm_rd (Z := Z) (ν := ν) (k := 2) (show ((0 : Nat) : Int) = 0 from rfl) (show ((0 : Nat) : Int) = 0 from rfl) (i3I (y := (1216 + 12 * a1)) (i3A (i3A (show (1210 : Int32) = i3 1210 from rfl) (i3M (show (12 : Int32) = i3 12 from rfl) (rfl : i3 a1 = i3 a1))) (show (6 : Int32) = i3 6 from rfl)) (by omega) (by omega) (by omega))))) (zm_rd (Z := Z) (ν := ν) (k := 2) (show ((0 : Nat) : Int) = 0 from rfl) (show ((0 : Nat) : Int) = 0 from rfl) (i3I (y := (1211 + 12 * a1)) (i3A (i3A (show (1210 : Int32) = i3 1210 from rfl) (i3M (show (12 : Int32) = i3 12 from rfl) (rfl : i3 a1 = i3 a1))) (show (1 : Int32) = i3 1 from rfl)) (by omega) (by omega) (by omega)))) (zm_rd (Z := Z) (ν := ν) (k := 2) (show ((0 : Nat) : Int) = 0 from rfl) (show ((0 : Nat) : Int) = 0 from rfl) (i3I (y := (1213 + 12 * a1)) (i3A (i3A (show (1210 : Int32) = i3 1210 from rfl) (i3M (show (12 : Int32) = i3 12 from rfl) (rfl : i3 a1 = i3 a1))) (show (3 : Int32) = i3 3 from rfl)) (by omega) (by omega) (by omega))) (by omega) (by omega) (by omega) (by omega)) (fun h254 => ?_) (fun h254 => ?_)
        · replace hP := zE_p hP h254
          refine wz_i0 (i3O (n := 4400) (i3A (i3A (show (1210 : Int32) = i3 1210 from rfl) (i3M (show (12 : Int32) = i3 12 from rfl) (rfl : i3 a1 = i3 a1))) (show (5 : Int32) = i3 5 from rfl)) (by omega) (by omega) (by omega)) ?_
          obtain ⟨Z255, hZ255⟩ := zx (zu Z 2 0 0 (1215 + 12 * a1) (Z 2 0 0 (1213 + 12 * a1)))
          replace hP := zl_e hP hZ255
          have hZ255I := zM_u2 hZ hZ255 (lo := 0) (hi := 40) (zs_1210_5 (x := a1) (by omega) (by omega) (by omega)) (by omega) ⟨by decide, by decide⟩ (by simp only [zsp]; omega)
          have hZ255U : zU [] Z Z255 := zU_u zU_r hZ255 (Or.inl rfl)
          have hZ255K : zC [2] Z Z255 := zC_u zC_r hZ255 (zcl_2w (by omega) rfl)
          intro μ9 e9
          replace e9 := e9.trans (zm_wI (Z := Z) (ν := ν) hZ255 (show ((0 : Nat) : Int) = 0 from rfl) (show ((0 : Nat) : Int) = 0 from rfl) (i3I (y := (1215 + 12 * a1)) (i3A (i3A (show (1210 : Int32) = i3 1210 from rfl) (i3M (show (12 : Int32) = i3 12 from rfl) (rfl : i3 a1 = i3 a1))) (show (5 : Int32) = i3 5 from rfl)) (by omega) (by omega) (by omega)) (zm_rd (Z := Z) (ν := ν) (k := 2) (show ((0 : Nat) : Int) = 0 from rfl) (show ((0 : Nat) : Int) = 0 from rfl) (i3I (y := (1213 + 12 * a1)) (i3A (i3A (show (1210 : Int32) = i3 1210 from rfl) (i3M (show (12 : Int32) = i3 12 from rfl) (rfl : i3 a1 = i3 a1))) (show (3 : Int32) = i3 3 from rfl)) (by omega) (by omega) (by omega))))
          subst e9
          refine wz_i0 (i3O (n := 4400) (i3A (i3A (show (1210 : Int32) = i3 1210 from rfl) (i3M (show (12 : Int32) = i3 12 from rfl) (rfl : i3 a1 = i3 a1))) (show (7 : Int32) = i3 7 from rfl)) (by omega) (by omega) (by omega)) ?_
          refine wz_br (i3E (zm_rd (Z := Z) (ν := ν) (k := 2) (show ((0 : Nat) : Int) = 0 from rfl) (show ((0 : Nat) : Int) = 0 from rfl) (i3I (y := (1213 + 12 * a1)) (i3A (i3A (show (1210 : Int32) = i3 1210 from rfl) (i3M (show (12 : Int32) = i3 12 from rfl) (rfl : i3 a1 = i3 a1))) (show (3 : Int32) = i3 3 from rfl)) (by omega) (by omega) (by omega))) (i3A (zm_rd (Z := Z) (ν := ν) (k := 2) (show ((0 : Nat) : Int) = 0 from rfl) (show ((0 : Nat) : Int) = 0 from rfl) (i3I (y := (1215 + 12 * a1)) (i3A (i3A (show (1210 : Int32) = i3 1210 from rfl) (i3M (show (12 : Int32) = i3 12 from rfl) (rfl : i3 a1 = i3 a1))) (show (5 : Int32) = i3 5 from rfl)) (by omega) (by omega) (by omega))) (i3A (zm_rd (Z := Z) (ν := ν) (k := 2) (show ((0 : Nat) : Int) = 0 from rfl) (show ((0 : Nat) : Int) = 0 from rfl) (i3I (y := (1212 + 12 * a1)) (i3A (i3A (show (1210 : Int32) = i3 1210 from rfl) (i3M (show (12 : Int32) = i3 12 from rfl) (rfl : i3 a1 = i3 a1))) (show (2 : Int32) = i3 2 from rfl)) (by omega) (by omega) (by omega))) (zm_rd (Z := Z) (ν := ν) (k := 2) (show ((0 : Nat) : Int) = 0 from rfl) (show ((0 : Nat) : Int) = 0 from rfl) (i3I (y := (1216 + 12 * a1)) (i3A (i3A (show (1210 : Int32) = i3 1210 from rfl) (i3M (show (12 : Int32) = i3 12 from rfl) (rfl : i3 a1 = i3 a1))) (show (6 : Int32) = i3 6 from rfl)) (by omega) (by omega) (by omega))))) (by omega) (by omega) (by omega) (by omega)) (fun h256 => ?_) (fun h256 => ?_)
          · replace hP := zE_p hP h256
            refine wz_i0 (i3O (n := 4400) (i3A (i3A (show (1210 : Int32) = i3 1210 from rfl) (i3M (show (12 : Int32) = i3 12 from rfl) (rfl : i3 a1 = i3 a1))) (show (7 : Int32) = i3 7 from rfl)) (by omega) (by omega) (by omega)) ?_
            have r257 := zM_f hZ255I 2 0 0 (1217 + 12 * a1)
            obtain ⟨Z258, hZ258⟩ := zx (zu Z255 2 0 0 (1217 + 12 * a1) ((Z255 2 0 0 (1217 + 12 * a1)) + 0))
            replace hP := zl_e hP hZ258
            have hZ258I := zM_u2 hZ255I hZ258 (lo := -2147483648) (hi := 2147483647) (zs_1210_7 (x := a1) (by omega) (by omega) (by omega)) (by omega) ⟨by decide, by decide⟩ (by simp only [zsp]; omega)
            have hZ258U : zU [] Z Z258 := zU_u hZ255U hZ258 (Or.inl rfl)
            have hZ258K : zC [2] Z Z258 := zC_u hZ255K hZ258 (zcl_2w (by omega) rfl)
            intro μ9 e9
            replace e9 := e9.trans (zm_wI (Z := Z255) (ν := ν) hZ258 (show ((0 : Nat) : Int) = 0 from rfl) (show ((0 : Nat) : Int) = 0 from rfl) (i3I (y := (1217 + 12 * a1)) (i3A (i3A (show (1210 : Int32) = i3 1210 from rfl) (i3M (show (12 : Int32) = i3 12 from rfl) (rfl : i3 a1 = i3 a1))) (show (7 : Int32) = i3 7 from rfl)) (by omega) (by omega) (by omega)) (i3A (zm_rd (Z := Z255) (ν := ν) (k := 2) (show ((0 : Nat) : Int) = 0 from rfl) (show ((0 : Nat) : Int) = 0 from rfl) (i3I (y := (1217 + 12 * a1)) (i3A (i3A (show (1210 : Int32) = i3 1210 from rfl) (i3M (show (12 : Int32) = i3 12 from rfl) (rfl : i3 a1 = i3 a1))) (show (7 : Int32) = i3 7 from rfl)) (by omega) (by omega) (by omega))) (show (0 : Int32) = i3 0 from rfl)))
            subst e9
            refine wz_i0 (i3O (n := 4400) (i3A (i3A (show (1210 : Int32) = i3 1210 from rfl) (i3M (show (12 : Int32) = i3 12 from rfl) (rfl : i3 a1 = i3 a1))) (show (8 : Int32) = i3 8 from rfl)) (by omega) (by omega) (by omega)) ?_
            refine wz_br (i3E (zm_rd (Z := Z) (ν := ν) (k := 2) (show ((0 : Nat) : Int) = 0 from rfl) (show ((0 : Nat) : Int) = 0 from rfl) (i3I (y := (1213 + 12 * a1)) (i3A (i3A (show (1210 : Int32) = i3 1210 from rfl) (i3M (show (12 : Int32) = i3 12 from rfl) (rfl : i3 a1 = i3 a1))) (show (3 : Int32) = i3 3 from rfl)) (by omega) (by omega) (by omega))) (i3A (zm_rd (Z := Z) (ν := ν) (k := 2) (show ((0 : Nat) : Int) = 0 from rfl) (show ((0 : Nat) : Int) = 0 from rfl) (i3I (y := (1215 + 12 * a1)) (i3A (i3A (show (1210 : Int32) = i3 1210 from rfl) (i3M (show (12 : Int32) = i3 12 from rfl) (rfl : i3 a1 = i3 a1))) (show (5 : Int32) = i3 5 from rfl)) (by omega) (by omega) (by omega))) (i3A (zm_rd (Z := Z) (ν := ν) (k := 2) (show ((0 : Nat) : Int) = 0 from rfl) (show ((0 : Nat) : Int) = 0 from rfl) (i3I (y := (1212 + 12 * a1)) (i3A (i3A (show (1210 : Int32) = i3 1210 from rfl) (i3M (show (12 : Int32) = i3 12 from rfl) (rfl : i3 a1 = i3 a1))) (show (2 : Int32) = i3 2 from rfl)) (by omega) (by omega) (by omega))) (zm_rd (Z := Z) (ν := ν) (k := 2) (show ((0 : Nat) : Int) = 0 from rfl) (show ((0 : Nat) : Int) = 0 from rfl) (i3I (y := (1216 + 12 * a1)) (i3A (i3A (show (1210 : Int32) = i3 1210 from rfl) (i3M (show (12 : Int32) = i3 12 from rfl) (rfl : i3 a1 = i3 a1))) (show (6 : Int32) = i3 6 from rfl)) (by omega) (by omega) (by omega))))) (by omega) (by omega) (by omega) (by omega)) (fun h259 => ?_) (fun h259 => ?_)
            · replace hP := zE_p hP h259
              refine wz_i0 (i3O (n := 4400) (i3A (i3A (show (1210 : Int32) = i3 1210 from rfl) (i3M (show (12 : Int32) = i3 12 from rfl) (rfl : i3 a1 = i3 a1))) (show (8 : Int32) = i3 8 from rfl)) (by omega) (by omega) (by omega)) ?_
              have r260 := zM_f hZ258I 2 0 0 (1218 + 12 * a1)
              obtain ⟨Z261, hZ261⟩ := zx (zu Z258 2 0 0 (1218 + 12 * a1) ((Z258 2 0 0 (1218 + 12 * a1)) + 0))
              replace hP := zl_e hP hZ261
              have hZ261I := zM_u2 hZ258I hZ261 (lo := -2147483648) (hi := 2147483647) (zs_1210_8 (x := a1) (by omega) (by omega) (by omega)) (by omega) ⟨by decide, by decide⟩ (by simp only [zsp]; omega)
              have hZ261U : zU [] Z Z261 := zU_u hZ258U hZ261 (Or.inl rfl)
              have hZ261K : zC [2] Z Z261 := zC_u hZ258K hZ261 (zcl_2w (by omega) rfl)
              intro μ9 e9
              replace e9 := e9.trans (zm_wI (Z := Z258) (ν := ν) hZ261 (show ((0 : Nat) : Int) = 0 from rfl) (show ((0 : Nat) : Int) = 0 from rfl) (i3I (y := (1218 + 12 * a1)) (i3A (i3A (show (1210 : Int32) = i3 1210 from rfl) (i3M (show (12 : Int32) = i3 12 from rfl) (rfl : i3 a1 = i3 a1))) (show (8 : Int32) = i3 8 from rfl)) (by omega) (by omega) (by omega)) (i3A (zm_rd (Z := Z258) (ν := ν) (k := 2) (show ((0 : Nat) : Int) = 0 from rfl) (show ((0 : Nat) : Int) = 0 from rfl) (i3I (y := (1218 + 12 * a1)) (i3A (i3A (show (1210 : Int32) = i3 1210 from rfl) (i3M (show (12 : Int32) = i3 12 from rfl) (rfl : i3 a1 = i3 a1))) (show (8 : Int32) = i3 8 from rfl)) (by omega) (by omega) (by omega))) (show (0 : Int32) = i3 0 from rfl)))
              subst e9
              refine wz_i0 (i3O (n := 4400) (i3A (i3A (show (1210 : Int32) = i3 1210 from rfl) (i3M (show (12 : Int32) = i3 12 from rfl) (rfl : i3 a1 = i3 a1))) (show (6 : Int32) = i3 6 from rfl)) (by omega) (by omega) (by omega)) ?_
              obtain ⟨Z262, hZ262⟩ := zx (zu Z261 2 0 0 (1216 + 12 * a1) 0)
              replace hP := zl_e hP hZ262
              have hZ262I := zM_z2 hZ261I hZ262 (by omega) (by omega) (by omega)
              have hZ262U : zU [] Z Z262 := zU_u hZ261U hZ262 (Or.inl rfl)
              have hZ262K : zC [2] Z Z262 := zC_u hZ261K hZ262 (zcl_2w (by omega) rfl)
              intro μ9 e9
              replace e9 := e9.trans (zm_wI (Z := Z261) (ν := ν) hZ262 (show ((0 : Nat) : Int) = 0 from rfl) (show ((0 : Nat) : Int) = 0 from rfl) (i3I (y := (1216 + 12 * a1)) (i3A (i3A (show (1210 : Int32) = i3 1210 from rfl) (i3M (show (12 : Int32) = i3 12 from rfl) (rfl : i3 a1 = i3 a1))) (show (6 : Int32) = i3 6 from rfl)) (by omega) (by omega) (by omega)) (show (0 : Int32) = i3 0 from rfl))
              subst e9
              exact zlV hP ⟨hZ262I, hZ262K, hZ262U⟩
            · replace hP := zE_n hP h259
              refine wz_i0 (i3O (n := 4400) (i3A (i3A (show (1210 : Int32) = i3 1210 from rfl) (i3M (show (12 : Int32) = i3 12 from rfl) (rfl : i3 a1 = i3 a1))) (show (8 : Int32) = i3 8 from rfl)) (by omega) (by omega) (by omega)) ?_
              have r263 := zM_f hZ258I 2 0 0 (1218 + 12 * a1)
              have r264 := w3_r ((Z258 2 0 0 (1218 + 12 * a1)) + 1)
              obtain ⟨Z265, hZ265⟩ := zx (zu Z258 2 0 0 (1218 + 12 * a1) (w3 ((Z258 2 0 0 (1218 + 12 * a1)) + 1)))
              replace hP := zl_e hP hZ265
              have hZ265I := zM_u2 hZ258I hZ265 (lo := -2147483648) (hi := 2147483647) (zs_1210_8 (x := a1) (by omega) (by omega) (by omega)) (by omega) ⟨by decide, by decide⟩ (by simp only [zsp]; omega)
              have hZ265U : zU [] Z Z265 := zU_u hZ258U hZ265 (Or.inl rfl)
              have hZ265K : zC [2] Z Z265 := zC_u hZ258K hZ265 (zcl_2w (by omega) rfl)
              intro μ9 e9
              replace e9 := e9.trans (zm_wI (Z := Z258) (ν := ν) hZ265 (show ((0 : Nat) : Int) = 0 from rfl) (show ((0 : Nat) : Int) = 0 from rfl) (i3I (y := (1218 + 12 * a1)) (i3A (i3A (show (1210 : Int32) = i3 1210 from rfl) (i3M (show (12 : Int32) = i3 12 from rfl) (rfl : i3 a1 = i3 a1))) (show (8 : Int32) = i3 8 from rfl)) (by omega) (by omega) (by omega)) (i3W (i3A (zm_rd (Z := Z258) (ν := ν) (k := 2) (show ((0 : Nat) : Int) = 0 from rfl) (show ((0 : Nat) : Int) = 0 from rfl) (i3I (y := (1218 + 12 * a1)) (i3A (i3A (show (1210 : Int32) = i3 1210 from rfl) (i3M (show (12 : Int32) = i3 12 from rfl) (rfl : i3 a1 = i3 a1))) (show (8 : Int32) = i3 8 from rfl)) (by omega) (by omega) (by omega))) (show (1 : Int32) = i3 1 from rfl))))
              subst e9
              refine wz_i0 (i3O (n := 4400) (i3A (i3A (show (1210 : Int32) = i3 1210 from rfl) (i3M (show (12 : Int32) = i3 12 from rfl) (rfl : i3 a1 = i3 a1))) (show (6 : Int32) = i3 6 from rfl)) (by omega) (by omega) (by omega)) ?_
              obtain ⟨Z266, hZ266⟩ := zx (zu Z265 2 0 0 (1216 + 12 * a1) 0)
              replace hP := zl_e hP hZ266
              have hZ266I := zM_z2 hZ265I hZ266 (by omega) (by omega) (by omega)
              have hZ266U : zU [] Z Z266 := zU_u hZ265U hZ266 (Or.inl rfl)
              have hZ266K : zC [2] Z Z266 := zC_u hZ265K hZ266 (zcl_2w (by omega) rfl)
              intro μ9 e9
              replace e9 := e9.trans (zm_wI (Z := Z265) (ν := ν) hZ266 (show ((0 : Nat) : Int) = 0 from rfl) (show ((0 : Nat) : Int) = 0 from rfl) (i3I (y := (1216 + 12 * a1)) (i3A (i3A (show (1210 : Int32) = i3 1210 from rfl) (i3M (show (12 : Int32) = i3 12 from rfl) (rfl : i3 a1 = i3 a1))) (show (6 : Int32) = i3 6 from rfl)) (by omega) (by omega) (by omega)) (show (0 : Int32) = i3 0 from rfl))
              subst e9
              exact zlV hP ⟨hZ266I, hZ266K, hZ266U⟩
          · replace hP := zE_n hP h256
            refine wz_i0 (i3O (n := 4400) (i3A (i3A (show (1210 : Int32) = i3 1210 from rfl) (i3M (show (12 : Int32) = i3 12 from rfl) (rfl : i3 a1 = i3 a1))) (show (7 : Int32) = i3 7 from rfl)) (by omega) (by omega) (by omega)) ?_
            have r267 := zM_f hZ255I 2 0 0 (1217 + 12 * a1)
            have r268 := w3_r ((Z255 2 0 0 (1217 + 12 * a1)) + 1)
            obtain ⟨Z269, hZ269⟩ := zx (zu Z255 2 0 0 (1217 + 12 * a1) (w3 ((Z255 2 0 0 (1217 + 12 * a1)) + 1)))
            replace hP := zl_e hP hZ269
            have hZ269I := zM_u2 hZ255I hZ269 (lo := -2147483648) (hi := 2147483647) (zs_1210_7 (x := a1) (by omega) (by omega) (by omega)) (by omega) ⟨by decide, by decide⟩ (by simp only [zsp]; omega)
            have hZ269U : zU [] Z Z269 := zU_u hZ255U hZ269 (Or.inl rfl)
            have hZ269K : zC [2] Z Z269 := zC_u hZ255K hZ269 (zcl_2w (by omega) rfl)
            intro μ9 e9
            replace e9 := e9.trans (zm_wI (Z := Z255) (ν := ν) hZ269 (show ((0 : Nat) : Int) = 0 from rfl) (show ((0 : Nat) : Int) = 0 from rfl) (i3I (y := (1217 + 12 * a1)) (i3A (i3A (show (1210 : Int32) = i3 1210 from rfl) (i3M (show (12 : Int32) = i3 12 from rfl) (rfl : i3 a1 = i3 a1))) (show (7 : Int32) = i3 7 from rfl)) (by omega) (by omega) (by omega)) (i3W (i3A (zm_rd (Z := Z255) (ν := ν) (k := 2) (show ((0 : Nat) : Int) = 0 from rfl) (show ((0 : Nat) : Int) = 0 from rfl) (i3I (y := (1217 + 12 * a1)) (i3A (i3A (show (1210 : Int32) = i3 1210 from rfl) (i3M (show (12 : Int32) = i3 12 from rfl) (rfl : i3 a1 = i3 a1))) (show (7 : Int32) = i3 7 from rfl)) (by omega) (by omega) (by omega))) (show (1 : Int32) = i3 1 from rfl))))
            subst e9
            refine wz_i0 (i3O (n := 4400) (i3A (i3A (show (1210 : Int32) = i3 1210 from rfl) (i3M (show (12 : Int32) = i3 12 from rfl) (rfl : i3 a1 = i3 a1))) (show (8 : Int32) = i3 8 from rfl)) (by omega) (by omega) (by omega)) ?_
            refine wz_br (i3E (zm_rd (Z := Z) (ν := ν) (k := 2) (show ((0 : Nat) : Int) = 0 from rfl) (show ((0 : Nat) : Int) = 0 from rfl) (i3I (y := (1213 + 12 * a1)) (i3A (i3A (show (1210 : Int32) = i3 1210 from rfl) (i3M (show (12 : Int32) = i3 12 from rfl) (rfl : i3 a1 = i3 a1))) (show (3 : Int32) = i3 3 from rfl)) (by omega) (by omega) (by omega))) (i3A (zm_rd (Z := Z) (ν := ν) (k := 2) (show ((0 : Nat) : Int) = 0 from rfl) (show ((0 : Nat) : Int) = 0 from rfl) (i3I (y := (1215 + 12 * a1)) (i3A (i3A (show (1210 : Int32) = i3 1210 from rfl) (i3M (show (12 : Int32) = i3 12 from rfl) (rfl : i3 a1 = i3 a1))) (show (5 : Int32) = i3 5 from rfl)) (by omega) (by omega) (by omega))) (i3A (zm_rd (Z := Z) (ν := ν) (k := 2) (show ((0 : Nat) : Int) = 0 from rfl) (show ((0 : Nat) : Int) = 0 from rfl) (i3I (y := (1212 + 12 * a1)) (i3A (i3A (show (1210 : Int32) = i3 1210 from rfl) (i3M (show (12 : Int32) = i3 12 from rfl) (rfl : i3 a1 = i3 a1))) (show (2 : Int32) = i3 2 from rfl)) (by omega) (by omega) (by omega))) (zm_rd (Z := Z) (ν := ν) (k := 2) (show ((0 : Nat) : Int) = 0 from rfl) (show ((0 : Nat) : Int) = 0 from rfl) (i3I (y := (1216 + 12 * a1)) (i3A (i3A (show (1210 : Int32) = i3 1210 from rfl) (i3M (show (12 : Int32) = i3 12 from rfl) (rfl : i3 a1 = i3 a1))) (show (6 : Int32) = i3 6 from rfl)) (by omega) (by omega) (by omega))))) (by omega) (by omega) (by omega) (by omega)) (fun h270 => ?_) (fun h270 => ?_)
            · replace hP := zE_p hP h270
              refine wz_i0 (i3O (n := 4400) (i3A (i3A (show (1210 : Int32) = i3 1210 from rfl) (i3M (show (12 : Int32) = i3 12 from rfl) (rfl : i3 a1 = i3 a1))) (show (8 : Int32) = i3 8 from rfl)) (by omega) (by omega) (by omega)) ?_
              have r271 := zM_f hZ269I 2 0 0 (1218 + 12 * a1)
              obtain ⟨Z272, hZ272⟩ := zx (zu Z269 2 0 0 (1218 + 12 * a1) ((Z269 2 0 0 (1218 + 12 * a1)) + 0))
              replace hP := zl_e hP hZ272
              have hZ272I := zM_u2 hZ269I hZ272 (lo := -2147483648) (hi := 2147483647) (zs_1210_8 (x := a1) (by omega) (by omega) (by omega)) (by omega) ⟨by decide, by decide⟩ (by simp only [zsp]; omega)
              have hZ272U : zU [] Z Z272 := zU_u hZ269U hZ272 (Or.inl rfl)
              have hZ272K : zC [2] Z Z272 := zC_u hZ269K hZ272 (zcl_2w (by omega) rfl)
              intro μ9 e9
              replace e9 := e9.trans (zm_wI (Z := Z269) (ν := ν) hZ272 (show ((0 : Nat) : Int) = 0 from rfl) (show ((0 : Nat) : Int) = 0 from rfl) (i3I (y := (1218 + 12 * a1)) (i3A (i3A (show (1210 : Int32) = i3 1210 from rfl) (i3M (show (12 : Int32) = i3 12 from rfl) (rfl : i3 a1 = i3 a1))) (show (8 : Int32) = i3 8 from rfl)) (by omega) (by omega) (by omega)) (i3A (zm_rd (Z := Z269) (ν := ν) (k := 2) (show ((0 : Nat) : Int) = 0 from rfl) (show ((0 : Nat) : Int) = 0 from rfl) (i3I (y := (1218 + 12 * a1)) (i3A (i3A (show (1210 : Int32) = i3 1210 from rfl) (i3M (show (12 : Int32) = i3 12 from rfl) (rfl : i3 a1 = i3 a1))) (show (8 : Int32) = i3 8 from rfl)) (by omega) (by omega) (by omega))) (show (0 : Int32) = i3 0 from rfl)))
              subst e9
              refine wz_i0 (i3O (n := 4400) (i3A (i3A (show (1210 : Int32) = i3 1210 from rfl) (i3M (show (12 : Int32) = i3 12 from rfl) (rfl : i3 a1 = i3 a1))) (show (6 : Int32) = i3 6 from rfl)) (by omega) (by omega) (by omega)) ?_
              obtain ⟨Z273, hZ273⟩ := zx (zu Z272 2 0 0 (1216 + 12 * a1) 0)
              replace hP := zl_e hP hZ273
              have hZ273I := zM_z2 hZ272I hZ273 (by omega) (by omega) (by omega)
              have hZ273U : zU [] Z Z273 := zU_u hZ272U hZ273 (Or.inl rfl)
              have hZ273K : zC [2] Z Z273 := zC_u hZ272K hZ273 (zcl_2w (by omega) rfl)
              intro μ9 e9
              replace e9 := e9.trans (zm_wI (Z := Z272) (ν := ν) hZ273 (show ((0 : Nat) : Int) = 0 from rfl) (show ((0 : Nat) : Int) = 0 from rfl) (i3I (y := (1216 + 12 * a1)) (i3A (i3A (show (1210 : Int32) = i3 1210 from rfl) (i3M (show (12 : Int32) = i3 12 from rfl) (rfl : i3 a1 = i3 a1))) (show (6 : Int32) = i3 6 from rfl)) (by omega) (by omega) (by omega)) (show (0 : Int32) = i3 0 from rfl))
              subst e9
              exact zlV hP ⟨hZ273I, hZ273K, hZ273U⟩
            · replace hP := zE_n hP h270
              refine wz_i0 (i3O (n := 4400) (i3A (i3A (show (1210 : Int32) = i3 1210 from rfl) (i3M (show (12 : Int32) = i3 12 from rfl) (rfl : i3 a1 = i3 a1))) (show (8 : Int32) = i3 8 from rfl)) (by omega) (by omega) (by omega)) ?_
              have r274 := zM_f hZ269I 2 0 0 (1218 + 12 * a1)
              have r275 := w3_r ((Z269 2 0 0 (1218 + 12 * a1)) + 1)
              obtain ⟨Z276, hZ276⟩ := zx (zu Z269 2 0 0 (1218 + 12 * a1) (w3 ((Z269 2 0 0 (1218 + 12 * a1)) + 1)))
              replace hP := zl_e hP hZ276
              have hZ276I := zM_u2 hZ269I hZ276 (lo := -2147483648) (hi := 2147483647) (zs_1210_8 (x := a1) (by omega) (by omega) (by omega)) (by omega) ⟨by decide, by decide⟩ (by simp only [zsp]; omega)
              have hZ276U : zU [] Z Z276 := zU_u hZ269U hZ276 (Or.inl rfl)
              have hZ276K : zC [2] Z Z276 := zC_u hZ269K hZ276 (zcl_2w (by omega) rfl)
              intro μ9 e9
              replace e9 := e9.trans (zm_wI (Z := Z269) (ν := ν) hZ276 (show ((0 : Nat) : Int) = 0 from rfl) (show ((0 : Nat) : Int) = 0 from rfl) (i3I (y := (1218 + 12 * a1)) (i3A (i3A (show (1210 : Int32) = i3 1210 from rfl) (i3M (show (12 : Int32) = i3 12 from rfl) (rfl : i3 a1 = i3 a1))) (show (8 : Int32) = i3 8 from rfl)) (by omega) (by omega) (by omega)) (i3W (i3A (zm_rd (Z := Z269) (ν := ν) (k := 2) (show ((0 : Nat) : Int) = 0 from rfl) (show ((0 : Nat) : Int) = 0 from rfl) (i3I (y := (1218 + 12 * a1)) (i3A (i3A (show (1210 : Int32) = i3 1210 from rfl) (i3M (show (12 : Int32) = i3 12 from rfl) (rfl : i3 a1 = i3 a1))) (show (8 : Int32) = i3 8 from rfl)) (by omega) (by omega) (by omega))) (show (1 : Int32) = i3 1 from rfl))))
              subst e9
              refine wz_i0 (i3O (n := 4400) (i3A (i3A (show (1210 : Int32) = i3 1210 from rfl) (i3M (show (12 : Int32) = i3 12 from rfl) (rfl : i3 a1 = i3 a1))) (show (6 : Int32) = i3 6 from rfl)) (by omega) (by omega) (by omega)) ?_
              obtain ⟨Z277, hZ277⟩ := zx (zu Z276 2 0 0 (1216 + 12 * a1) 0)
              replace hP := zl_e hP hZ277
              have hZ277I := zM_z2 hZ276I hZ277 (by omega) (by omega) (by omega)
              have hZ277U : zU [] Z Z277 := zU_u hZ276U hZ277 (Or.inl rfl)
              have hZ277K : zC [2] Z Z277 := zC_u hZ276K hZ277 (zcl_2w (by omega) rfl)
              intro μ9 e9
              replace e9 := e9.trans (zm_wI (Z := Z276) (ν := ν) hZ277 (show ((0 : Nat) : Int) = 0 from rfl) (show ((0 : Nat) : Int) = 0 from rfl) (i3I (y := (1216 + 12 * a1)) (i3A (i3A (show (1210 : Int32) = i3 1210 from rfl) (i3M (show (12 : Int32) = i3 12 from rfl) (rfl : i3 a1 = i3 a1))) (show (6 : Int32) = i3 6 from rfl)) (by omega) (by omega) (by omega)) (show (0 : Int32) = i3 0 from rfl))
              subst e9
              exact zlV hP ⟨hZ277I, hZ277K, hZ277U⟩
        · replace hP := zE_n hP h254
          refine wz_i0 (i3O (n := 4400) (i3A (i3A (show (1210 : Int32) = i3 1210 from rfl) (i3M (show (12 : Int32) = i3 12 from rfl) (rfl : i3 a1 = i3 a1))) (show (5 : Int32) = i3 5 from rfl)) (by omega) (by omega) (by omega)) ?_
          obtain ⟨Z278, hZ278⟩ := zx (zu Z 2 0 0 (1215 + 12 * a1) (((Z 2 0 0 (1215 + 12 * a1)) + ((Z 2 0 0 (1212 + 12 * a1)) + (Z 2 0 0 (1216 + 12 * a1)))) - (Z 2 0 0 (1211 + 12 * a1))))
          replace hP := zl_e hP hZ278
          have hZ278I := zM_u2 hZ hZ278 (lo := 0) (hi := 40) (zs_1210_5 (x := a1) (by omega) (by omega) (by omega)) (by omega) ⟨by decide, by decide⟩ (by simp only [zsp]; omega)
          have hZ278U : zU [] Z Z278 := zU_u zU_r hZ278 (Or.inl rfl)
          have hZ278K : zC [2] Z Z278 := zC_u zC_r hZ278 (zcl_2w (by omega) rfl)
          intro μ9 e9
          replace e9 := e9.trans (zm_wI (Z := Z) (ν := ν) hZ278 (show ((0 : Nat) : Int) = 0 from rfl) (show ((0 : Nat) : Int) = 0 from rfl) (i3I (y := (1215 + 12 * a1)) (i3A (i3A (show (1210 : Int32) = i3 1210 from rfl) (i3M (show (12 : Int32) = i3 12 from rfl) (rfl : i3 a1 = i3 a1))) (show (5 : Int32) = i3 5 from rfl)) (by omega) (by omega) (by omega)) (i3S (i3A (zm_rd (Z := Z) (ν := ν) (k := 2) (show ((0 : Nat) : Int) = 0 from rfl) (show ((0 : Nat) : Int) = 0 from rfl) (i3I (y := (1215 + 12 * a1)) (i3A (i3A (show (1210 : Int32) = i3 1210 from rfl) (i3M (show (12 : Int32) = i3 12 from rfl) (rfl : i3 a1 = i3 a1))) (show (5 : Int32) = i3 5 from rfl)) (by omega) (by omega) (by omega))) (i3A (zm_rd (Z := Z) (ν := ν) (k := 2) (show ((0 : Nat) : Int) = 0 from rfl) (show ((0 : Nat) : Int) = 0 from rfl) (i3I (y := (1212 + 12 * a1)) (i3A (i3A (show (1210 : Int32) = i3 1210 from rfl) (i3M (show (12 : Int32) = i3 12 from rfl) (rfl : i3 a1 = i3 a1))) (show (2 : Int32) = i3 2 from rfl)) (by omega) (by omega) (by omega))) (zm_rd (Z := Z) (ν := ν) (k := 2) (show ((0 : Nat) : Int) = 0 from rfl) (show ((0 : Nat) : Int) = 0 from rfl) (i3I (y := (1216 + 12 * a1)) (i3A (i3A (show (1210 : Int32) = i3 1210 from rfl) (i3M (show (12 : Int32) = i3 12 from rfl) (rfl : i3 a1 = i3 a1))) (show (6 : Int32) = i3 6 from rfl)) (by omega) (by omega) (by omega))))) (zm_rd (Z := Z) (ν := ν) (k := 2) (show ((0 : Nat) : Int) = 0 from rfl) (show ((0 : Nat) : Int) = 0 from rfl) (i3I (y := (1211 + 12 * a1)) (i3A (i3A (show (1210 : Int32) = i3 1210 from rfl) (i3M (show (12 : Int32) = i3 12 from rfl) (rfl : i3 a1 = i3 a1))) (show (1 : Int32) = i3 1 from rfl)) (by omega) (by omega) (by omega)))))
          subst e9
          refine wz_i0 (i3O (n := 4400) (i3A (i3A (show (1210 : Int32) = i3 1210 from rfl) (i3M (show (12 : Int32) = i3 12 from rfl) (rfl : i3 a1 = i3 a1))) (show (7 : Int32) = i3 7 from rfl)) (by omega) (by omega) (by omega)) ?_
          refine wz_br (i3E (i3S (i3A (zm_rd (Z := Z) (ν := ν) (k := 2) (show ((0 : Nat) : Int) = 0 from rfl) (show ((0 : Nat) : Int) = 0 from rfl) (i3I (y := (1215 + 12 * a1)) (i3A (i3A (show (1210 : Int32) = i3 1210 from rfl) (i3M (show (12 : Int32) = i3 12 from rfl) (rfl : i3 a1 = i3 a1))) (show (5 : Int32) = i3 5 from rfl)) (by omega) (by omega) (by omega))) (i3A (zm_rd (Z := Z) (ν := ν) (k := 2) (show ((0 : Nat) : Int) = 0 from rfl) (show ((0 : Nat) : Int) = 0 from rfl) (i3I (y := (1212 + 12 * a1)) (i3A (i3A (show (1210 : Int32) = i3 1210 from rfl) (i3M (show (12 : Int32) = i3 12 from rfl) (rfl : i3 a1 = i3 a1))) (show (2 : Int32) = i3 2 from rfl)) (by omega) (by omega) (by omega))) (zm_rd (Z := Z) (ν := ν) (k := 2) (show ((0 : Nat) : Int) = 0 from rfl) (show ((0 : Nat) : Int) = 0 from rfl) (i3I (y := (1216 + 12 * a1)) (i3A (i3A (show (1210 : Int32) = i3 1210 from rfl) (i3M (show (12 : Int32) = i3 12 from rfl) (rfl : i3 a1 = i3 a1))) (show (6 : Int32) = i3 6 from rfl)) (by omega) (by omega) (by omega))))) (zm_rd (Z := Z) (ν := ν) (k := 2) (show ((0 : Nat) : Int) = 0 from rfl) (show ((0 : Nat) : Int) = 0 from rfl) (i3I (y := (1211 + 12 * a1)) (i3A (i3A (show (1210 : Int32) = i3 1210 from rfl) (i3M (show (12 : Int32) = i3 12 from rfl) (rfl : i3 a1 = i3 a1))) (show (1 : Int32) = i3 1 from rfl)) (by omega) (by omega) (by omega)))) (i3A (zm_rd (Z := Z) (ν := ν) (k := 2) (show ((0 : Nat) : Int) = 0 from rfl) (show ((0 : Nat) : Int) = 0 from rfl) (i3I (y := (1215 + 12 * a1)) (i3A (i3A (show (1210 : Int32) = i3 1210 from rfl) (i3M (show (12 : Int32) = i3 12 from rfl) (rfl : i3 a1 = i3 a1))) (show (5 : Int32) = i3 5 from rfl)) (by omega) (by omega) (by omega))) (i3A (zm_rd (Z := Z) (ν := ν) (k := 2) (show ((0 : Nat) : Int) = 0 from rfl) (show ((0 : Nat) : Int) = 0 from rfl) (i3I (y := (1212 + 12 * a1)) (i3A (i3A (show (1210 : Int32) = i3 1210 from rfl) (i3M (show (12 : Int32) = i3 12 from rfl) (rfl : i3 a1 = i3 a1))) (show (2 : Int32) = i3 2 from rfl)) (by omega) (by omega) (by omega))) (zm_rd (Z := Z) (ν := ν) (k := 2) (show ((0 : Nat) : Int) = 0 from rfl) (show ((0 : Nat) : Int) = 0 from rfl) (i3I (y := (1216 + 12 * a1)) (i3A (i3A (show (1210 : Int32) = i3 1210 from rfl) (i3M (show (12 : Int32) = i3 12 from rfl) (rfl : i3 a1 = i3 a1))) (show (6 : Int32) = i3 6 from rfl)) (by omega) (by omega) (by omega))))) (by omega) (by omega) (by omega) (by omega)) (fun h279 => ?_) (fun h279 => ?_)
          · replace hP := zE_p hP h279
            refine wz_i0 (i3O (n := 4400) (i3A (i3A (show (1210 : Int32) = i3 1210 from rfl) (i3M (show (12 : Int32) = i3 12 from rfl) (rfl : i3 a1 = i3 a1))) (show (7 : Int32) = i3 7 from rfl)) (by omega) (by omega) (by omega)) ?_
            have r280 := zM_f hZ278I 2 0 0 (1217 + 12 * a1)
            obtain ⟨Z281, hZ281⟩ := zx (zu Z278 2 0 0 (1217 + 12 * a1) ((Z278 2 0 0 (1217 + 12 * a1)) + 0))
            replace hP := zl_e hP hZ281
            have hZ281I := zM_u2 hZ278I hZ281 (lo := -2147483648) (hi := 2147483647) (zs_1210_7 (x := a1) (by omega) (by omega) (by omega)) (by omega) ⟨by decide, by decide⟩ (by simp only [zsp]; omega)
            have hZ281U : zU [] Z Z281 := zU_u hZ278U hZ281 (Or.inl rfl)
            have hZ281K : zC [2] Z Z281 := zC_u hZ278K hZ281 (zcl_2w (by omega) rfl)
            intro μ9 e9
            replace e9 := e9.trans (zm_wI (Z := Z278) (ν := ν) hZ281 (show ((0 : Nat) : Int) = 0 from rfl) (show ((0 : Nat) : Int) = 0 from rfl) (i3I (y := (1217 + 12 * a1)) (i3A (i3A (show (1210 : Int32) = i3 1210 from rfl) (i3M (show (12 : Int32) = i3 12 from rfl) (rfl : i3 a1 = i3 a1))) (show (7 : Int32) = i3 7 from rfl)) (by omega) (by omega) (by omega)) (i3A (zm_rd (Z := Z278) (ν := ν) (k := 2) (show ((0 : Nat) : Int) = 0 from rfl) (show ((0 : Nat) : Int) = 0 from rfl) (i3I (y := (1217 + 12 * a1)) (i3A (i3A (show (1210 : Int32) = i3 1210 from rfl) (i3M (show (12 : Int32) = i3 12 from rfl) (rfl : i3 a1 = i3 a1))) (show (7 : Int32) = i3 7 from rfl)) (by omega) (by omega) (by omega))) (show (0 : Int32) = i3 0 from rfl)))
            subst e9
            refine wz_i0 (i3O (n := 4400) (i3A (i3A (show (1210 : Int32) = i3 1210 from rfl) (i3M (show (12 : Int32) = i3 12 from rfl) (rfl : i3 a1 = i3 a1))) (show (8 : Int32) = i3 8 from rfl)) (by omega) (by omega) (by omega)) ?_
            refine wz_i1 (Eq.trans (i3E (i3S (i3A (zm_rd (Z := Z) (ν := ν) (k := 2) (show ((0 : Nat) : Int) = 0 from rfl) (show ((0 : Nat) : Int) = 0 from rfl) (i3I (y := (1215 + 12 * a1)) (i3A (i3A (show (1210 : Int32) = i3 1210 from rfl) (i3M (show (12 : Int32) = i3 12 from rfl) (rfl : i3 a1 = i3 a1))) (show (5 : Int32) = i3 5 from rfl)) (by omega) (by omega) (by omega))) (i3A (zm_rd (Z := Z) (ν := ν) (k := 2) (show ((0 : Nat) : Int) = 0 from rfl) (show ((0 : Nat) : Int) = 0 from rfl) (i3I (y := (1212 + 12 * a1)) (i3A (i3A (show (1210 : Int32) = i3 1210 from rfl) (i3M (show (12 : Int32) = i3 12 from rfl) (rfl : i3 a1 = i3 a1))) (show (2 : Int32) = i3 2 from rfl)) (by omega) (by omega) (by omega))) (zm_rd (Z := Z) (ν := ν) (k := 2) (show ((0 : Nat) : Int) = 0 from rfl) (show ((0 : Nat) : Int) = 0 from rfl) (i3I (y := (1216 + 12 * a1)) (i3A (i3A (show (1210 : Int32) = i3 1210 from rfl) (i3M (show (12 : Int32) = i3 12 from rfl) (rfl : i3 a1 = i3 a1))) (show (6 : Int32) = i3 6 from rfl)) (by omega) (by omega) (by omega))))) (zm_rd (Z := Z) (ν := ν) (k := 2) (show ((0 : Nat) : Int) = 0 from rfl) (show ((0 : Nat) : Int) = 0 from rfl) (i3I (y := (1211 + 12 * a1)) (i3A (i3A (show (1210 : Int32) = i3 1210 from rfl) (i3M (show (12 : Int32) = i3 12 from rfl) (rfl : i3 a1 = i3 a1))) (show (1 : Int32) = i3 1 from rfl)) (by omega) (by omega) (by omega)))) (i3A (zm_rd (Z := Z) (ν := ν) (k := 2) (show ((0 : Nat) : Int) = 0 from rfl) (show ((0 : Nat) : Int) = 0 from rfl) (i3I (y := (1215 + 12 * a1)) (i3A (i3A (show (1210 : Int32) = i3 1210 from rfl) (i3M (show (12 : Int32) = i3 12 from rfl) (rfl : i3 a1 = i3 a1))) (show (5 : Int32) = i3 5 from rfl)) (by omega) (by omega) (by omega))) (i3A (zm_rd (Z := Z) (ν := ν) (k := 2) (show ((0 : Nat) : Int) = 0 from rfl) (show ((0 : Nat) : Int) = 0 from rfl) (i3I (y := (1212 + 12 * a1)) (i3A (i3A (show (1210 : Int32) = i3 1210 from rfl) (i3M (show (12 : Int32) = i3 12 from rfl) (rfl : i3 a1 = i3 a1))) (show (2 : Int32) = i3 2 from rfl)) (by omega) (by omega) (by omega))) (zm_rd (Z := Z) (ν := ν) (k := 2) (show ((0 : Nat) : Int) = 0 from rfl) (show ((0 : Nat) : Int) = 0 from rfl) (i3I (y := (1216 + 12 * a1)) (i3A (i3A (show (1210 : Int32) = i3 1210 from rfl) (i3M (show (12 : Int32) = i3 12 from rfl) (rfl : i3 a1 = i3 a1))) (show (6 : Int32) = i3 6 from rfl)) (by omega) (by omega) (by omega))))) (by omega) (by omega) (by omega) (by omega)) (decide_eq_true (by omega))) ?_
            refine wz_i0 (i3O (n := 4400) (i3A (i3A (show (1210 : Int32) = i3 1210 from rfl) (i3M (show (12 : Int32) = i3 12 from rfl) (rfl : i3 a1 = i3 a1))) (show (8 : Int32) = i3 8 from rfl)) (by omega) (by omega) (by omega)) ?_
            have r282 := zM_f hZ281I 2 0 0 (1218 + 12 * a1)
            obtain ⟨Z283, hZ283⟩ := zx (zu Z281 2 0 0 (1218 + 12 * a1) ((Z281 2 0 0 (1218 + 12 * a1)) + 0))
            replace hP := zl_e hP hZ283
            have hZ283I := zM_u2 hZ281I hZ283 (lo := -2147483648) (hi := 2147483647) (zs_1210_8 (x := a1) (by omega) (by omega) (by omega)) (by omega) ⟨by decide, by decide⟩ (by simp only [zsp]; omega)
            have hZ283U : zU [] Z Z283 := zU_u hZ281U hZ283 (Or.inl rfl)
            have hZ283K : zC [2] Z Z283 := zC_u hZ281K hZ283 (zcl_2w (by omega) rfl)
            intro μ9 e9
            replace e9 := e9.trans (zm_wI (Z := Z281) (ν := ν) hZ283 (show ((0 : Nat) : Int) = 0 from rfl) (show ((0 : Nat) : Int) = 0 from rfl) (i3I (y := (1218 + 12 * a1)) (i3A (i3A (show (1210 : Int32) = i3 1210 from rfl) (i3M (show (12 : Int32) = i3 12 from rfl) (rfl : i3 a1 = i3 a1))) (show (8 : Int32) = i3 8 from rfl)) (by omega) (by omega) (by omega)) (i3A (zm_rd (Z := Z281) (ν := ν) (k := 2) (show ((0 : Nat) : Int) = 0 from rfl) (show ((0 : Nat) : Int) = 0 from rfl) (i3I (y := (1218 + 12 * a1)) (i3A (i3A (show (1210 : Int32) = i3 1210 from rfl) (i3M (show (12 : Int32) = i3 12 from rfl) (rfl : i3 a1 = i3 a1))) (show (8 : Int32) = i3 8 from rfl)) (by omega) (by omega) (by omega))) (show (0 : Int32) = i3 0 from rfl)))
            subst e9
            refine wz_i0 (i3O (n := 4400) (i3A (i3A (show (1210 : Int32) = i3 1210 from rfl) (i3M (show (12 : Int32) = i3 12 from rfl) (rfl : i3 a1 = i3 a1))) (show (6 : Int32) = i3 6 from rfl)) (by omega) (by omega) (by omega)) ?_
            obtain ⟨Z284, hZ284⟩ := zx (zu Z283 2 0 0 (1216 + 12 * a1) 0)
            replace hP := zl_e hP hZ284
            have hZ284I := zM_z2 hZ283I hZ284 (by omega) (by omega) (by omega)
            have hZ284U : zU [] Z Z284 := zU_u hZ283U hZ284 (Or.inl rfl)
            have hZ284K : zC [2] Z Z284 := zC_u hZ283K hZ284 (zcl_2w (by omega) rfl)
            intro μ9 e9
            replace e9 := e9.trans (zm_wI (Z := Z283) (ν := ν) hZ284 (show ((0 : Nat) : Int) = 0 from rfl) (show ((0 : Nat) : Int) = 0 from rfl) (i3I (y := (1216 + 12 * a1)) (i3A (i3A (show (1210 : Int32) = i3 1210 from rfl) (i3M (show (12 : Int32) = i3 12 from rfl) (rfl : i3 a1 = i3 a1))) (show (6 : Int32) = i3 6 from rfl)) (by omega) (by omega) (by omega)) (show (0 : Int32) = i3 0 from rfl))
            subst e9
            exact zlV hP ⟨hZ284I, hZ284K, hZ284U⟩
          · replace hP := zE_n hP h279
            refine wz_i0 (i3O (n := 4400) (i3A (i3A (show (1210 : Int32) = i3 1210 from rfl) (i3M (show (12 : Int32) = i3 12 from rfl) (rfl : i3 a1 = i3 a1))) (show (7 : Int32) = i3 7 from rfl)) (by omega) (by omega) (by omega)) ?_
            have r285 := zM_f hZ278I 2 0 0 (1217 + 12 * a1)
            have r286 := w3_r ((Z278 2 0 0 (1217 + 12 * a1)) + 1)
            obtain ⟨Z287, hZ287⟩ := zx (zu Z278 2 0 0 (1217 + 12 * a1) (w3 ((Z278 2 0 0 (1217 + 12 * a1)) + 1)))
            replace hP := zl_e hP hZ287
            have hZ287I := zM_u2 hZ278I hZ287 (lo := -2147483648) (hi := 2147483647) (zs_1210_7 (x := a1) (by omega) (by omega) (by omega)) (by omega) ⟨by decide, by decide⟩ (by simp only [zsp]; omega)
            have hZ287U : zU [] Z Z287 := zU_u hZ278U hZ287 (Or.inl rfl)
            have hZ287K : zC [2] Z Z287 := zC_u hZ278K hZ287 (zcl_2w (by omega) rfl)
            intro μ9 e9
            replace e9 := e9.trans (zm_wI (Z := Z278) (ν := ν) hZ287 (show ((0 : Nat) : Int) = 0 from rfl) (show ((0 : Nat) : Int) = 0 from rfl) (i3I (y := (1217 + 12 * a1)) (i3A (i3A (show (1210 : Int32) = i3 1210 from rfl) (i3M (show (12 : Int32) = i3 12 from rfl) (rfl : i3 a1 = i3 a1))) (show (7 : Int32) = i3 7 from rfl)) (by omega) (by omega) (by omega)) (i3W (i3A (zm_rd (Z := Z278) (ν := ν) (k := 2) (show ((0 : Nat) : Int) = 0 from rfl) (show ((0 : Nat) : Int) = 0 from rfl) (i3I (y := (1217 + 12 * a1)) (i3A (i3A (show (1210 : Int32) = i3 1210 from rfl) (i3M (show (12 : Int32) = i3 12 from rfl) (rfl : i3 a1 = i3 a1))) (show (7 : Int32) = i3 7 from rfl)) (by omega) (by omega) (by omega))) (show (1 : Int32) = i3 1 from rfl))))
            subst e9
            refine wz_i0 (i3O (n := 4400) (i3A (i3A (show (1210 : Int32) = i3 1210 from rfl) (i3M (show (12 : Int32) = i3 12 from rfl) (rfl : i3 a1 = i3 a1))) (show (8 : Int32) = i3 8 from rfl)) (by omega) (by omega) (by omega)) ?_
            refine wz_i0 (Eq.trans (i3E (i3S (i3A (zm_rd (Z := Z) (ν := ν) (k := 2) (show ((0 : Nat) : Int) = 0 from rfl) (show ((0 : Nat) : Int) = 0 from rfl) (i3I (y := (1215 + 12 * a1)) (i3A (i3A (show (1210 : Int32) = i3 1210 from rfl) (i3M (show (12 : Int32) = i3 12 from rfl) (rfl : i3 a1 = i3 a1))) (show (5 : Int32) = i3 5 from rfl)) (by omega) (by omega) (by omega))) (i3A (zm_rd (Z := Z) (ν := ν) (k := 2) (show ((0 : Nat) : Int) = 0 from rfl) (show ((0 : Nat) : Int) = 0 from rfl) (i3I (y := (1212 + 12 * a1)) (i3A (i3A (show (1210 : Int32) = i3 1210 from rfl) (i3M (show (12 : Int32) = i3 12 from rfl) (rfl : i3 a1 = i3 a1))) (show (2 : Int32) = i3 2 from rfl)) (by omega) (by omega) (by omega))) (zm_rd (Z := Z) (ν := ν) (k := 2) (show ((0 : Nat) : Int) = 0 from rfl) (show ((0 : Nat) : Int) = 0 from rfl) (i3I (y := (1216 + 12 * a1)) (i3A (i3A (show (1210 : Int32) = i3 1210 from rfl) (i3M (show (12 : Int32) = i3 12 from rfl) (rfl : i3 a1 = i3 a1))) (show (6 : Int32) = i3 6 from rfl)) (by omega) (by omega) (by omega))))) (zm_rd (Z := Z) (ν := ν) (k := 2) (show ((0 : Nat) : Int) = 0 from rfl) (show ((0 : Nat) : Int) = 0 from rfl) (i3I (y := (1211 + 12 * a1)) (i3A (i3A (show (1210 : Int32) = i3 1210 from rfl) (i3M (show (12 : Int32) = i3 12 from rfl) (rfl : i3 a1 = i3 a1))) (show (1 : Int32) = i3 1 from rfl)) (by omega) (by omega) (by omega)))) (i3A (zm_rd (Z := Z) (ν := ν) (k := 2) (show ((0 : Nat) : Int) = 0 from rfl) (show ((0 : Nat) : Int) = 0 from rfl) (i3I (y := (1215 + 12 * a1)) (i3A (i3A (show (1210 : Int32) = i3 1210 from rfl) (i3M (show (12 : Int32) = i3 12 from rfl) (rfl : i3 a1 = i3 a1))) (show (5 : Int32) = i3 5 from rfl)) (by omega) (by omega) (by omega))) (i3A (zm_rd (Z := Z) (ν := ν) (k := 2) (show ((0 : Nat) : Int) = 0 from rfl) (show ((0 : Nat) : Int) = 0 from rfl) (i3I (y := (1212 + 12 * a1)) (i3A (i3A (show (1210 : Int32) = i3 1210 from rfl) (i3M (show (12 : Int32) = i3 12 from rfl) (rfl : i3 a1 = i3 a1))) (show (2 : Int32) = i3 2 from rfl)) (by omega) (by omega) (by omega))) (zm_rd (Z := Z) (ν := ν) (k := 2) (show ((0 : Nat) : Int) = 0 from rfl) (show ((0 : Nat) : Int) = 0 from rfl) (i3I (y := (1216 + 12 * a1)) (i3A (i3A (show (1210 : Int32) = i3 1210 from rfl) (i3M (show (12 : Int32) = i3 12 from rfl) (rfl : i3 a1 = i3 a1))) (show (6 : Int32) = i3 6 from rfl)) (by omega) (by omega) (by omega))))) (by omega) (by omega) (by omega) (by omega)) (decide_eq_false (by omega))) ?_
            refine wz_i0 (i3O (n := 4400) (i3A (i3A (show (1210 : Int32) = i3 1210 from rfl) (i3M (show (12 : Int32) = i3 12 from rfl) (rfl : i3 a1 = i3 a1))) (show (8 : Int32) = i3 8 from rfl)) (by omega) (by omega) (by omega)) ?_
            have r288 := zM_f hZ287I 2 0 0 (1218 + 12 * a1)
            have r289 := w3_r ((Z287 2 0 0 (1218 + 12 * a1)) + 1)
            obtain ⟨Z290, hZ290⟩ := zx (zu Z287 2 0 0 (1218 + 12 * a1) (w3 ((Z287 2 0 0 (1218 + 12 * a1)) + 1)))
            replace hP := zl_e hP hZ290
            have hZ290I := zM_u2 hZ287I hZ290 (lo := -2147483648) (hi := 2147483647) (zs_1210_8 (x := a1) (by omega) (by omega) (by omega)) (by omega) ⟨by decide, by decide⟩ (by simp only [zsp]; omega)
            have hZ290U : zU [] Z Z290 := zU_u hZ287U hZ290 (Or.inl rfl)
            have hZ290K : zC [2] Z Z290 := zC_u hZ287K hZ290 (zcl_2w (by omega) rfl)
            intro μ9 e9
            replace e9 := e9.trans (zm_wI (Z := Z287) (ν := ν) hZ290 (show ((0 : Nat) : Int) = 0 from rfl) (show ((0 : Nat) : Int) = 0 from rfl) (i3I (y := (1218 + 12 * a1)) (i3A (i3A (show (1210 : Int32) = i3 1210 from rfl) (i3M (show (12 : Int32) = i3 12 from rfl) (rfl : i3 a1 = i3 a1))) (show (8 : Int32) = i3 8 from rfl)) (by omega) (by omega) (by omega)) (i3W (i3A (zm_rd (Z := Z287) (ν := ν) (k := 2) (show ((0 : Nat) : Int) = 0 from rfl) (show ((0 : Nat) : Int) = 0 from rfl) (i3I (y := (1218 + 12 * a1)) (i3A (i3A (show (1210 : Int32) = i3 1210 from rfl) (i3M (show (12 : Int32) = i3 12 from rfl) (rfl : i3 a1 = i3 a1))) (show (8 : Int32) = i3 8 from rfl)) (by omega) (by omega) (by omega))) (show (1 : Int32) = i3 1 from rfl))))
            subst e9
            refine wz_i0 (i3O (n := 4400) (i3A (i3A (show (1210 : Int32) = i3 1210 from rfl) (i3M (show (12 : Int32) = i3 12 from rfl) (rfl : i3 a1 = i3 a1))) (show (6 : Int32) = i3 6 from rfl)) (by omega) (by omega) (by omega)) ?_
            obtain ⟨Z291, hZ291⟩ := zx (zu Z290 2 0 0 (1216 + 12 * a1) 0)
            replace hP := zl_e hP hZ291
            have hZ291I := zM_z2 hZ290I hZ291 (by omega) (by omega) (by omega)
            have hZ291U : zU [] Z Z291 := zU_u hZ290U hZ291 (Or.inl rfl)
            have hZ291K : zC [2] Z Z291 := zC_u hZ290K hZ291 (zcl_2w (by omega) rfl)
            intro μ9 e9
            replace e9 := e9.trans (zm_wI (Z := Z290) (ν := ν) hZ291 (show ((0 : Nat) : Int) = 0 from rfl) (show ((0 : Nat) : Int) = 0 from rfl) (i3I (y := (1216 + 12 * a1)) (i3A (i3A (show (1210 : Int32) = i3 1210 from rfl) (i3M (show (12 : Int32) = i3 12 from rfl) (rfl : i3 a1 = i3 a1))) (show (6 : Int32) = i3 6 from rfl)) (by omega) (by omega) (by omega)) (show (0 : Int32) = i3 0 from rfl))
            subst e9
            exact zlV hP ⟨hZ291I, hZ291K, hZ291U⟩
      · replace hP := zE_n hP h252
        have r292 := zM_k hZ 2 0 0 (1211 + 12 * a1) (lo := 0) (hi := 9) (by decide) (zs_1210_1 (x := a1) (by omega) (by omega) (by omega))
        refine wz_br (i3Le (zm_rd (Z := Z) (ν := ν) (k := 2) (show ((0 : Nat) : Int) = 0 from rfl) (show ((0 : Nat) : Int) = 0 from rfl) (i3I (y := (1213 + 12 * a1)) (i3A (i3A (show (1210 : Int32) = i3 1210 from rfl) (i3M (show (12 : Int32) = i3 12 from rfl) (rfl : i3 a1 = i3 a1))) (show (3 : Int32) = i3 3 from rfl)) (by omega) (by omega) (by omega))) (i3A (i3A (zm_rd (Z := Z) (ν := ν) (k := 2) (show ((0 : Nat) : Int) = 0 from rfl) (show ((0 : Nat) : Int) = 0 from rfl) (i3I (y := (1215 + 12 * a1)) (i3A (i3A (show (1210 : Int32) = i3 1210 from rfl) (i3M (show (12 : Int32) = i3 12 from rfl) (rfl : i3 a1 = i3 a1))) (show (5 : Int32) = i3 5 from rfl)) (by omega) (by omega) (by omega))) (i3A (zm_rd (Z := Z) (ν := ν) (k := 2) (show ((0 : Nat) : Int) = 0 from rfl) (show ((0 : Nat) : Int) = 0 from rfl) (i3I (y := (1212 + 12 * a1)) (i3A (i3A (show (1210 : Int32) = i3 1210 from rfl) (i3M (show (12 : Int32) = i3 12 from rfl) (rfl : i3 a1 = i3 a1))) (show (2 : Int32) = i3 2 from rfl)) (by omega) (by omega) (by omega))) (zm_rd (Z := Z) (ν := ν) (k := 2) (show ((0 : Nat) : Int) = 0 from rfl) (show ((0 : Nat) : Int) = 0 from rfl) (i3I (y := (1216 + 12 * a1)) (i3A (i3A (show (1210 : Int32) = i3 1210 from rfl) (i3M (show (12 : Int32) = i3 12 from rfl) (rfl : i3 a1 = i3 a1))) (show (6 : Int32) = i3 6 from rfl)) (by omega) (by omega) (by omega))))) (zm_rd (Z := Z) (ν := ν) (k := 2) (show ((0 : Nat) : Int) = 0 from rfl) (show ((0 : Nat) : Int) = 0 from rfl) (i3I (y := (1211 + 12 * a1)) (i3A (i3A (show (1210 : Int32) = i3 1210 from rfl) (i3M (show (12 : Int32) = i3 12 from rfl) (rfl : i3 a1 = i3 a1))) (show (1 : Int32) = i3 1 from rfl)) (by omega) (by omega) (by omega)))) (by omega) (by omega) (by omega) (by omega)) (fun h293 => ?_) (fun h293 => ?_)
        · replace hP := zE_p hP h293
          refine wz_i0 (i3O (n := 4400) (i3A (i3A (show (1210 : Int32) = i3 1210 from rfl) (i3M (show (12 : Int32) = i3 12 from rfl) (rfl : i3 a1 = i3 a1))) (show (5 : Int32) = i3 5 from rfl)) (by omega) (by omega) (by omega)) ?_
          obtain ⟨Z294, hZ294⟩ := zx (zu Z 2 0 0 (1215 + 12 * a1) (Z 2 0 0 (1213 + 12 * a1)))
          replace hP := zl_e hP hZ294
          have hZ294I := zM_u2 hZ hZ294 (lo := 0) (hi := 40) (zs_1210_5 (x := a1) (by omega) (by omega) (by omega)) (by omega) ⟨by decide, by decide⟩ (by simp only [zsp]; omega)
          have hZ294U : zU [] Z Z294 := zU_u zU_r hZ294 (Or.inl rfl)
          have hZ294K : zC [2] Z Z294 := zC_u zC_r hZ294 (zcl_2w (by omega) rfl)
          intro μ9 e9
          replace e9 := e9.trans (zm_wI (Z := Z) (ν := ν) hZ294 (show ((0 : Nat) : Int) = 0 from rfl) (show ((0 : Nat) : Int) = 0 from rfl) (i3I (y := (1215 + 12 * a1)) (i3A (i3A (show (1210 : Int32) = i3 1210 from rfl) (i3M (show (12 : Int32) = i3 12 from rfl) (rfl : i3 a1 = i3 a1))) (show (5 : Int32) = i3 5 from rfl)) (by omega) (by omega) (by omega)) (zm_rd (Z := Z) (ν := ν) (k := 2) (show ((0 : Nat) : Int) = 0 from rfl) (show ((0 : Nat) : Int) = 0 from rfl) (i3I (y := (1213 + 12 * a1)) (i3A (i3A (show (1210 : Int32) = i3 1210 from rfl) (i3M (show (12 : Int32) = i3 12 from rfl) (rfl : i3 a1 = i3 a1))) (show (3 : Int32) = i3 3 from rfl)) (by omega) (by omega) (by omega))))
          subst e9
          refine wz_i0 (i3O (n := 4400) (i3A (i3A (show (1210 : Int32) = i3 1210 from rfl) (i3M (show (12 : Int32) = i3 12 from rfl) (rfl : i3 a1 = i3 a1))) (show (7 : Int32) = i3 7 from rfl)) (by omega) (by omega) (by omega)) ?_
          refine wz_br (i3E (zm_rd (Z := Z) (ν := ν) (k := 2) (show ((0 : Nat) : Int) = 0 from rfl) (show ((0 : Nat) : Int) = 0 from rfl) (i3I (y := (1213 + 12 * a1)) (i3A (i3A (show (1210 : Int32) = i3 1210 from rfl) (i3M (show (12 : Int32) = i3 12 from rfl) (rfl : i3 a1 = i3 a1))) (show (3 : Int32) = i3 3 from rfl)) (by omega) (by omega) (by omega))) (i3A (zm_rd (Z := Z) (ν := ν) (k := 2) (show ((0 : Nat) : Int) = 0 from rfl) (show ((0 : Nat) : Int) = 0 from rfl) (i3I (y := (1215 + 12 * a1)) (i3A (i3A (show (1210 : Int32) = i3 1210 from rfl) (i3M (show (12 : Int32) = i3 12 from rfl) (rfl : i3 a1 = i3 a1))) (show (5 : Int32) = i3 5 from rfl)) (by omega) (by omega) (by omega))) (i3A (zm_rd (Z := Z) (ν := ν) (k := 2) (show ((0 : Nat) : Int) = 0 from rfl) (show ((0 : Nat) : Int) = 0 from rfl) (i3I (y := (1212 + 12 * a1)) (i3A (i3A (show (1210 : Int32) = i3 1210 from rfl) (i3M (show (12 : Int32) = i3 12 from rfl) (rfl : i3 a1 = i3 a1))) (show (2 : Int32) = i3 2 from rfl)) (by omega) (by omega) (by omega))) (zm_rd (Z := Z) (ν := ν) (k := 2) (show ((0 : Nat) : Int) = 0 from rfl) (show ((0 : Nat) : Int) = 0 from rfl) (i3I (y := (1216 + 12 * a1)) (i3A (i3A (show (1210 : Int32) = i3 1210 from rfl) (i3M (show (12 : Int32) = i3 12 from rfl) (rfl : i3 a1 = i3 a1))) (show (6 : Int32) = i3 6 from rfl)) (by omega) (by omega) (by omega))))) (by omega) (by omega) (by omega) (by omega)) (fun h295 => ?_) (fun h295 => ?_)
          · replace hP := zE_p hP h295
            refine wz_i0 (i3O (n := 4400) (i3A (i3A (show (1210 : Int32) = i3 1210 from rfl) (i3M (show (12 : Int32) = i3 12 from rfl) (rfl : i3 a1 = i3 a1))) (show (7 : Int32) = i3 7 from rfl)) (by omega) (by omega) (by omega)) ?_
            have r296 := zM_f hZ294I 2 0 0 (1217 + 12 * a1)
            obtain ⟨Z297, hZ297⟩ := zx (zu Z294 2 0 0 (1217 + 12 * a1) ((Z294 2 0 0 (1217 + 12 * a1)) + 0))
            replace hP := zl_e hP hZ297
            have hZ297I := zM_u2 hZ294I hZ297 (lo := -2147483648) (hi := 2147483647) (zs_1210_7 (x := a1) (by omega) (by omega) (by omega)) (by omega) ⟨by decide, by decide⟩ (by simp only [zsp]; omega)
            have hZ297U : zU [] Z Z297 := zU_u hZ294U hZ297 (Or.inl rfl)
            have hZ297K : zC [2] Z Z297 := zC_u hZ294K hZ297 (zcl_2w (by omega) rfl)
            intro μ9 e9
            replace e9 := e9.trans (zm_wI (Z := Z294) (ν := ν) hZ297 (show ((0 : Nat) : Int) = 0 from rfl) (show ((0 : Nat) : Int) = 0 from rfl) (i3I (y := (1217 + 12 * a1)) (i3A (i3A (show (1210 : Int32) = i3 1210 from rfl) (i3M (show (12 : Int32) = i3 12 from rfl) (rfl : i3 a1 = i3 a1))) (show (7 : Int32) = i3 7 from rfl)) (by omega) (by omega) (by omega)) (i3A (zm_rd (Z := Z294) (ν := ν) (k := 2) (show ((0 : Nat) : Int) = 0 from rfl) (show ((0 : Nat) : Int) = 0 from rfl) (i3I (y := (1217 + 12 * a1)) (i3A (i3A (show (1210 : Int32) = i3 1210 from rfl) (i3M (show (12 : Int32) = i3 12 from rfl) (rfl : i3 a1 = i3 a1))) (show (7 : Int32) = i3 7 from rfl)) (by omega) (by omega) (by omega))) (show (0 : Int32) = i3 0 from rfl)))
            subst e9
            refine wz_i0 (i3O (n := 4400) (i3A (i3A (show (1210 : Int32) = i3 1210 from rfl) (i3M (show (12 : Int32) = i3 12 from rfl) (rfl : i3 a1 = i3 a1))) (show (8 : Int32) = i3 8 from rfl)) (by omega) (by omega) (by omega)) ?_
            refine wz_br (i3E (zm_rd (Z := Z) (ν := ν) (k := 2) (show ((0 : Nat) : Int) = 0 from rfl) (show ((0 : Nat) : Int) = 0 from rfl) (i3I (y := (1213 + 12 * a1)) (i3A (i3A (show (1210 : Int32) = i3 1210 from rfl) (i3M (show (12 : Int32) = i3 12 from rfl) (rfl : i3 a1 = i3 a1))) (show (3 : Int32) = i3 3 from rfl)) (by omega) (by omega) (by omega))) (i3A (zm_rd (Z := Z) (ν := ν) (k := 2) (show ((0 : Nat) : Int) = 0 from rfl) (show ((0 : Nat) : Int) = 0 from rfl) (i3I (y := (1215 + 12 * a1)) (i3A (i3A (show (1210 : Int32) = i3 1210 from rfl) (i3M (show (12 : Int32) = i3 12 from rfl) (rfl : i3 a1 = i3 a1))) (show (5 : Int32) = i3 5 from rfl)) (by omega) (by omega) (by omega))) (i3A (zm_rd (Z := Z) (ν := ν) (k := 2) (show ((0 : Nat) : Int) = 0 from rfl) (show ((0 : Nat) : Int) = 0 from rfl) (i3I (y := (1212 + 12 * a1)) (i3A (i3A (show (1210 : Int32) = i3 1210 from rfl) (i3M (show (12 : Int32) = i3 12 from rfl) (rfl : i3 a1 = i3 a1))) (show (2 : Int32) = i3 2 from rfl)) (by omega) (by omega) (by omega))) (zm_rd (Z := Z) (ν := ν) (k := 2) (show ((0 : Nat) : Int) = 0 from rfl) (show ((0 : Nat) : Int) = 0 from rfl) (i3I (y := (1216 + 12 * a1)) (i3A (i3A (show (1210 : Int32) = i3 1210 from rfl) (i3M (show (12 : Int32) = i3 12 from rfl) (rfl : i3 a1 = i3 a1))) (show (6 : Int32) = i3 6 from rfl)) (by omega) (by omega) (by omega))))) (by omega) (by omega) (by omega) (by omega)) (fun h298 => ?_) (fun h298 => ?_)
            · replace hP := zE_p hP h298
              refine wz_i0 (i3O (n := 4400) (i3A (i3A (show (1210 : Int32) = i3 1210 from rfl) (i3M (show (12 : Int32) = i3 12 from rfl) (rfl : i3 a1 = i3 a1))) (show (8 : Int32) = i3 8 from rfl)) (by omega) (by omega) (by omega)) ?_
              have r299 := zM_f hZ297I 2 0 0 (1218 + 12 * a1)
              obtain ⟨Z300, hZ300⟩ := zx (zu Z297 2 0 0 (1218 + 12 * a1) ((Z297 2 0 0 (1218 + 12 * a1)) + 0))
              replace hP := zl_e hP hZ300
              have hZ300I := zM_u2 hZ297I hZ300 (lo := -2147483648) (hi := 2147483647) (zs_1210_8 (x := a1) (by omega) (by omega) (by omega)) (by omega) ⟨by decide, by decide⟩ (by simp only [zsp]; omega)
              have hZ300U : zU [] Z Z300 := zU_u hZ297U hZ300 (Or.inl rfl)
              have hZ300K : zC [2] Z Z300 := zC_u hZ297K hZ300 (zcl_2w (by omega) rfl)
              intro μ9 e9
              replace e9 := e9.trans (zm_wI (Z := Z297) (ν := ν) hZ300 (show ((0 : Nat) : Int) = 0 from rfl) (show ((0 : Nat) : Int) = 0 from rfl) (i3I (y := (1218 + 12 * a1)) (i3A (i3A (show (1210 : Int32) = i3 1210 from rfl) (i3M (show (12 : Int32) = i3 12 from rfl) (rfl : i3 a1 = i3 a1))) (show (8 : Int32) = i3 8 from rfl)) (by omega) (by omega) (by omega)) (i3A (zm_rd (Z := Z297) (ν := ν) (k := 2) (show ((0 : Nat) : Int) = 0 from rfl) (show ((0 : Nat) : Int) = 0 from rfl) (i3I (y := (1218 + 12 * a1)) (i3A (i3A (show (1210 : Int32) = i3 1210 from rfl) (i3M (show (12 : Int32) = i3 12 from rfl) (rfl : i3 a1 = i3 a1))) (show (8 : Int32) = i3 8 from rfl)) (by omega) (by omega) (by omega))) (show (0 : Int32) = i3 0 from rfl)))
              subst e9
              refine wz_i0 (i3O (n := 4400) (i3A (i3A (show (1210 : Int32) = i3 1210 from rfl) (i3M (show (12 : Int32) = i3 12 from rfl) (rfl : i3 a1 = i3 a1))) (show (6 : Int32) = i3 6 from rfl)) (by omega) (by omega) (by omega)) ?_
              obtain ⟨Z301, hZ301⟩ := zx (zu Z300 2 0 0 (1216 + 12 * a1) 0)
              replace hP := zl_e hP hZ301
              have hZ301I := zM_z2 hZ300I hZ301 (by omega) (by omega) (by omega)
              have hZ301U : zU [] Z Z301 := zU_u hZ300U hZ301 (Or.inl rfl)
              have hZ301K : zC [2] Z Z301 := zC_u hZ300K hZ301 (zcl_2w (by omega) rfl)
              intro μ9 e9
              replace e9 := e9.trans (zm_wI (Z := Z300) (ν := ν) hZ301 (show ((0 : Nat) : Int) = 0 from rfl) (show ((0 : Nat) : Int) = 0 from rfl) (i3I (y := (1216 + 12 * a1)) (i3A (i3A (show (1210 : Int32) = i3 1210 from rfl) (i3M (show (12 : Int32) = i3 12 from rfl) (rfl : i3 a1 = i3 a1))) (show (6 : Int32) = i3 6 from rfl)) (by omega) (by omega) (by omega)) (show (0 : Int32) = i3 0 from rfl))
              subst e9
              exact zlV hP ⟨hZ301I, hZ301K, hZ301U⟩
            · replace hP := zE_n hP h298
              refine wz_i0 (i3O (n := 4400) (i3A (i3A (show (1210 : Int32) = i3 1210 from rfl) (i3M (show (12 : Int32) = i3 12 from rfl) (rfl : i3 a1 = i3 a1))) (show (8 : Int32) = i3 8 from rfl)) (by omega) (by omega) (by omega)) ?_
              have r302 := zM_f hZ297I 2 0 0 (1218 + 12 * a1)
              have r303 := w3_r ((Z297 2 0 0 (1218 + 12 * a1)) + 1)
              obtain ⟨Z304, hZ304⟩ := zx (zu Z297 2 0 0 (1218 + 12 * a1) (w3 ((Z297 2 0 0 (1218 + 12 * a1)) + 1)))
              replace hP := zl_e hP hZ304
              have hZ304I := zM_u2 hZ297I hZ304 (lo := -2147483648) (hi := 2147483647) (zs_1210_8 (x := a1) (by omega) (by omega) (by omega)) (by omega) ⟨by decide, by decide⟩ (by simp only [zsp]; omega)
              have hZ304U : zU [] Z Z304 := zU_u hZ297U hZ304 (Or.inl rfl)
              have hZ304K : zC [2] Z Z304 := zC_u hZ297K hZ304 (zcl_2w (by omega) rfl)
              intro μ9 e9
              replace e9 := e9.trans (zm_wI (Z := Z297) (ν := ν) hZ304 (show ((0 : Nat) : Int) = 0 from rfl) (show ((0 : Nat) : Int) = 0 from rfl) (i3I (y := (1218 + 12 * a1)) (i3A (i3A (show (1210 : Int32) = i3 1210 from rfl) (i3M (show (12 : Int32) = i3 12 from rfl) (rfl : i3 a1 = i3 a1))) (show (8 : Int32) = i3 8 from rfl)) (by omega) (by omega) (by omega)) (i3W (i3A (zm_rd (Z := Z297) (ν := ν) (k := 2) (show ((0 : Nat) : Int) = 0 from rfl) (show ((0 : Nat) : Int) = 0 from rfl) (i3I (y := (1218 + 12 * a1)) (i3A (i3A (show (1210 : Int32) = i3 1210 from rfl) (i3M (show (12 : Int32) = i3 12 from rfl) (rfl : i3 a1 = i3 a1))) (show (8 : Int32) = i3 8 from rfl)) (by omega) (by omega) (by omega))) (show (1 : Int32) = i3 1 from rfl))))
              subst e9
              refine wz_i0 (i3O (n := 4400) (i3A (i3A (show (1210 : Int32) = i3 1210 from rfl) (i3M (show (12 : Int32) = i3 12 from rfl) (rfl : i3 a1 = i3 a1))) (show (6 : Int32) = i3 6 from rfl)) (by omega) (by omega) (by omega)) ?_
              obtain ⟨Z305, hZ305⟩ := zx (zu Z304 2 0 0 (1216 + 12 * a1) 0)
              replace hP := zl_e hP hZ305
              have hZ305I := zM_z2 hZ304I hZ305 (by omega) (by omega) (by omega)
              have hZ305U : zU [] Z Z305 := zU_u hZ304U hZ305 (Or.inl rfl)
              have hZ305K : zC [2] Z Z305 := zC_u hZ304K hZ305 (zcl_2w (by omega) rfl)
              intro μ9 e9
              replace e9 := e9.trans (zm_wI (Z := Z304) (ν := ν) hZ305 (show ((0 : Nat) : Int) = 0 from rfl) (show ((0 : Nat) : Int) = 0 from rfl) (i3I (y := (1216 + 12 * a1)) (i3A (i3A (show (1210 : Int32) = i3 1210 from rfl) (i3M (show (12 : Int32) = i3 12 from rfl) (rfl : i3 a1 = i3 a1))) (show (6 : Int32) = i3 6 from rfl)) (by omega) (by omega) (by omega)) (show (0 : Int32) = i3 0 from rfl))
              subst e9
              exact zlV hP ⟨hZ305I, hZ305K, hZ305U⟩
          · replace hP := zE_n hP h295
            refine wz_i0 (i3O (n := 4400) (i3A (i3A (show (1210 : Int32) = i3 1210 from rfl) (i3M (show (12 : Int32) = i3 12 from rfl) (rfl : i3 a1 = i3 a1))) (show (7 : Int32) = i3 7 from rfl)) (by omega) (by omega) (by omega)) ?_
            have r306 := zM_f hZ294I 2 0 0 (1217 + 12 * a1)
            have r307 := w3_r ((Z294 2 0 0 (1217 + 12 * a1)) + 1)
            obtain ⟨Z308, hZ308⟩ := zx (zu Z294 2 0 0 (1217 + 12 * a1) (w3 ((Z294 2 0 0 (1217 + 12 * a1)) + 1)))
            replace hP := zl_e hP hZ308
            have hZ308I := zM_u2 hZ294I hZ308 (lo := -2147483648) (hi := 2147483647) (zs_1210_7 (x := a1) (by omega) (by omega) (by omega)) (by omega) ⟨by decide, by decide⟩ (by simp only [zsp]; omega)
            have hZ308U : zU [] Z Z308 := zU_u hZ294U hZ308 (Or.inl rfl)
            have hZ308K : zC [2] Z Z308 := zC_u hZ294K hZ308 (zcl_2w (by omega) rfl)
            intro μ9 e9
            replace e9 := e9.trans (zm_wI (Z := Z294) (ν := ν) hZ308 (show ((0 : Nat) : Int) = 0 from rfl) (show ((0 : Nat) : Int) = 0 from rfl) (i3I (y := (1217 + 12 * a1)) (i3A (i3A (show (1210 : Int32) = i3 1210 from rfl) (i3M (show (12 : Int32) = i3 12 from rfl) (rfl : i3 a1 = i3 a1))) (show (7 : Int32) = i3 7 from rfl)) (by omega) (by omega) (by omega)) (i3W (i3A (zm_rd (Z := Z294) (ν := ν) (k := 2) (show ((0 : Nat) : Int) = 0 from rfl) (show ((0 : Nat) : Int) = 0 from rfl) (i3I (y := (1217 + 12 * a1)) (i3A (i3A (show (1210 : Int32) = i3 1210 from rfl) (i3M (show (12 : Int32) = i3 12 from rfl) (rfl : i3 a1 = i3 a1))) (show (7 : Int32) = i3 7 from rfl)) (by omega) (by omega) (by omega))) (show (1 : Int32) = i3 1 from rfl))))
            subst e9
            refine wz_i0 (i3O (n := 4400) (i3A (i3A (show (1210 : Int32) = i3 1210 from rfl) (i3M (show (12 : Int32) = i3 12 from rfl) (rfl : i3 a1 = i3 a1))) (show (8 : Int32) = i3 8 from rfl)) (by omega) (by omega) (by omega)) ?_
            refine wz_br (i3E (zm_rd (Z := Z) (ν := ν) (k := 2) (show ((0 : Nat) : Int) = 0 from rfl) (show ((0 : Nat) : Int) = 0 from rfl) (i3I (y := (1213 + 12 * a1)) (i3A (i3A (show (1210 : Int32) = i3 1210 from rfl) (i3M (show (12 : Int32) = i3 12 from rfl) (rfl : i3 a1 = i3 a1))) (show (3 : Int32) = i3 3 from rfl)) (by omega) (by omega) (by omega))) (i3A (zm_rd (Z := Z) (ν := ν) (k := 2) (show ((0 : Nat) : Int) = 0 from rfl) (show ((0 : Nat) : Int) = 0 from rfl) (i3I (y := (1215 + 12 * a1)) (i3A (i3A (show (1210 : Int32) = i3 1210 from rfl) (i3M (show (12 : Int32) = i3 12 from rfl) (rfl : i3 a1 = i3 a1))) (show (5 : Int32) = i3 5 from rfl)) (by omega) (by omega) (by omega))) (i3A (zm_rd (Z := Z) (ν := ν) (k := 2) (show ((0 : Nat) : Int) = 0 from rfl) (show ((0 : Nat) : Int) = 0 from rfl) (i3I (y := (1212 + 12 * a1)) (i3A (i3A (show (1210 : Int32) = i3 1210 from rfl) (i3M (show (12 : Int32) = i3 12 from rfl) (rfl : i3 a1 = i3 a1))) (show (2 : Int32) = i3 2 from rfl)) (by omega) (by omega) (by omega))) (zm_rd (Z := Z) (ν := ν) (k := 2) (show ((0 : Nat) : Int) = 0 from rfl) (show ((0 : Nat) : Int) = 0 from rfl) (i3I (y := (1216 + 12 * a1)) (i3A (i3A (show (1210 : Int32) = i3 1210 from rfl) (i3M (show (12 : Int32) = i3 12 from rfl) (rfl : i3 a1 = i3 a1))) (show (6 : Int32) = i3 6 from rfl)) (by omega) (by omega) (by omega))))) (by omega) (by omega) (by omega) (by omega)) (fun h309 => ?_) (fun h309 => ?_)
            · replace hP := zE_p hP h309
              refine wz_i0 (i3O (n := 4400) (i3A (i3A (show (1210 : Int32) = i3 1210 from rfl) (i3M (show (12 : Int32) = i3 12 from rfl) (rfl : i3 a1 = i3 a1))) (show (8 : Int32) = i3 8 from rfl)) (by omega) (by omega) (by omega)) ?_
              have r310 := zM_f hZ308I 2 0 0 (1218 + 12 * a1)
              obtain ⟨Z311, hZ311⟩ := zx (zu Z308 2 0 0 (1218 + 12 * a1) ((Z308 2 0 0 (1218 + 12 * a1)) + 0))
              replace hP := zl_e hP hZ311
              have hZ311I := zM_u2 hZ308I hZ311 (lo := -2147483648) (hi := 2147483647) (zs_1210_8 (x := a1) (by omega) (by omega) (by omega)) (by omega) ⟨by decide, by decide⟩ (by simp only [zsp]; omega)
              have hZ311U : zU [] Z Z311 := zU_u hZ308U hZ311 (Or.inl rfl)
              have hZ311K : zC [2] Z Z311 := zC_u hZ308K hZ311 (zcl_2w (by omega) rfl)
              intro μ9 e9
              replace e9 := e9.trans (zm_wI (Z := Z308) (ν := ν) hZ311 (show ((0 : Nat) : Int) = 0 from rfl) (show ((0 : Nat) : Int) = 0 from rfl) (i3I (y := (1218 + 12 * a1)) (i3A (i3A (show (1210 : Int32) = i3 1210 from rfl) (i3M (show (12 : Int32) = i3 12 from rfl) (rfl : i3 a1 = i3 a1))) (show (8 : Int32) = i3 8 from rfl)) (by omega) (by omega) (by omega)) (i3A (zm_rd (Z := Z308) (ν := ν) (k := 2) (show ((0 : Nat) : Int) = 0 from rfl) (show ((0 : Nat) : Int) = 0 from rfl) (i3I (y := (1218 + 12 * a1)) (i3A (i3A (show (1210 : Int32) = i3 1210 from rfl) (i3M (show (12 : Int32) = i3 12 from rfl) (rfl : i3 a1 = i3 a1))) (show (8 : Int32) = i3 8 from rfl)) (by omega) (by omega) (by omega))) (show (0 : Int32) = i3 0 from rfl)))
              subst e9
              refine wz_i0 (i3O (n := 4400) (i3A (i3A (show (1210 : Int32) = i3 1210 from rfl) (i3M (show (12 : Int32) = i3 12 from rfl) (rfl : i3 a1 = i3 a1))) (show (6 : Int32) = i3 6 from rfl)) (by omega) (by omega) (by omega)) ?_
              obtain ⟨Z312, hZ312⟩ := zx (zu Z311 2 0 0 (1216 + 12 * a1) 0)
              replace hP := zl_e hP hZ312
              have hZ312I := zM_z2 hZ311I hZ312 (by omega) (by omega) (by omega)
              have hZ312U : zU [] Z Z312 := zU_u hZ311U hZ312 (Or.inl rfl)
              have hZ312K : zC [2] Z Z312 := zC_u hZ311K hZ312 (zcl_2w (by omega) rfl)
              intro μ9 e9
              replace e9 := e9.trans (zm_wI (Z := Z311) (ν := ν) hZ312 (show ((0 : Nat) : Int) = 0 from rfl) (show ((0 : Nat) : Int) = 0 from rfl) (i3I (y := (1216 + 12 * a1)) (i3A (i3A (show (1210 : Int32) = i3 1210 from rfl) (i3M (show (12 : Int32) = i3 12 from rfl) (rfl : i3 a1 = i3 a1))) (show (6 : Int32) = i3 6 from rfl)) (by omega) (by omega) (by omega)) (show (0 : Int32) = i3 0 from rfl))
              subst e9
              exact zlV hP ⟨hZ312I, hZ312K, hZ312U⟩
            · replace hP := zE_n hP h309
              refine wz_i0 (i3O (n := 4400) (i3A (i3A (show (1210 : Int32) = i3 1210 from rfl) (i3M (show (12 : Int32) = i3 12 from rfl) (rfl : i3 a1 = i3 a1))) (show (8 : Int32) = i3 8 from rfl)) (by omega) (by omega) (by omega)) ?_
              have r313 := zM_f hZ308I 2 0 0 (1218 + 12 * a1)
              have r314 := w3_r ((Z308 2 0 0 (1218 + 12 * a1)) + 1)
              obtain ⟨Z315, hZ315⟩ := zx (zu Z308 2 0 0 (1218 + 12 * a1) (w3 ((Z308 2 0 0 (1218 + 12 * a1)) + 1)))
              replace hP := zl_e hP hZ315
              have hZ315I := zM_u2 hZ308I hZ315 (lo := -2147483648) (hi := 2147483647) (zs_1210_8 (x := a1) (by omega) (by omega) (by omega)) (by omega) ⟨by decide, by decide⟩ (by simp only [zsp]; omega)
              have hZ315U : zU [] Z Z315 := zU_u hZ308U hZ315 (Or.inl rfl)
              have hZ315K : zC [2] Z Z315 := zC_u hZ308K hZ315 (zcl_2w (by omega) rfl)
              intro μ9 e9
              replace e9 := e9.trans (zm_wI (Z := Z308) (ν := ν) hZ315 (show ((0 : Nat) : Int) = 0 from rfl) (show ((0 : Nat) : Int) = 0 from rfl) (i3I (y := (1218 + 12 * a1)) (i3A (i3A (show (1210 : Int32) = i3 1210 from rfl) (i3M (show (12 : Int32) = i3 12 from rfl) (rfl : i3 a1 = i3 a1))) (show (8 : Int32) = i3 8 from rfl)) (by omega) (by omega) (by omega)) (i3W (i3A (zm_rd (Z := Z308) (ν := ν) (k := 2) (show ((0 : Nat) : Int) = 0 from rfl) (show ((0 : Nat) : Int) = 0 from rfl) (i3I (y := (1218 + 12 * a1)) (i3A (i3A (show (1210 : Int32) = i3 1210 from rfl) (i3M (show (12 : Int32) = i3 12 from rfl) (rfl : i3 a1 = i3 a1))) (show (8 : Int32) = i3 8 from rfl)) (by omega) (by omega) (by omega))) (show (1 : Int32) = i3 1 from rfl))))
              subst e9
              refine wz_i0 (i3O (n := 4400) (i3A (i3A (show (1210 : Int32) = i3 1210 from rfl) (i3M (show (12 : Int32) = i3 12 from rfl) (rfl : i3 a1 = i3 a1))) (show (6 : Int32) = i3 6 from rfl)) (by omega) (by omega) (by omega)) ?_
              obtain ⟨Z316, hZ316⟩ := zx (zu Z315 2 0 0 (1216 + 12 * a1) 0)
              replace hP := zl_e hP hZ316
              have hZ316I := zM_z2 hZ315I hZ316 (by omega) (by omega) (by omega)
              have hZ316U : zU [] Z Z316 := zU_u hZ315U hZ316 (Or.inl rfl)
              have hZ316K : zC [2] Z Z316 := zC_u hZ315K hZ316 (zcl_2w (by omega) rfl)
              intro μ9 e9
              replace e9 := e9.trans (zm_wI (Z := Z315) (ν := ν) hZ316 (show ((0 : Nat) : Int) = 0 from rfl) (show ((0 : Nat) : Int) = 0 from rfl) (i3I (y := (1216 + 12 * a1)) (i3A (i3A (show (1210 : Int32) = i3 1210 from rfl) (i3M (show (12 : Int32) = i3 12 from rfl) (rfl : i3 a1 = i3 a1))) (show (6 : Int32) = i3 6 from rfl)) (by omega) (by omega) (by omega)) (show (0 : Int32) = i3 0 from rfl))
              subst e9
              exact zlV hP ⟨hZ316I, hZ316K, hZ316U⟩
        · replace hP := zE_n hP h293
          refine wz_i0 (i3O (n := 4400) (i3A (i3A (show (1210 : Int32) = i3 1210 from rfl) (i3M (show (12 : Int32) = i3 12 from rfl) (rfl : i3 a1 = i3 a1))) (show (5 : Int32) = i3 5 from rfl)) (by omega) (by omega) (by omega)) ?_
          obtain ⟨Z317, hZ317⟩ := zx (zu Z 2 0 0 (1215 + 12 * a1) (((Z 2 0 0 (1215 + 12 * a1)) + ((Z 2 0 0 (1212 + 12 * a1)) + (Z 2 0 0 (1216 + 12 * a1)))) + (Z 2 0 0 (1211 + 12 * a1))))
          replace hP := zl_e hP hZ317
          have hZ317I := zM_u2 hZ hZ317 (lo := 0) (hi := 40) (zs_1210_5 (x := a1) (by omega) (by omega) (by omega)) (by omega) ⟨by decide, by decide⟩ (by simp only [zsp]; omega)
          have hZ317U : zU [] Z Z317 := zU_u zU_r hZ317 (Or.inl rfl)
          have hZ317K : zC [2] Z Z317 := zC_u zC_r hZ317 (zcl_2w (by omega) rfl)
          intro μ9 e9
          replace e9 := e9.trans (zm_wI (Z := Z) (ν := ν) hZ317 (show ((0 : Nat) : Int) = 0 from rfl) (show ((0 : Nat) : Int) = 0 from rfl) (i3I (y := (1215 + 12 * a1)) (i3A (i3A (show (1210 : Int32) = i3 1210 from rfl) (i3M (show (12 : Int32) = i3 12 from rfl) (rfl : i3 a1 = i3 a1))) (show (5 : Int32) = i3 5 from rfl)) (by omega) (by omega) (by omega)) (i3A (i3A (zm_rd (Z := Z) (ν := ν) (k := 2) (show ((0 : Nat) : Int) = 0 from rfl) (show ((0 : Nat) : Int) = 0 from rfl) (i3I (y := (1215 + 12 * a1)) (i3A (i3A (show (1210 : Int32) = i3 1210 from rfl) (i3M (show (12 : Int32) = i3 12 from rfl) (rfl : i3 a1 = i3 a1))) (show (5 : Int32) = i3 5 from rfl)) (by omega) (by omega) (by omega))) (i3A (zm_rd (Z := Z) (ν := ν) (k := 2) (show ((0 : Nat) : Int) = 0 from rfl) (show ((0 : Nat) : Int) = 0 from rfl) (i3I (y := (1212 + 12 * a1)) (i3A (i3A (show (1210 : Int32) = i3 1210 from rfl) (i3M (show (12 : Int32) = i3 12 from rfl) (rfl : i3 a1 = i3 a1))) (show (2 : Int32) = i3 2 from rfl)) (by omega) (by omega) (by omega))) (zm_rd (Z := Z) (ν := ν) (k := 2) (show ((0 : Nat) : Int) = 0 from rfl) (show ((0 : Nat) : Int) = 0 from rfl) (i3I (y := (1216 + 12 * a1)) (i3A (i3A (show (1210 : Int32) = i3 1210 from rfl) (i3M (show (12 : Int32) = i3 12 from rfl) (rfl : i3 a1 = i3 a1))) (show (6 : Int32) = i3 6 from rfl)) (by omega) (by omega) (by omega))))) (zm_rd (Z := Z) (ν := ν) (k := 2) (show ((0 : Nat) : Int) = 0 from rfl) (show ((0 : Nat) : Int) = 0 from rfl) (i3I (y := (1211 + 12 * a1)) (i3A (i3A (show (1210 : Int32) = i3 1210 from rfl) (i3M (show (12 : Int32) = i3 12 from rfl) (rfl : i3 a1 = i3 a1))) (show (1 : Int32) = i3 1 from rfl)) (by omega) (by omega) (by omega)))))
          subst e9
          refine wz_i0 (i3O (n := 4400) (i3A (i3A (show (1210 : Int32) = i3 1210 from rfl) (i3M (show (12 : Int32) = i3 12 from rfl) (rfl : i3 a1 = i3 a1))) (show (7 : Int32) = i3 7 from rfl)) (by omega) (by omega) (by omega)) ?_
          refine wz_br (i3E (i3A (i3A (zm_rd (Z := Z) (ν := ν) (k := 2) (show ((0 : Nat) : Int) = 0 from rfl) (show ((0 : Nat) : Int) = 0 from rfl) (i3I (y := (1215 + 12 * a1)) (i3A (i3A (show (1210 : Int32) = i3 1210 from rfl) (i3M (show (12 : Int32) = i3 12 from rfl) (rfl : i3 a1 = i3 a1))) (show (5 : Int32) = i3 5 from rfl)) (by omega) (by omega) (by omega))) (i3A (zm_rd (Z := Z) (ν := ν) (k := 2) (show ((0 : Nat) : Int) = 0 from rfl) (show ((0 : Nat) : Int) = 0 from rfl) (i3I (y := (1212 + 12 * a1)) (i3A (i3A (show (1210 : Int32) = i3 1210 from rfl) (i3M (show (12 : Int32) = i3 12 from rfl) (rfl : i3 a1 = i3 a1))) (show (2 : Int32) = i3 2 from rfl)) (by omega) (by omega) (by omega))) (zm_rd (Z := Z) (ν := ν) (k := 2) (show ((0 : Nat) : Int) = 0 from rfl) (show ((0 : Nat) : Int) = 0 from rfl) (i3I (y := (1216 + 12 * a1)) (i3A (i3A (show (1210 : Int32) = i3 1210 from rfl) (i3M (show (12 : Int32) = i3 12 from rfl) (rfl : i3 a1 = i3 a1))) (show (6 : Int32) = i3 6 from rfl)) (by omega) (by omega) (by omega))))) (zm_rd (Z := Z) (ν := ν) (k := 2) (show ((0 : Nat) : Int) = 0 from rfl) (show ((0 : Nat) : Int) = 0 from rfl) (i3I (y := (1211 + 12 * a1)) (i3A (i3A (show (1210 : Int32) = i3 1210 from rfl) (i3M (show (12 : Int32) = i3 12 from rfl) (rfl : i3 a1 = i3 a1))) (show (1 : Int32) = i3 1 from rfl)) (by omega) (by omega) (by omega)))) (i3A (zm_rd (Z := Z) (ν := ν) (k := 2) (show ((0 : Nat) : Int) = 0 from rfl) (show ((0 : Nat) : Int) = 0 from rfl) (i3I (y := (1215 + 12 * a1)) (i3A (i3A (show (1210 : Int32) = i3 1210 from rfl) (i3M (show (12 : Int32) = i3 12 from rfl) (rfl : i3 a1 = i3 a1))) (show (5 : Int32) = i3 5 from rfl)) (by omega) (by omega) (by omega))) (i3A (zm_rd (Z := Z) (ν := ν) (k := 2) (show ((0 : Nat) : Int) = 0 from rfl) (show ((0 : Nat) : Int) = 0 from rfl) (i3I (y := (1212 + 12 * a1)) (i3A (i3A (show (1210 : Int32) = i3 1210 from rfl) (i3M (show (12 : Int32) = i3 12 from rfl) (rfl : i3 a1 = i3 a1))) (show (2 : Int32) = i3 2 from rfl)) (by omega) (by omega) (by omega))) (zm_rd (Z := Z) (ν := ν) (k := 2) (show ((0 : Nat) : Int) = 0 from rfl) (show ((0 : Nat) : Int) = 0 from rfl) (i3I (y := (1216 + 12 * a1)) (i3A (i3A (show (1210 : Int32) = i3 1210 from rfl) (i3M (show (12 : Int32) = i3 12 from rfl) (rfl : i3 a1 = i3 a1))) (show (6 : Int32) = i3 6 from rfl)) (by omega) (by omega) (by omega))))) (by omega) (by omega) (by omega) (by omega)) (fun h318 => ?_) (fun h318 => ?_)
          · replace hP := zE_p hP h318
            refine wz_i0 (i3O (n := 4400) (i3A (i3A (show (1210 : Int32) = i3 1210 from rfl) (i3M (show (12 : Int32) = i3 12 from rfl) (rfl : i3 a1 = i3 a1))) (show (7 : Int32) = i3 7 from rfl)) (by omega) (by omega) (by omega)) ?_
            have r319 := zM_f hZ317I 2 0 0 (1217 + 12 * a1)
            obtain ⟨Z320, hZ320⟩ := zx (zu Z317 2 0 0 (1217 + 12 * a1) ((Z317 2 0 0 (1217 + 12 * a1)) + 0))
            replace hP := zl_e hP hZ320
            have hZ320I := zM_u2 hZ317I hZ320 (lo := -2147483648) (hi := 2147483647) (zs_1210_7 (x := a1) (by omega) (by omega) (by omega)) (by omega) ⟨by decide, by decide⟩ (by simp only [zsp]; omega)
            have hZ320U : zU [] Z Z320 := zU_u hZ317U hZ320 (Or.inl rfl)
            have hZ320K : zC [2] Z Z320 := zC_u hZ317K hZ320 (zcl_2w (by omega) rfl)
            intro μ9 e9
            replace e9 := e9.trans (zm_wI (Z := Z317) (ν := ν) hZ320 (show ((0 : Nat) : Int) = 0 from rfl) (show ((0 : Nat) : Int) = 0 from rfl) (i3I (y := (1217 + 12 * a1)) (i3A (i3A (show (1210 : Int32) = i3 1210 from rfl) (i3M (show (12 : Int32) = i3 12 from rfl) (rfl : i3 a1 = i3 a1))) (show (7 : Int32) = i3 7 from rfl)) (by omega) (by omega) (by omega)) (i3A (zm_rd (Z := Z317) (ν := ν) (k := 2) (show ((0 : Nat) : Int) = 0 from rfl) (show ((0 : Nat) : Int) = 0 from rfl) (i3I (y := (1217 + 12 * a1)) (i3A (i3A (show (1210 : Int32) = i3 1210 from rfl) (i3M (show (12 : Int32) = i3 12 from rfl) (rfl : i3 a1 = i3 a1))) (show (7 : Int32) = i3 7 from rfl)) (by omega) (by omega) (by omega))) (show (0 : Int32) = i3 0 from rfl)))
            subst e9
            refine wz_i0 (i3O (n := 4400) (i3A (i3A (show (1210 : Int32) = i3 1210 from rfl) (i3M (show (12 : Int32) = i3 12 from rfl) (rfl : i3 a1 = i3 a1))) (show (8 : Int32) = i3 8 from rfl)) (by omega) (by omega) (by omega)) ?_
            refine wz_i1 (Eq.trans (i3E (i3A (i3A (zm_rd (Z := Z) (ν := ν) (k := 2) (show ((0 : Nat) : Int) = 0 from rfl) (show ((0 : Nat) : Int) = 0 from rfl) (i3I (y := (1215 + 12 * a1)) (i3A (i3A (show (1210 : Int32) = i3 1210 from rfl) (i3M (show (12 : Int32) = i3 12 from rfl) (rfl : i3 a1 = i3 a1))) (show (5 : Int32) = i3 5 from rfl)) (by omega) (by omega) (by omega))) (i3A (zm_rd (Z := Z) (ν := ν) (k := 2) (show ((0 : Nat) : Int) = 0 from rfl) (show ((0 : Nat) : Int) = 0 from rfl) (i3I (y := (1212 + 12 * a1)) (i3A (i3A (show (1210 : Int32) = i3 1210 from rfl) (i3M (show (12 : Int32) = i3 12 from rfl) (rfl : i3 a1 = i3 a1))) (show (2 : Int32) = i3 2 from rfl)) (by omega) (by omega) (by omega))) (zm_rd (Z := Z) (ν := ν) (k := 2) (show ((0 : Nat) : Int) = 0 from rfl) (show ((0 : Nat) : Int) = 0 from rfl) (i3I (y := (1216 + 12 * a1)) (i3A (i3A (show (1210 : Int32) = i3 1210 from rfl) (i3M (show (12 : Int32) = i3 12 from rfl) (rfl : i3 a1 = i3 a1))) (show (6 : Int32) = i3 6 from rfl)) (by omega) (by omega) (by omega))))) (zm_rd (Z := Z) (ν := ν) (k := 2) (show ((0 : Nat) : Int) = 0 from rfl) (show ((0 : Nat) : Int) = 0 from rfl) (i3I (y := (1211 + 12 * a1)) (i3A (i3A (show (1210 : Int32) = i3 1210 from rfl) (i3M (show (12 : Int32) = i3 12 from rfl) (rfl : i3 a1 = i3 a1))) (show (1 : Int32) = i3 1 from rfl)) (by omega) (by omega) (by omega)))) (i3A (zm_rd (Z := Z) (ν := ν) (k := 2) (show ((0 : Nat) : Int) = 0 from rfl) (show ((0 : Nat) : Int) = 0 from rfl) (i3I (y := (1215 + 12 * a1)) (i3A (i3A (show (1210 : Int32) = i3 1210 from rfl) (i3M (show (12 : Int32) = i3 12 from rfl) (rfl : i3 a1 = i3 a1))) (show (5 : Int32) = i3 5 from rfl)) (by omega) (by omega) (by omega))) (i3A (zm_rd (Z := Z) (ν := ν) (k := 2) (show ((0 : Nat) : Int) = 0 from rfl) (show ((0 : Nat) : Int) = 0 from rfl) (i3I (y := (1212 + 12 * a1)) (i3A (i3A (show (1210 : Int32) = i3 1210 from rfl) (i3M (show (12 : Int32) = i3 12 from rfl) (rfl : i3 a1 = i3 a1))) (show (2 : Int32) = i3 2 from rfl)) (by omega) (by omega) (by omega))) (zm_rd (Z := Z) (ν := ν) (k := 2) (show ((0 : Nat) : Int) = 0 from rfl) (show ((0 : Nat) : Int) = 0 from rfl) (i3I (y := (1216 + 12 * a1)) (i3A (i3A (show (1210 : Int32) = i3 1210 from rfl) (i3M (show (12 : Int32) = i3 12 from rfl) (rfl : i3 a1 = i3 a1))) (show (6 : Int32) = i3 6 from rfl)) (by omega) (by omega) (by omega))))) (by omega) (by omega) (by omega) (by omega)) (decide_eq_true (by omega))) ?_
            refine wz_i0 (i3O (n := 4400) (i3A (i3A (show (1210 : Int32) = i3 1210 from rfl) (i3M (show (12 : Int32) = i3 12 from rfl) (rfl : i3 a1 = i3 a1))) (show (8 : Int32) = i3 8 from rfl)) (by omega) (by omega) (by omega)) ?_
            have r321 := zM_f hZ320I 2 0 0 (1218 + 12 * a1)
            obtain ⟨Z322, hZ322⟩ := zx (zu Z320 2 0 0 (1218 + 12 * a1) ((Z320 2 0 0 (1218 + 12 * a1)) + 0))
            replace hP := zl_e hP hZ322
            have hZ322I := zM_u2 hZ320I hZ322 (lo := -2147483648) (hi := 2147483647) (zs_1210_8 (x := a1) (by omega) (by omega) (by omega)) (by omega) ⟨by decide, by decide⟩ (by simp only [zsp]; omega)
            have hZ322U : zU [] Z Z322 := zU_u hZ320U hZ322 (Or.inl rfl)
            have hZ322K : zC [2] Z Z322 := zC_u hZ320K hZ322 (zcl_2w (by omega) rfl)
            intro μ9 e9
            replace e9 := e9.trans (zm_wI (Z := Z320) (ν := ν) hZ322 (show ((0 : Nat) : Int) = 0 from rfl) (show ((0 : Nat) : Int) = 0 from rfl) (i3I (y := (1218 + 12 * a1)) (i3A (i3A (show (1210 : Int32) = i3 1210 from rfl) (i3M (show (12 : Int32) = i3 12 from rfl) (rfl : i3 a1 = i3 a1))) (show (8 : Int32) = i3 8 from rfl)) (by omega) (by omega) (by omega)) (i3A (zm_rd (Z := Z320) (ν := ν) (k := 2) (show ((0 : Nat) : Int) = 0 from rfl) (show ((0 : Nat) : Int) = 0 from rfl) (i3I (y := (1218 + 12 * a1)) (i3A (i3A (show (1210 : Int32) = i3 1210 from rfl) (i3M (show (12 : Int32) = i3 12 from rfl) (rfl : i3 a1 = i3 a1))) (show (8 : Int32) = i3 8 from rfl)) (by omega) (by omega) (by omega))) (show (0 : Int32) = i3 0 from rfl)))
            subst e9
            refine wz_i0 (i3O (n := 4400) (i3A (i3A (show (1210 : Int32) = i3 1210 from rfl) (i3M (show (12 : Int32) = i3 12 from rfl) (rfl : i3 a1 = i3 a1))) (show (6 : Int32) = i3 6 from rfl)) (by omega) (by omega) (by omega)) ?_
            obtain ⟨Z323, hZ323⟩ := zx (zu Z322 2 0 0 (1216 + 12 * a1) 0)
            replace hP := zl_e hP hZ323
            have hZ323I := zM_z2 hZ322I hZ323 (by omega) (by omega) (by omega)
            have hZ323U : zU [] Z Z323 := zU_u hZ322U hZ323 (Or.inl rfl)
            have hZ323K : zC [2] Z Z323 := zC_u hZ322K hZ323 (zcl_2w (by omega) rfl)
            intro μ9 e9
            replace e9 := e9.trans (zm_wI (Z := Z322) (ν := ν) hZ323 (show ((0 : Nat) : Int) = 0 from rfl) (show ((0 : Nat) : Int) = 0 from rfl) (i3I (y := (1216 + 12 * a1)) (i3A (i3A (show (1210 : Int32) = i3 1210 from rfl) (i3M (show (12 : Int32) = i3 12 from rfl) (rfl : i3 a1 = i3 a1))) (show (6 : Int32) = i3 6 from rfl)) (by omega) (by omega) (by omega)) (show (0 : Int32) = i3 0 from rfl))
            subst e9
            exact zlV hP ⟨hZ323I, hZ323K, hZ323U⟩
          · replace hP := zE_n hP h318
            refine wz_i0 (i3O (n := 4400) (i3A (i3A (show (1210 : Int32) = i3 1210 from rfl) (i3M (show (12 : Int32) = i3 12 from rfl) (rfl : i3 a1 = i3 a1))) (show (7 : Int32) = i3 7 from rfl)) (by omega) (by omega) (by omega)) ?_
            have r324 := zM_f hZ317I 2 0 0 (1217 + 12 * a1)
            have r325 := w3_r ((Z317 2 0 0 (1217 + 12 * a1)) + 1)
            obtain ⟨Z326, hZ326⟩ := zx (zu Z317 2 0 0 (1217 + 12 * a1) (w3 ((Z317 2 0 0 (1217 + 12 * a1)) + 1)))
            replace hP := zl_e hP hZ326
            have hZ326I := zM_u2 hZ317I hZ326 (lo := -2147483648) (hi := 2147483647) (zs_1210_7 (x := a1) (by omega) (by omega) (by omega)) (by omega) ⟨by decide, by decide⟩ (by simp only [zsp]; omega)
            have hZ326U : zU [] Z Z326 := zU_u hZ317U hZ326 (Or.inl rfl)
            have hZ326K : zC [2] Z Z326 := zC_u hZ317K hZ326 (zcl_2w (by omega) rfl)
            intro μ9 e9
            replace e9 := e9.trans (zm_wI (Z := Z317) (ν := ν) hZ326 (show ((0 : Nat) : Int) = 0 from rfl) (show ((0 : Nat) : Int) = 0 from rfl) (i3I (y := (1217 + 12 * a1)) (i3A (i3A (show (1210 : Int32) = i3 1210 from rfl) (i3M (show (12 : Int32) = i3 12 from rfl) (rfl : i3 a1 = i3 a1))) (show (7 : Int32) = i3 7 from rfl)) (by omega) (by omega) (by omega)) (i3W (i3A (zm_rd (Z := Z317) (ν := ν) (k := 2) (show ((0 : Nat) : Int) = 0 from rfl) (show ((0 : Nat) : Int) = 0 from rfl) (i3I (y := (1217 + 12 * a1)) (i3A (i3A (show (1210 : Int32) = i3 1210 from rfl) (i3M (show (12 : Int32) = i3 12 from rfl) (rfl : i3 a1 = i3 a1))) (show (7 : Int32) = i3 7 from rfl)) (by omega) (by omega) (by omega))) (show (1 : Int32) = i3 1 from rfl))))
            subst e9
            refine wz_i0 (i3O (n := 4400) (i3A (i3A (show (1210 : Int32) = i3 1210 from rfl) (i3M (show (12 : Int32) = i3 12 from rfl) (rfl : i3 a1 = i3 a1))) (show (8 : Int32) = i3 8 from rfl)) (by omega) (by omega) (by omega)) ?_
            refine wz_i0 (Eq.trans (i3E (i3A (i3A (zm_rd (Z := Z) (ν := ν) (k := 2) (show ((0 : Nat) : Int) = 0 from rfl) (show ((0 : Nat) : Int) = 0 from rfl) (i3I (y := (1215 + 12 * a1)) (i3A (i3A (show (1210 : Int32) = i3 1210 from rfl) (i3M (show (12 : Int32) = i3 12 from rfl) (rfl : i3 a1 = i3 a1))) (show (5 : Int32) = i3 5 from rfl)) (by omega) (by omega) (by omega))) (i3A (zm_rd (Z := Z) (ν := ν) (k := 2) (show ((0 : Nat) : Int) = 0 from rfl) (show ((0 : Nat) : Int) = 0 from rfl) (i3I (y := (1212 + 12 * a1)) (i3A (i3A (show (1210 : Int32) = i3 1210 from rfl) (i3M (show (12 : Int32) = i3 12 from rfl) (rfl : i3 a1 = i3 a1))) (show (2 : Int32) = i3 2 from rfl)) (by omega) (by omega) (by omega))) (zm_rd (Z := Z) (ν := ν) (k := 2) (show ((0 : Nat) : Int) = 0 from rfl) (show ((0 : Nat) : Int) = 0 from rfl) (i3I (y := (1216 + 12 * a1)) (i3A (i3A (show (1210 : Int32) = i3 1210 from rfl) (i3M (show (12 : Int32) = i3 12 from rfl) (rfl : i3 a1 = i3 a1))) (show (6 : Int32) = i3 6 from rfl)) (by omega) (by omega) (by omega))))) (zm_rd (Z := Z) (ν := ν) (k := 2) (show ((0 : Nat) : Int) = 0 from rfl) (show ((0 : Nat) : Int) = 0 from rfl) (i3I (y := (1211 + 12 * a1)) (i3A (i3A (show (1210 : Int32) = i3 1210 from rfl) (i3M (show (12 : Int32) = i3 12 from rfl) (rfl : i3 a1 = i3 a1))) (show (1 : Int32) = i3 1 from rfl)) (by omega) (by omega) (by omega)))) (i3A (zm_rd (Z := Z) (ν := ν) (k := 2) (show ((0 : Nat) : Int) = 0 from rfl) (show ((0 : Nat) : Int) = 0 from rfl) (i3I (y := (1215 + 12 * a1)) (i3A (i3A (show (1210 : Int32) = i3 1210 from rfl) (i3M (show (12 : Int32) = i3 12 from rfl) (rfl : i3 a1 = i3 a1))) (show (5 : Int32) = i3 5 from rfl)) (by omega) (by omega) (by omega))) (i3A (zm_rd (Z := Z) (ν := ν) (k := 2) (show ((0 : Nat) : Int) = 0 from rfl) (show ((0 : Nat) : Int) = 0 from rfl) (i3I (y := (1212 + 12 * a1)) (i3A (i3A (show (1210 : Int32) = i3 1210 from rfl) (i3M (show (12 : Int32) = i3 12 from rfl) (rfl : i3 a1 = i3 a1))) (show (2 : Int32) = i3 2 from rfl)) (by omega) (by omega) (by omega))) (zm_rd (Z := Z) (ν := ν) (k := 2) (show ((0 : Nat) : Int) = 0 from rfl) (show ((0 : Nat) : Int) = 0 from rfl) (i3I (y := (1216 + 12 * a1)) (i3A (i3A (show (1210 : Int32) = i3 1210 from rfl) (i3M (show (12 : Int32) = i3 12 from rfl) (rfl : i3 a1 = i3 a1))) (show (6 : Int32) = i3 6 from rfl)) (by omega) (by omega) (by omega))))) (by omega) (by omega) (by omega) (by omega)) (decide_eq_false (by omega))) ?_
            refine wz_i0 (i3O (n := 4400) (i3A (i3A (show (1210 : Int32) = i3 1210 from rfl) (i3M (show (12 : Int32) = i3 12 from rfl) (rfl : i3 a1 = i3 a1))) (show (8 : Int32) = i3 8 from rfl)) (by omega) (by omega) (by omega)) ?_
            have r327 := zM_f hZ326I 2 0 0 (1218 + 12 * a1)
            have r328 := w3_r ((Z326 2 0 0 (1218 + 12 * a1)) + 1)
            obtain ⟨Z329, hZ329⟩ := zx (zu Z326 2 0 0 (1218 + 12 * a1) (w3 ((Z326 2 0 0 (1218 + 12 * a1)) + 1)))
            replace hP := zl_e hP hZ329
            have hZ329I := zM_u2 hZ326I hZ329 (lo := -2147483648) (hi := 2147483647) (zs_1210_8 (x := a1) (by omega) (by omega) (by omega)) (by omega) ⟨by decide, by decide⟩ (by simp only [zsp]; omega)
            have hZ329U : zU [] Z Z329 := zU_u hZ326U hZ329 (Or.inl rfl)
            have hZ329K : zC [2] Z Z329 := zC_u hZ326K hZ329 (zcl_2w (by omega) rfl)
            intro μ9 e9
            replace e9 := e9.trans (zm_wI (Z := Z326) (ν := ν) hZ329 (show ((0 : Nat) : Int) = 0 from rfl) (show ((0 : Nat) : Int) = 0 from rfl) (i3I (y := (1218 + 12 * a1)) (i3A (i3A (show (1210 : Int32) = i3 1210 from rfl) (i3M (show (12 : Int32) = i3 12 from rfl) (rfl : i3 a1 = i3 a1))) (show (8 : Int32) = i3 8 from rfl)) (by omega) (by omega) (by omega)) (i3W (i3A (zm_rd (Z := Z326) (ν := ν) (k := 2) (show ((0 : Nat) : Int) = 0 from rfl) (show ((0 : Nat) : Int) = 0 from rfl) (i3I (y := (1218 + 12 * a1)) (i3A (i3A (show (1210 : Int32) = i3 1210 from rfl) (i3M (show (12 : Int32) = i3 12 from rfl) (rfl : i3 a1 = i3 a1))) (show (8 : Int32) = i3 8 from rfl)) (by omega) (by omega) (by omega))) (show (1 : Int32) = i3 1 from rfl))))
            subst e9
            refine wz_i0 (i3O (n := 4400) (i3A (i3A (show (1210 : Int32) = i3 1210 from rfl) (i3M (show (12 : Int32) = i3 12 from rfl) (rfl : i3 a1 = i3 a1))) (show (6 : Int32) = i3 6 from rfl)) (by omega) (by omega) (by omega)) ?_
            obtain ⟨Z330, hZ330⟩ := zx (zu Z329 2 0 0 (1216 + 12 * a1) 0)
            replace hP := zl_e hP hZ330
            have hZ330I := zM_z2 hZ329I hZ330 (by omega) (by omega) (by omega)
            have hZ330U : zU [] Z Z330 := zU_u hZ329U hZ330 (Or.inl rfl)
            have hZ330K : zC [2] Z Z330 := zC_u hZ329K hZ330 (zcl_2w (by omega) rfl)
            intro μ9 e9
            replace e9 := e9.trans (zm_wI (Z := Z329) (ν := ν) hZ330 (show ((0 : Nat) : Int) = 0 from rfl) (show ((0 : Nat) : Int) = 0 from rfl) (i3I (y := (1216 + 12 * a1)) (i3A (i3A (show (1210 : Int32) = i3 1210 from rfl) (i3M (show (12 : Int32) = i3 12 from rfl) (rfl : i3 a1 = i3 a1))) (show (6 : Int32) = i3 6 from rfl)) (by omega) (by omega) (by omega)) (show (0 : Int32) = i3 0 from rfl))
            subst e9
            exact zlV hP ⟨hZ330I, hZ330K, hZ330U⟩
/- yX12_rHour -/
def zl_471_1 : Nat → qz_Z → Int → qz_Z × Int
  | 0, Z, x1 => (Z, x1)
  | m + 1, Z, x1 => (if (Z 2 0 0 1200) ≤ x1 then (Z, x1) else (zlet (zf_490 Z x1) (fun Z3 => zl_471_1 m Z3 (x1 + 1))))
theorem sl_471_1 {s : zSM} {Zs Z : qz_Z} {ν : qz_N} (hZ : zM s Z) (hM : s.2 + 0 ≤ 1000000000) (hK : zC [2] Zs Z) {x1 : Int} (gx1 : 0 ≤ x1 ∧ x1 ≤ 6) (hU : zU [] Zs Z) {k : wz_K} {R : wz_R} {L : qz_L} (hL : qz_fg [true, true] L = [some (.inr (.inr (some (1, 0, 0)))), some (.inl (i3 x1))]) {T : qz_Z × Int} (hP : zE T (zl_471_1 ((6 - x1).toNat + 1) Z x1)) (hk : ∀ (L9 : qz_L) (Z9 : qz_Z) (yx1 : Int), qz_fg [true, false] L9 = [some (.inr (.inr (some (1, 0, 0)))), none] → zM s Z9 → zC [2] Zs Z9 → zU [] Zs Z9 → (0 ≤ yx1 ∧ yx1 ≤ 6) → zE T ((Z9, yx1)) → k 0 (L9, [], zm Z9 ν)) : wz_loop qb_471_1 65536 k R (L, [], zm Z ν) := by
  refine wz_lp sb_471_1 (fun m x => ∃ Z : qz_Z, ∃ x1 : Int, qz_fg [true, true] x.1 = [some (.inr (.inr (some (1, 0, 0)))), some (.inl (i3 x1))] ∧ x.2 = ([], zm Z ν) ∧ zM s Z ∧ zC [2] Zs Z ∧ zU [] Zs Z ∧ m = (6 - x1).toNat ∧ (0 ≤ x1 ∧ x1 ≤ 6) ∧ zE T (zl_471_1 (m + 1) Z x1)) ?_ 65536 ((6 - x1).toNat) _ (by omega) ⟨Z, x1, hL, rfl, hZ, hK, hU, rfl, gx1, hP⟩
  clear hP gx1 hZ hK hU hL
  clear x1
  clear Z
  rintro m ⟨L, st, μ⟩ ⟨Z, x1, hL, hx, hZ, hK, hU, hm, gx1, hP⟩
  cases hx
  refine fb_471_1 (i3 x1) _ _ _ _ hL ?_
  have r1 := zM_k hZ 2 0 0 1200 (lo := 0) (hi := 6) (by decide) rfl
  refine wz_br (i3Le (zm_rd (Z := Z) (ν := ν) (k := 2) (show ((0 : Nat) : Int) = 0 from rfl) (show ((0 : Nat) : Int) = 0 from rfl) (show ((1200 : Nat) : Int) = 1200 from rfl)) (rfl : i3 x1 = i3 x1) (by omega) (by omega) (by omega) (by omega)) (fun h2 => ?_) (fun h2 => ?_)
  · replace hP := zE_p hP h2
    exact hk _ _ _ (zconso rfl (zconso rfl rfl)) hZ hK hU (by omega)  hP
  · replace hP := zE_n hP h2
    obtain ⟨Z3, hZ3, c9, hZ3I, kZ3, jZ3⟩ := sp_490 (ν := ν) hZ (a1 := x1) (by omega) (zbh (c := 0) (k := 0) hM (Nat.le_of_ble_eq_true rfl))
    have hZ3U : zU [] Zs Z3 := zU_t hU jZ3 zU_b0
    have hZ3K : zC [2] Zs Z3 := zC_t hK kZ3 (by decide)
    replace hP := zl_e hP hZ3
    refine wz_cV_of (zas (zcons rfl (zcons (zvi (rfl : i3 x1 = i3 x1)) rfl)) c9) ?_
    clear c9
    obtain ⟨m2, rfl⟩ : ∃ m2, m = m2 + 1 := ⟨m - 1, by omega⟩
    exact wz_k1 ⟨m2, by omega, Z3, (x1 + 1), (zconso rfl (zconso (zvo (i3A (rfl : i3 x1 = i3 x1) (show (1 : Int32) = i3 1 from rfl))) rfl)), rfl, hZ3I, hZ3K, hZ3U, by omega, by omega,  hP⟩
/- yX12_rHour -/
def zl_471_2 : Nat → qz_Z → Int → qz_Z × Int
  | 0, Z, x1 => (Z, x1)
  | m + 1, Z, x1 => (if (Z 2 0 0 102) ≤ x1 then (Z, x1) else (if 1 < (Z 2 0 0 (210 + 20 * x1)) then zl_471_2 m Z (x1 + 1) else (zlet (zf_481 Z x1) (fun Z6 => zl_471_2 m Z6 (x1 + 1)))))
theorem sl_471_2 {s : zSM} {Zs Z : qz_Z} {ν : qz_N} (hZ : zM s Z) (hM : s.2 + 0 ≤ 1000000000) (hK : zC [2] Zs Z) {x1 : Int} (gx1 : 0 ≤ x1 ∧ x1 ≤ 48) (hU : zU [] Zs Z) {k : wz_K} {R : wz_R} {L : qz_L} (hL : qz_fg [true, true] L = [some (.inr (.inr (some (1, 0, 0)))), some (.inl (i3 x1))]) {T : qz_Z × Int} (hP : zE T (zl_471_2 ((48 - x1).toNat + 1) Z x1)) (hk : ∀ (L9 : qz_L) (Z9 : qz_Z) (yx1 : Int), qz_fg [true, false] L9 = [some (.inr (.inr (some (1, 0, 0)))), none] → zM s Z9 → zC [2] Zs Z9 → zU [] Zs Z9 → (0 ≤ yx1 ∧ yx1 ≤ 48) → zE T ((Z9, yx1)) → k 0 (L9, [], zm Z9 ν)) : wz_loop qb_471_2 65536 k R (L, [], zm Z ν) := by
  refine wz_lp sb_471_2 (fun m x => ∃ Z : qz_Z, ∃ x1 : Int, qz_fg [true, true] x.1 = [some (.inr (.inr (some (1, 0, 0)))), some (.inl (i3 x1))] ∧ x.2 = ([], zm Z ν) ∧ zM s Z ∧ zC [2] Zs Z ∧ zU [] Zs Z ∧ m = (48 - x1).toNat ∧ (0 ≤ x1 ∧ x1 ≤ 48) ∧ zE T (zl_471_2 (m + 1) Z x1)) ?_ 65536 ((48 - x1).toNat) _ (by omega) ⟨Z, x1, hL, rfl, hZ, hK, hU, rfl, gx1, hP⟩
  clear hP gx1 hZ hK hU hL
  clear x1
  clear Z
  rintro m ⟨L, st, μ⟩ ⟨Z, x1, hL, hx, hZ, hK, hU, hm, gx1, hP⟩
  cases hx
  refine fb_471_2 (i3 x1) _ _ _ _ hL ?_
  have r1 := zM_k hZ 2 0 0 102 (lo := 0) (hi := 48) (by decide) rfl
  refine wz_br (i3Le (zm_rd (Z := Z) (ν := ν) (k := 2) (show ((0 : Nat) : Int) = 0 from rfl) (show ((0 : Nat) : Int) = 0 from rfl) (show ((102 : Nat) : Int) = 102 from rfl)) (rfl : i3 x1 = i3 x1) (by omega) (by omega) (by omega) (by omega)) (fun h2 => ?_) (fun h2 => ?_)
  · replace hP := zE_p hP h2
    exact hk _ _ _ (zconso rfl (zconso rfl rfl)) hZ hK hU (by omega)  hP
  · replace hP := zE_n hP h2
    refine wz_i0 (i3O (n := 4400) (i3A (i3A (show (200 : Int32) = i3 200 from rfl) (i3M (show (20 : Int32) = i3 20 from rfl) (rfl : i3 x1 = i3 x1))) (show (10 : Int32) = i3 10 from rfl)) (by omega) (by omega) (by omega)) ?_
    have r3 := zM_k hZ 2 0 0 (210 + 20 * x1) (lo := 0) (hi := 4) (by decide) (zs_200_10 (x := x1) (by omega) (by omega) (by omega))
    have r4 := zM_pl hZ x1
    refine wz_br (i3L (show (1 : Int32) = i3 1 from rfl) (zm_rd (Z := Z) (ν := ν) (k := 2) (show ((0 : Nat) : Int) = 0 from rfl) (show ((0 : Nat) : Int) = 0 from rfl) (i3I (y := (210 + 20 * x1)) (i3A (i3A (show (200 : Int32) = i3 200 from rfl) (i3M (show (20 : Int32) = i3 20 from rfl) (rfl : i3 x1 = i3 x1))) (show (10 : Int32) = i3 10 from rfl)) (by omega) (by omega) (by omega))) (by omega) (by omega) (by omega) (by omega)) (fun h5 => ?_) (fun h5 => ?_)
    · replace hP := zE_p hP h5
      obtain ⟨m2, rfl⟩ : ∃ m2, m = m2 + 1 := ⟨m - 1, by omega⟩
      exact wz_k1 ⟨m2, by omega, Z, (x1 + 1), (zconso rfl (zconso (zvo (i3A (rfl : i3 x1 = i3 x1) (show (1 : Int32) = i3 1 from rfl))) rfl)), rfl, hZ, hK, hU, by omega, by omega,  hP⟩
    · replace hP := zE_n hP h5
      obtain ⟨Z6, hZ6, c9, hZ6I, kZ6, jZ6⟩ := sp_481 (ν := ν) hZ (a1 := x1) (by omega) (by omega) (by omega) (zbh (c := 0) (k := 0) hM (Nat.le_of_ble_eq_true rfl))
      have hZ6U : zU [] Zs Z6 := zU_t hU jZ6 zU_b0
      have hZ6K : zC [2] Zs Z6 := zC_t hK kZ6 (by decide)
      replace hP := zl_e hP hZ6
      refine wz_cV_of (zas (zcons rfl (zcons (zvi (rfl : i3 x1 = i3 x1)) rfl)) c9) ?_
      clear c9
      obtain ⟨m2, rfl⟩ : ∃ m2, m = m2 + 1 := ⟨m - 1, by omega⟩
      exact wz_k1 ⟨m2, by omega, Z6, (x1 + 1), (zconso rfl (zconso (zvo (i3A (rfl : i3 x1 = i3 x1) (show (1 : Int32) = i3 1 from rfl))) rfl)), rfl, hZ6I, hZ6K, hZ6U, by omega, by omega,  hP⟩
/- yX12_rHour -/
def zl_471_3 : Nat → qz_Z → Int → qz_Z × Int
  | 0, Z, x1 => (Z, x1)
  | m + 1, Z, x1 => (if (Z 2 0 0 2000) ≤ x1 then (Z, x1) else (if (Z 2 0 0 (2019 + 16 * x1)) ≠ 1 then zl_471_3 m Z (x1 + 1) else (zlet (zf_482 Z x1) (fun Z6 => zl_471_3 m Z6 (x1 + 1)))))
theorem sl_471_3 {s : zSM} {Zs Z : qz_Z} {ν : qz_N} (hZ : zM s Z) (hM : s.2 + 0 ≤ 1000000000) (hK : zC [2] Zs Z) {x1 : Int} (gx1 : 0 ≤ x1 ∧ x1 ≤ 60) (hU : zU [] Zs Z) {k : wz_K} {R : wz_R} {L : qz_L} (hL : qz_fg [true, true] L = [some (.inr (.inr (some (1, 0, 0)))), some (.inl (i3 x1))]) {T : qz_Z × Int} (hP : zE T (zl_471_3 ((60 - x1).toNat + 1) Z x1)) (hk : ∀ (L9 : qz_L) (Z9 : qz_Z) (yx1 : Int), qz_fg [false, false] L9 = [none, none] → zM s Z9 → zC [2] Zs Z9 → zU [] Zs Z9 → (0 ≤ yx1 ∧ yx1 ≤ 60) → zE T ((Z9, yx1)) → k 0 (L9, [], zm Z9 ν)) : wz_loop qb_471_3 65536 k R (L, [], zm Z ν) := by
  refine wz_lp sb_471_3 (fun m x => ∃ Z : qz_Z, ∃ x1 : Int, qz_fg [true, true] x.1 = [some (.inr (.inr (some (1, 0, 0)))), some (.inl (i3 x1))] ∧ x.2 = ([], zm Z ν) ∧ zM s Z ∧ zC [2] Zs Z ∧ zU [] Zs Z ∧ m = (60 - x1).toNat ∧ (0 ≤ x1 ∧ x1 ≤ 60) ∧ zE T (zl_471_3 (m + 1) Z x1)) ?_ 65536 ((60 - x1).toNat) _ (by omega) ⟨Z, x1, hL, rfl, hZ, hK, hU, rfl, gx1, hP⟩
  clear hP gx1 hZ hK hU hL
  clear x1
  clear Z
  rintro m ⟨L, st, μ⟩ ⟨Z, x1, hL, hx, hZ, hK, hU, hm, gx1, hP⟩
  cases hx
  refine fb_471_3 (i3 x1) _ _ _ _ hL ?_
  have r1 := zM_k hZ 2 0 0 2000 (lo := 0) (hi := 60) (by decide) rfl
  refine wz_br (i3Le (zm_rd (Z := Z) (ν := ν) (k := 2) (show ((0 : Nat) : Int) = 0 from rfl) (show ((0 : Nat) : Int) = 0 from rfl) (show ((2000 : Nat) : Int) = 2000 from rfl)) (rfl : i3 x1 = i3 x1) (by omega) (by omega) (by omega) (by omega)) (fun h2 => ?_) (fun h2 => ?_)
  · replace hP := zE_p hP h2
    exact hk _ _ _ (zconso rfl (zconso rfl rfl)) hZ hK hU (by omega)  hP
  · replace hP := zE_n hP h2
    refine wz_i0 (i3O (n := 4400) (i3A (i3A (show (2010 : Int32) = i3 2010 from rfl) (i3M (show (16 : Int32) = i3 16 from rfl) (rfl : i3 x1 = i3 x1))) (show (9 : Int32) = i3 9 from rfl)) (by omega) (by omega) (by omega)) ?_
    have r3 := zM_k hZ 2 0 0 (2019 + 16 * x1) (lo := 0) (hi := 3) (by decide) (zs_2010_9 (x := x1) (by omega) (by omega) (by omega))
    have r4 := zM_lt2 hZ x1
    refine wz_br (i3NE (zm_rd (Z := Z) (ν := ν) (k := 2) (show ((0 : Nat) : Int) = 0 from rfl) (show ((0 : Nat) : Int) = 0 from rfl) (i3I (y := (2019 + 16 * x1)) (i3A (i3A (show (2010 : Int32) = i3 2010 from rfl) (i3M (show (16 : Int32) = i3 16 from rfl) (rfl : i3 x1 = i3 x1))) (show (9 : Int32) = i3 9 from rfl)) (by omega) (by omega) (by omega))) (show (1 : Int32) = i3 1 from rfl) (by omega) (by omega) (by omega) (by omega)) (fun h5 => ?_) (fun h5 => ?_)
    · replace hP := zE_p hP h5
      obtain ⟨m2, rfl⟩ : ∃ m2, m = m2 + 1 := ⟨m - 1, by omega⟩
      exact wz_k1 ⟨m2, by omega, Z, (x1 + 1), (zconso rfl (zconso (zvo (i3A (rfl : i3 x1 = i3 x1) (show (1 : Int32) = i3 1 from rfl))) rfl)), rfl, hZ, hK, hU, by omega, by omega,  hP⟩
    · replace hP := zE_n hP h5
      obtain ⟨Z6, hZ6, c9, hZ6I, kZ6, jZ6⟩ := sp_482 (ν := ν) hZ (a1 := x1) (by omega) (by omega) (zbh (c := 0) (k := 0) hM (Nat.le_of_ble_eq_true rfl))
      have hZ6U : zU [] Zs Z6 := zU_t hU jZ6 zU_b0
      have hZ6K : zC [2] Zs Z6 := zC_t hK kZ6 (by decide)
      replace hP := zl_e hP hZ6
      refine wz_cV_of (zas (zcons rfl (zcons (zvi (rfl : i3 x1 = i3 x1)) rfl)) c9) ?_
      clear c9
      obtain ⟨m2, rfl⟩ : ∃ m2, m = m2 + 1 := ⟨m - 1, by omega⟩
      exact wz_k1 ⟨m2, by omega, Z6, (x1 + 1), (zconso rfl (zconso (zvo (i3A (rfl : i3 x1 = i3 x1) (show (1 : Int32) = i3 1 from rfl))) rfl)), rfl, hZ6I, hZ6K, hZ6U, by omega, by omega,  hP⟩
/- yX12_rHour -/
def zf_471 (Z : qz_Z) : qz_Z := (zlet2 (zl_471_1 7 Z 0) (fun Z2 y1 => (zlet2 (zl_471_2 49 Z2 0) (fun Z5 y4 => (zlet2 (zl_471_3 61 Z5 0) (fun Z8 y7 => Z8))))))
theorem sp_471 {s : zSM} {Z : qz_Z} {ν : qz_N} (hZ : zM s Z) (hM : s.2 + 0 ≤ 1000000000) : ∃ P : qz_Z, P = zf_471 Z ∧ (qf_471 [.inr (.inr (some (1, 0, 0)))] (zm Z ν) = some (zm P ν, .inl none) ∧ zM s P ∧ zC [2] Z P ∧ zU [] Z P) := by
  obtain ⟨P, hP⟩ := zx (zf_471 Z)
  refine zc_V (Q := fun P => zM s P ∧ zC [2] Z P ∧ zU [] Z P) hP (fw_471  _ _ ?_)
  replace hP : zE P (zf_471 Z) := hP
  unfold zf_471 at hP
  refine sl_471_1 (ν := ν) hZ (zbh (c := 0) (k := 0) hM (Nat.le_of_ble_eq_true rfl)) zC_r (x1 := 0) (by omega) zU_r  (zconso rfl (zconso (zvo (show (0 : Int32) = i3 0 from rfl)) rfl)) rfl ?_
  intro L3 Z2 y1 hL3 hZ2I kZ2 jZ2 gy1 q9
  replace hP := zl_e2 hP (Eq.symm q9)
  clear q9
  have hZ2U : zU [] Z Z2 := zU_t zU_r jZ2 zU_b0
  have hZ2K : zC [2] Z Z2 := zC_t zC_r kZ2 (by decide)
  refine fc_471_6  _ _ _ _ hL3 ?_
  refine sl_471_2 (ν := ν) hZ2I (zbh (c := 0) (k := 0) hM (Nat.le_of_ble_eq_true rfl)) zC_r (x1 := 0) (by omega) zU_r  (zconso rfl (zconso (zvo (show (0 : Int32) = i3 0 from rfl)) rfl)) rfl ?_
  intro L6 Z5 y4 hL6 hZ5I kZ5 jZ5 gy4 q9
  replace hP := zl_e2 hP (Eq.symm q9)
  clear q9
  have hZ5U : zU [] Z Z5 := zU_t hZ2U jZ5 zU_b0
  have hZ5K : zC [2] Z Z5 := zC_t hZ2K kZ5 (by decide)
  refine fc_471_5  _ _ _ _ hL6 ?_
  refine sl_471_3 (ν := ν) hZ5I (zbh (c := 0) (k := 0) hM (Nat.le_of_ble_eq_true rfl)) zC_r (x1 := 0) (by omega) zU_r  (zconso rfl (zconso (zvo (show (0 : Int32) = i3 0 from rfl)) rfl)) rfl ?_
  intro L9 Z8 y7 hL9 hZ8I kZ8 jZ8 gy7 q9
  replace hP := zl_e2 hP (Eq.symm q9)
  clear q9
  have hZ8U : zU [] Z Z8 := zU_t hZ5U jZ8 zU_b0
  have hZ8K : zC [2] Z Z8 := zC_t hZ5K kZ8 (by decide)
  refine fc_471_4  _ _ _ _ hL9 ?_
  exact zlV hP ⟨hZ8I, hZ8K, hZ8U⟩
/- yX12_rAlone -/
def zl_460_1 (x1 : Int) : Nat → qz_Z → qz_Z
  | 0, Z => Z
  | m + 1, Z => (if x1 ≤ (Z 2 0 0 0) then Z else (zlet (zu Z 2 0 0 0 ((Z 2 0 0 0) + 1)) (fun Z3 => (zlet (zf_471 Z3) (fun Z4 => zl_460_1 x1 m Z4)))))
theorem sl_460_1 {gg : Int} {s : zSM} {Zs Z : qz_Z} {ν : qz_N} (hZ : zM s Z) (hM : s.2 + 0 ≤ 1000000000) (hK : zC [2, 1200] Zs Z) {x1 : Int} (gx1 : -1 ≤ x1 ∧ x1 ≤ 671) (hU : zU [] Zs Z) (gr0 : Z 2 0 0 0 ≤ gg) (gr1 : x1 ≤ gg) {k : wz_K} {R : wz_R} {L : qz_L} (hL : qz_fg [true, true] L = [some (.inr (.inr (some (1, 0, 0)))), some (.inl (i3 x1))]) {T : qz_Z} (hP : zE T (zl_460_1 x1 ((x1 - Z 2 0 0 0).toNat + 1) Z)) (hk : ∀ (L9 : qz_L) (Z9 : qz_Z), qz_fg [false, false] L9 = [none, none] → zM s Z9 → zC [2, 1200] Zs Z9 → zU [] Zs Z9 → (Z9 2 0 0 0 ≤ gg) → (x1 ≤ gg) → zE T (Z9) → k 0 (L9, [], zm Z9 ν)) : wz_loop qb_460_1 65536 k R (L, [], zm Z ν) := by
  have hpre0 := zM_k hZ 2 0 0 0 (lo := 0) (hi := 671) (by decide) rfl
  refine wz_lp sb_460_1 (fun m x => ∃ Z : qz_Z, qz_fg [true, true] x.1 = [some (.inr (.inr (some (1, 0, 0)))), some (.inl (i3 x1))] ∧ x.2 = ([], zm Z ν) ∧ zM s Z ∧ zC [2, 1200] Zs Z ∧ zU [] Zs Z ∧ m = (x1 - Z 2 0 0 0).toNat ∧ (Z 2 0 0 0 ≤ gg) ∧ (x1 ≤ gg) ∧ zE T (zl_460_1 x1 (m + 1) Z)) ?_ 65536 ((x1 - Z 2 0 0 0).toNat) _ (by omega) ⟨Z, hL, rfl, hZ, hK, hU, rfl, gr0, gr1, hP⟩
  clear hpre0
  clear hP gr0 gr1 hZ hK hU hL
  clear Z
  rintro m ⟨L, st, μ⟩ ⟨Z, hL, hx, hZ, hK, hU, hm, gr0, gr1, hP⟩
  cases hx
  refine fb_460_1 (i3 x1) _ _ _ _ hL ?_
  have r1 := zM_k hZ 2 0 0 0 (lo := 0) (hi := 671) (by decide) rfl
  refine wz_br (i3Le (rfl : i3 x1 = i3 x1) (zm_rd (Z := Z) (ν := ν) (k := 2) (show ((0 : Nat) : Int) = 0 from rfl) (show ((0 : Nat) : Int) = 0 from rfl) (show ((0 : Nat) : Int) = 0 from rfl)) (by omega) (by omega) (by omega) (by omega)) (fun h2 => ?_) (fun h2 => ?_)
  · replace hP := zE_p hP h2
    exact hk _ _ (zconso rfl (zconso rfl rfl)) hZ hK hU  (by omega) (by omega) hP
  · replace hP := zE_n hP h2
    obtain ⟨Z3, hZ3⟩ := zx (zu Z 2 0 0 0 ((Z 2 0 0 0) + 1))
    replace hP := zl_e hP hZ3
    have hZ3I := zM_u2 hZ hZ3 (lo := 0) (hi := 671) rfl (by omega) ⟨by decide, by decide⟩ (by simp only [zsp]; omega)
    have hZ3U : zU [] Zs Z3 := zU_u hU hZ3 (Or.inl rfl)
    have hZ3K : zC [2, 1200] Zs Z3 := zC_u hK hZ3 (by decide)
    intro μ9 e9
    replace e9 := e9.trans (zm_wI (Z := Z) (ν := ν) hZ3 (show ((0 : Nat) : Int) = 0 from rfl) (show ((0 : Nat) : Int) = 0 from rfl) (show ((0 : Nat) : Int) = 0 from rfl) (i3A (zm_rd (Z := Z) (ν := ν) (k := 2) (show ((0 : Nat) : Int) = 0 from rfl) (show ((0 : Nat) : Int) = 0 from rfl) (show ((0 : Nat) : Int) = 0 from rfl)) (show (1 : Int32) = i3 1 from rfl)))
    subst e9
    obtain ⟨Z4, hZ4, c9, hZ4I, kZ4, jZ4⟩ := sp_471 (ν := ν) hZ3I (zbh (c := 0) (k := 0) hM (Nat.le_of_ble_eq_true rfl))
    have hZ4U : zU [] Zs Z4 := zU_t hZ3U jZ4 zU_b0
    have hZ4K : zC [2, 1200] Zs Z4 := zC_t hZ3K kZ4 (by decide)
    replace hP := zl_e hP hZ4
    refine wz_cV_of (zas (zcons rfl rfl) c9) ?_
    clear c9
    have r5 := zM_k hZ4I 2 0 0 0 (lo := 0) (hi := 671) (by decide) rfl
    have q6 := (kZ4 2 0 0 0 (by decide)).trans (zu_at hZ3)
    obtain ⟨m2, rfl⟩ : ∃ m2, m = m2 + 1 := ⟨m - 1, by omega⟩
    exact wz_k1 ⟨m2, by omega, Z4, (zconso rfl (zconso (zvo (rfl : i3 x1 = i3 x1)) rfl)), rfl, hZ4I, hZ4K, hZ4U, by omega, by omega, by omega,  hP⟩
/- yX12_rAlone -/
def zf_460 (Z : qz_Z) (a1 : Int) : qz_Z := (zlet (zl_460_1 a1 ((a1 - Z 2 0 0 0).toNat + 1) Z) (fun Z2 => Z2))
theorem sp_460 {s : zSM} {Z : qz_Z} {ν : qz_N} (hZ : zM s Z) {a1 : Int} (ga1 : -1 ≤ a1 ∧ a1 ≤ 671) (hM : s.2 + 0 ≤ 1000000000) : ∃ P : qz_Z, P = zf_460 Z a1 ∧ (qf_460 [.inr (.inr (some (1, 0, 0))), .inl (i3 a1)] (zm Z ν) = some (zm P ν, .inl none) ∧ zM s P ∧ zC [2, 1200] Z P ∧ zU [] Z P ∧ P 2 0 0 0 ≤ max (Z 2 0 0 0) a1) := by
  obtain ⟨P, hP⟩ := zx (zf_460 Z a1)
  refine zc_V (Q := fun P => zM s P ∧ zC [2, 1200] Z P ∧ zU [] Z P ∧ P 2 0 0 0 ≤ max (Z 2 0 0 0) a1) hP (fw_460 (i3 a1) _ _ ?_)
  replace hP : zE P (zf_460 Z a1) := hP
  unfold zf_460 at hP
  have r1 := zM_k hZ 2 0 0 0 (lo := 0) (hi := 671) (by decide) rfl
  refine sl_460_1 (ν := ν) hZ (zbh (c := 0) (k := 0) hM (Nat.le_of_ble_eq_true rfl)) zC_r (x1 := a1) (by omega) zU_r (gg := max (Z 2 0 0 0) a1) (by omega) (by omega) (zconso rfl (zconso (zvo (rfl : i3 a1 = i3 a1)) rfl)) rfl ?_
  intro L3 Z2 hL3 hZ2I kZ2 jZ2 gL3_0 gL3_1 q9
  replace hP := zl_e hP (Eq.symm q9)
  clear q9
  have hZ2U : zU [] Z Z2 := zU_t zU_r jZ2 zU_b0
  have hZ2K : zC [2, 1200] Z Z2 := zC_t zC_r kZ2 (by decide)
  have r4 := zM_k hZ2I 2 0 0 0 (lo := 0) (hi := 671) (by decide) rfl
  refine fc_460_2  _ _ _ _ hL3 ?_
  exact zlV hP ⟨hZ2I, hZ2K, hZ2U, by omega⟩
/- yX12_isShut -/
def zf_390 (Z : qz_Z) (a1 : Int) : Int := (if a1 < 0 then 0 else (if 5 < a1 then 0 else (if (Z 2 0 0 (3510 + a1)) ≤ (Z 2 0 0 0) then 0 else 1)))
theorem sp_390 {s : zSM} {Z : qz_Z} {ν : qz_N} (hZ : zM s Z) {a1 : Int} (ga1 : -1 ≤ a1 ∧ a1 ≤ 6) (hM : s.2 + 0 ≤ 1000000000) : ∃ P : Int, P = zf_390 Z a1 ∧ (qf_390 [.inr (.inr (some (1, 0, 0))), .inl (i3 a1)] (zm Z ν) = some (zm Z ν, .inl (some (.inl (i3 P)))) ∧ 0 ≤ P ∧ P ≤ 1) := by
  obtain ⟨P, hP⟩ := zx (zf_390 Z a1)
  refine zc_R (Q := fun P => 0 ≤ P ∧ P ≤ 1) hP (fw_390 (i3 a1) _ _ ?_)
  replace hP : zE P (zf_390 Z a1) := hP
  unfold zf_390 at hP
  refine wz_br (i3L (rfl : i3 a1 = i3 a1) (show (0 : Int32) = i3 0 from rfl) (by omega) (by omega) (by omega) (by omega)) (fun h1 => ?_) (fun h1 => ?_)
  · replace hP := zE_p hP h1
    exact zlR hP (show (0 : Int32) = i3 0 from rfl) ⟨by omega, by omega⟩
  · replace hP := zE_n hP h1
    refine wz_br (i3L (show (5 : Int32) = i3 5 from rfl) (rfl : i3 a1 = i3 a1) (by omega) (by omega) (by omega) (by omega)) (fun h2 => ?_) (fun h2 => ?_)
    · replace hP := zE_p hP h2
      exact zlR hP (show (0 : Int32) = i3 0 from rfl) ⟨by omega, by omega⟩
    · replace hP := zE_n hP h2
      refine wz_i0 (i3O (n := 4400) (i3A (show (3510 : Int32) = i3 3510 from rfl) (rfl : i3 a1 = i3 a1)) (by omega) (by omega) (by omega)) ?_
      have r3 := zM_k hZ 2 0 0 (3510 + a1) (lo := 0) (hi := 695) (by decide) (zs_3509 (by omega) (by omega))
      have r4 := zM_k hZ 2 0 0 0 (lo := 0) (hi := 671) (by decide) rfl
      refine wz_br (i3Le (zm_rd (Z := Z) (ν := ν) (k := 2) (show ((0 : Nat) : Int) = 0 from rfl) (show ((0 : Nat) : Int) = 0 from rfl) (i3I (y := (3510 + a1)) (i3A (show (3510 : Int32) = i3 3510 from rfl) (rfl : i3 a1 = i3 a1)) (by omega) (by omega) (by omega))) (zm_rd (Z := Z) (ν := ν) (k := 2) (show ((0 : Nat) : Int) = 0 from rfl) (show ((0 : Nat) : Int) = 0 from rfl) (show ((0 : Nat) : Int) = 0 from rfl)) (by omega) (by omega) (by omega) (by omega)) (fun h5 => ?_) (fun h5 => ?_)
      · replace hP := zE_p hP h5
        exact zlR hP (show (0 : Int32) = i3 0 from rfl) ⟨by omega, by omega⟩
      · replace hP := zE_n hP h5
        exact zlR hP (show (1 : Int32) = i3 1 from rfl) ⟨by omega, by omega⟩
/- yX12_rInto -/
def zf_472 (Z : qz_Z) (a1 : Int) (a2 : Int) : qz_Z := (if (Z 2 0 0 (211 + 20 * a1)) < 0 then (if a2 < 0 then (zlet (zu Z 2 0 0 (211 + 20 * a1) a2) (fun Z7 => Z7)) else (if 5 < a2 then (zlet (zu Z 2 0 0 (211 + 20 * a1) a2) (fun Z9 => Z9)) else (zlet (zu Z 2 0 0 (1216 + 12 * a2) ((Z 2 0 0 (1216 + 12 * a2)) + 1)) (fun Z11 => (zlet (zu Z11 2 0 0 (211 + 20 * a1) a2) (fun Z12 => Z12)))))) else (if 5 < (Z 2 0 0 (211 + 20 * a1)) then (if a2 < 0 then (zlet (zu Z 2 0 0 (211 + 20 * a1) a2) (fun Z20 => Z20)) else (if 5 < a2 then (zlet (zu Z 2 0 0 (211 + 20 * a1) a2) (fun Z22 => Z22)) else (zlet (zu Z 2 0 0 (1216 + 12 * a2) ((Z 2 0 0 (1216 + 12 * a2)) + 1)) (fun Z24 => (zlet (zu Z24 2 0 0 (211 + 20 * a1) a2) (fun Z25 => Z25)))))) else (zlet (zu Z 2 0 0 (1216 + 12 * (Z 2 0 0 (211 + 20 * a1))) ((Z 2 0 0 (1216 + 12 * (Z 2 0 0 (211 + 20 * a1)))) + 1)) (fun Z32 => (if a2 < 0 then (zlet (zu Z32 2 0 0 (211 + 20 * a1) a2) (fun Z34 => Z34)) else (if 5 < a2 then (zlet (zu Z32 2 0 0 (211 + 20 * a1) a2) (fun Z41 => Z41)) else (zlet (zu Z32 2 0 0 (1216 + 12 * a2) ((Z32 2 0 0 (1216 + 12 * a2)) + 1)) (fun Z48 => (zlet (zu Z48 2 0 0 (211 + 20 * a1) a2) (fun Z49 => Z49))))))))))
theorem sp_472 {s : zSM} {Z : qz_Z} {ν : qz_N} (hZ : zM s Z) {a1 : Int} (ga1 : 0 ≤ a1 ∧ a1 ≤ 47) {a2 : Int} (ga2 : -1 ≤ a2 ∧ a2 ≤ 6) (gx0 : 0 ≤ a2 ∨ 2 ≤ Z 2 0 0 (210 + 20 * a1)) (hM : s.2 + 2 ≤ 1000000000) : ∃ P : qz_Z, P = zf_472 Z a1 a2 ∧ (qf_472 [.inr (.inr (some (1, 0, 0))), .inl (i3 a1), .inl (i3 a2)] (zm Z ν) = some (zm P ν, .inl none) ∧ zM (zb s 2) P ∧ zC [2] Z P ∧ zU [] Z P) := by
  obtain ⟨P, hP⟩ := zx (zf_472 Z a1 a2)
  refine zc_V (Q := fun P => zM (zb s 2) P ∧ zC [2] Z P ∧ zU [] Z P) hP (fw_472 (i3 a1) (i3 a2) _ _ ?_)
  replace hP : zE P (zf_472 Z a1 a2) := hP
  unfold zf_472 at hP
  have r1 := zM_k hZ 2 0 0 (210 + 20 * a1) (lo := 0) (hi := 4) (by decide) (zs_200_10 (x := a1) (by omega) (by omega) (by omega))
  have r2 := zM_pl hZ a1
  have r3 := zM_k hZ 2 0 0 102 (lo := 0) (hi := 48) (by decide) rfl
  refine wz_i0 (i3O (n := 4400) (i3A (i3A (show (200 : Int32) = i3 200 from rfl) (i3M (show (20 : Int32) = i3 20 from rfl) (rfl : i3 a1 = i3 a1))) (show (11 : Int32) = i3 11 from rfl)) (by omega) (by omega) (by omega)) ?_
  have r4 := zM_k hZ 2 0 0 (211 + 20 * a1) (lo := -1) (hi := 6) (by decide) (zs_200_11 (x := a1) (by omega) (by omega) (by omega))
  refine wz_br (i3L (zm_rd (Z := Z) (ν := ν) (k := 2) (show ((0 : Nat) : Int) = 0 from rfl) (show ((0 : Nat) : Int) = 0 from rfl) (i3I (y := (211 + 20 * a1)) (i3A (i3A (show (200 : Int32) = i3 200 from rfl) (i3M (show (20 : Int32) = i3 20 from rfl) (rfl : i3 a1 = i3 a1))) (show (11 : Int32) = i3 11 from rfl)) (by omega) (by omega) (by omega))) (show (0 : Int32) = i3 0 from rfl) (by omega) (by omega) (by omega) (by omega)) (fun h5 => ?_) (fun h5 => ?_)
  · replace hP := zE_p hP h5
    refine wz_br (i3L (rfl : i3 a2 = i3 a2) (show (0 : Int32) = i3 0 from rfl) (by omega) (by omega) (by omega) (by omega)) (fun h6 => ?_) (fun h6 => ?_)
    · replace hP := zE_p hP h6
      refine wz_i0 (i3O (n := 4400) (i3A (i3A (show (200 : Int32) = i3 200 from rfl) (i3M (show (20 : Int32) = i3 20 from rfl) (rfl : i3 a1 = i3 a1))) (show (11 : Int32) = i3 11 from rfl)) (by omega) (by omega) (by omega)) ?_
      obtain ⟨Z7, hZ7⟩ := zx (zu Z 2 0 0 (211 + 20 * a1) a2)
      replace hP := zl_e hP hZ7
      have hZ7I := zM_pw2 hZ hZ7 (q := a1) (by omega) (by omega) (by omega) (by omega)
      have hZ7U : zU [] Z Z7 := zU_u zU_r hZ7 (Or.inl rfl)
      have hZ7K : zC [2] Z Z7 := zC_u zC_r hZ7 (zcl_2w (by omega) rfl)
      intro μ9 e9
      replace e9 := e9.trans (zm_wI (Z := Z) (ν := ν) hZ7 (show ((0 : Nat) : Int) = 0 from rfl) (show ((0 : Nat) : Int) = 0 from rfl) (i3I (y := (211 + 20 * a1)) (i3A (i3A (show (200 : Int32) = i3 200 from rfl) (i3M (show (20 : Int32) = i3 20 from rfl) (rfl : i3 a1 = i3 a1))) (show (11 : Int32) = i3 11 from rfl)) (by omega) (by omega) (by omega)) (rfl : i3 a2 = i3 a2))
      subst e9
      exact zlV hP ⟨(zmw (a := 0) (c := 2) hZ7I (Nat.le_of_ble_eq_true rfl)), hZ7K, hZ7U⟩
    · replace hP := zE_n hP h6
      refine wz_br (i3L (show (5 : Int32) = i3 5 from rfl) (rfl : i3 a2 = i3 a2) (by omega) (by omega) (by omega) (by omega)) (fun h8 => ?_) (fun h8 => ?_)
      · replace hP := zE_p hP h8
        refine wz_i0 (i3O (n := 4400) (i3A (i3A (show (200 : Int32) = i3 200 from rfl) (i3M (show (20 : Int32) = i3 20 from rfl) (rfl : i3 a1 = i3 a1))) (show (11 : Int32) = i3 11 from rfl)) (by omega) (by omega) (by omega)) ?_
        obtain ⟨Z9, hZ9⟩ := zx (zu Z 2 0 0 (211 + 20 * a1) a2)
        replace hP := zl_e hP hZ9
        have hZ9I := zM_pw2 hZ hZ9 (q := a1) (by omega) (by omega) (by omega) (by omega)
        have hZ9U : zU [] Z Z9 := zU_u zU_r hZ9 (Or.inl rfl)
        have hZ9K : zC [2] Z Z9 := zC_u zC_r hZ9 (zcl_2w (by omega) rfl)
        intro μ9 e9
        replace e9 := e9.trans (zm_wI (Z := Z) (ν := ν) hZ9 (show ((0 : Nat) : Int) = 0 from rfl) (show ((0 : Nat) : Int) = 0 from rfl) (i3I (y := (211 + 20 * a1)) (i3A (i3A (show (200 : Int32) = i3 200 from rfl) (i3M (show (20 : Int32) = i3 20 from rfl) (rfl : i3 a1 = i3 a1))) (show (11 : Int32) = i3 11 from rfl)) (by omega) (by omega) (by omega)) (rfl : i3 a2 = i3 a2))
        subst e9
        exact zlV hP ⟨(zmw (a := 0) (c := 2) hZ9I (Nat.le_of_ble_eq_true rfl)), hZ9K, hZ9U⟩
      · replace hP := zE_n hP h8
        refine wz_i0 (i3O (n := 4400) (i3A (i3A (show (1210 : Int32) = i3 1210 from rfl) (i3M (show (12 : Int32) = i3 12 from rfl) (rfl : i3 a2 = i3 a2))) (show (6 : Int32) = i3 6 from rfl)) (by omega) (by omega) (by omega)) ?_
        refine wz_i0 (i3O (n := 4400) (i3A (i3A (show (1210 : Int32) = i3 1210 from rfl) (i3M (show (12 : Int32) = i3 12 from rfl) (rfl : i3 a2 = i3 a2))) (show (6 : Int32) = i3 6 from rfl)) (by omega) (by omega) (by omega)) ?_
        have r10 := zM_dr hZ a2 (by omega) (zbh (c := 0) (k := 0) hM (Nat.le_of_ble_eq_true rfl))
        obtain ⟨Z11, hZ11⟩ := zx (zu Z 2 0 0 (1216 + 12 * a2) ((Z 2 0 0 (1216 + 12 * a2)) + 1))
        replace hP := zl_e hP hZ11
        have hZ11I := zM_di2 hZ hZ11 (q := a2) (by omega) (by omega) (zbh (c := 0) (k := 1) hM (Nat.le_of_ble_eq_true rfl)) (by omega)
        have hZ11U : zU [] Z Z11 := zU_u zU_r hZ11 (Or.inl rfl)
        have hZ11K : zC [2] Z Z11 := zC_u zC_r hZ11 (zcl_2w (by omega) rfl)
        intro μ9 e9
        replace e9 := e9.trans (zm_wI (Z := Z) (ν := ν) hZ11 (show ((0 : Nat) : Int) = 0 from rfl) (show ((0 : Nat) : Int) = 0 from rfl) (i3I (y := (1216 + 12 * a2)) (i3A (i3A (show (1210 : Int32) = i3 1210 from rfl) (i3M (show (12 : Int32) = i3 12 from rfl) (rfl : i3 a2 = i3 a2))) (show (6 : Int32) = i3 6 from rfl)) (by omega) (by omega) (by omega)) (i3A (zm_rd (Z := Z) (ν := ν) (k := 2) (show ((0 : Nat) : Int) = 0 from rfl) (show ((0 : Nat) : Int) = 0 from rfl) (i3I (y := (1216 + 12 * a2)) (i3A (i3A (show (1210 : Int32) = i3 1210 from rfl) (i3M (show (12 : Int32) = i3 12 from rfl) (rfl : i3 a2 = i3 a2))) (show (6 : Int32) = i3 6 from rfl)) (by omega) (by omega) (by omega))) (show (1 : Int32) = i3 1 from rfl)))
        subst e9
        refine wz_i0 (i3O (n := 4400) (i3A (i3A (show (200 : Int32) = i3 200 from rfl) (i3M (show (20 : Int32) = i3 20 from rfl) (rfl : i3 a1 = i3 a1))) (show (11 : Int32) = i3 11 from rfl)) (by omega) (by omega) (by omega)) ?_
        obtain ⟨Z12, hZ12⟩ := zx (zu Z11 2 0 0 (211 + 20 * a1) a2)
        replace hP := zl_e hP hZ12
        have r13 := zM_k hZ11I 2 0 0 (210 + 20 * a1) (lo := 0) (hi := 4) (by decide) (zs_200_10 (x := a1) (by omega) (by omega) (by omega))
        have r14 := zM_pl hZ11I a1
        have r15 := zM_k hZ11I 2 0 0 102 (lo := 0) (hi := 48) (by decide) rfl
        have q16 := zu_ne (k' := 2) (b' := 0) (i' := 0) (j' := 102) hZ11 (fun q => absurd q.2.2.2 (by omega))
        have q17 := zu_ne (k' := 2) (b' := 0) (i' := 0) (j' := (210 + 20 * a1)) hZ11 (fun q => absurd q.2.2.2 (by omega))
        have hZ12I := zM_pw2 hZ11I hZ12 (q := a1) (by omega) (by omega) (by omega) (by omega)
        have hZ12U : zU [] Z Z12 := zU_u hZ11U hZ12 (Or.inl rfl)
        have hZ12K : zC [2] Z Z12 := zC_u hZ11K hZ12 (zcl_2w (by omega) rfl)
        intro μ9 e9
        replace e9 := e9.trans (zm_wI (Z := Z11) (ν := ν) hZ12 (show ((0 : Nat) : Int) = 0 from rfl) (show ((0 : Nat) : Int) = 0 from rfl) (i3I (y := (211 + 20 * a1)) (i3A (i3A (show (200 : Int32) = i3 200 from rfl) (i3M (show (20 : Int32) = i3 20 from rfl) (rfl : i3 a1 = i3 a1))) (show (11 : Int32) = i3 11 from rfl)) (by omega) (by omega) (by omega)) (rfl : i3 a2 = i3 a2))
        subst e9
        exact zlV hP ⟨(zmw (a := 1) (c := 2) hZ12I (Nat.le_of_ble_eq_true rfl)), hZ12K, hZ12U⟩
  · replace hP := zE_n hP h5
    refine wz_br (i3L (show (5 : Int32) = i3 5 from rfl) (zm_rd (Z := Z) (ν := ν) (k := 2) (show ((0 : Nat) : Int) = 0 from rfl) (show ((0 : Nat) : Int) = 0 from rfl) (i3I (y := (211 + 20 * a1)) (i3A (i3A (show (200 : Int32) = i3 200 from rfl) (i3M (show (20 : Int32) = i3 20 from rfl) (rfl : i3 a1 = i3 a1))) (show (11 : Int32) = i3 11 from rfl)) (by omega) (by omega) (by omega))) (by omega) (by omega) (by omega) (by omega)) (fun h18 => ?_) (fun h18 => ?_)
    · replace hP := zE_p hP h18
      refine wz_br (i3L (rfl : i3 a2 = i3 a2) (show (0 : Int32) = i3 0 from rfl) (by omega) (by omega) (by omega) (by omega)) (fun h19 => ?_) (fun h19 => ?_)
      · replace hP := zE_p hP h19
        refine wz_i0 (i3O (n := 4400) (i3A (i3A (show (200 : Int32) = i3 200 from rfl) (i3M (show (20 : Int32) = i3 20 from rfl) (rfl : i3 a1 = i3 a1))) (show (11 : Int32) = i3 11 from rfl)) (by omega) (by omega) (by omega)) ?_
        obtain ⟨Z20, hZ20⟩ := zx (zu Z 2 0 0 (211 + 20 * a1) a2)
        replace hP := zl_e hP hZ20
        have hZ20I := zM_pw2 hZ hZ20 (q := a1) (by omega) (by omega) (by omega) (by omega)
        have hZ20U : zU [] Z Z20 := zU_u zU_r hZ20 (Or.inl rfl)
        have hZ20K : zC [2] Z Z20 := zC_u zC_r hZ20 (zcl_2w (by omega) rfl)
        intro μ9 e9
        replace e9 := e9.trans (zm_wI (Z := Z) (ν := ν) hZ20 (show ((0 : Nat) : Int) = 0 from rfl) (show ((0 : Nat) : Int) = 0 from rfl) (i3I (y := (211 + 20 * a1)) (i3A (i3A (show (200 : Int32) = i3 200 from rfl) (i3M (show (20 : Int32) = i3 20 from rfl) (rfl : i3 a1 = i3 a1))) (show (11 : Int32) = i3 11 from rfl)) (by omega) (by omega) (by omega)) (rfl : i3 a2 = i3 a2))
        subst e9
        exact zlV hP ⟨(zmw (a := 0) (c := 2) hZ20I (Nat.le_of_ble_eq_true rfl)), hZ20K, hZ20U⟩
      · replace hP := zE_n hP h19
        refine wz_br (i3L (show (5 : Int32) = i3 5 from rfl) (rfl : i3 a2 = i3 a2) (by omega) (by omega) (by omega) (by omega)) (fun h21 => ?_) (fun h21 => ?_)
        · replace hP := zE_p hP h21
          refine wz_i0 (i3O (n := 4400) (i3A (i3A (show (200 : Int32) = i3 200 from rfl) (i3M (show (20 : Int32) = i3 20 from rfl) (rfl : i3 a1 = i3 a1))) (show (11 : Int32) = i3 11 from rfl)) (by omega) (by omega) (by omega)) ?_
          obtain ⟨Z22, hZ22⟩ := zx (zu Z 2 0 0 (211 + 20 * a1) a2)
          replace hP := zl_e hP hZ22
          have hZ22I := zM_pw2 hZ hZ22 (q := a1) (by omega) (by omega) (by omega) (by omega)
          have hZ22U : zU [] Z Z22 := zU_u zU_r hZ22 (Or.inl rfl)
          have hZ22K : zC [2] Z Z22 := zC_u zC_r hZ22 (zcl_2w (by omega) rfl)
          intro μ9 e9
          replace e9 := e9.trans (zm_wI (Z := Z) (ν := ν) hZ22 (show ((0 : Nat) : Int) = 0 from rfl) (show ((0 : Nat) : Int) = 0 from rfl) (i3I (y := (211 + 20 * a1)) (i3A (i3A (show (200 : Int32) = i3 200 from rfl) (i3M (show (20 : Int32) = i3 20 from rfl) (rfl : i3 a1 = i3 a1))) (show (11 : Int32) = i3 11 from rfl)) (by omega) (by omega) (by omega)) (rfl : i3 a2 = i3 a2))
          subst e9
          exact zlV hP ⟨(zmw (a := 0) (c := 2) hZ22I (Nat.le_of_ble_eq_true rfl)), hZ22K, hZ22U⟩
        · replace hP := zE_n hP h21
          refine wz_i0 (i3O (n := 4400) (i3A (i3A (show (1210 : Int32) = i3 1210 from rfl) (i3M (show (12 : Int32) = i3 12 from rfl) (rfl : i3 a2 = i3 a2))) (show (6 : Int32) = i3 6 from rfl)) (by omega) (by omega) (by omega)) ?_
          refine wz_i0 (i3O (n := 4400) (i3A (i3A (show (1210 : Int32) = i3 1210 from rfl) (i3M (show (12 : Int32) = i3 12 from rfl) (rfl : i3 a2 = i3 a2))) (show (6 : Int32) = i3 6 from rfl)) (by omega) (by omega) (by omega)) ?_
          have r23 := zM_dr hZ a2 (by omega) (zbh (c := 0) (k := 0) hM (Nat.le_of_ble_eq_true rfl))
          obtain ⟨Z24, hZ24⟩ := zx (zu Z 2 0 0 (1216 + 12 * a2) ((Z 2 0 0 (1216 + 12 * a2)) + 1))
          replace hP := zl_e hP hZ24
          have hZ24I := zM_di2 hZ hZ24 (q := a2) (by omega) (by omega) (zbh (c := 0) (k := 1) hM (Nat.le_of_ble_eq_true rfl)) (by omega)
          have hZ24U : zU [] Z Z24 := zU_u zU_r hZ24 (Or.inl rfl)
          have hZ24K : zC [2] Z Z24 := zC_u zC_r hZ24 (zcl_2w (by omega) rfl)
          intro μ9 e9
          replace e9 := e9.trans (zm_wI (Z := Z) (ν := ν) hZ24 (show ((0 : Nat) : Int) = 0 from rfl) (show ((0 : Nat) : Int) = 0 from rfl) (i3I (y := (1216 + 12 * a2)) (i3A (i3A (show (1210 : Int32) = i3 1210 from rfl) (i3M (show (12 : Int32) = i3 12 from rfl) (rfl : i3 a2 = i3 a2))) (show (6 : Int32) = i3 6 from rfl)) (by omega) (by omega) (by omega)) (i3A (zm_rd (Z := Z) (ν := ν) (k := 2) (show ((0 : Nat) : Int) = 0 from rfl) (show ((0 : Nat) : Int) = 0 from rfl) (i3I (y := (1216 + 12 * a2)) (i3A (i3A (show (1210 : Int32) = i3 1210 from rfl) (i3M (show (12 : Int32) = i3 12 from rfl) (rfl : i3 a2 = i3 a2))) (show (6 : Int32) = i3 6 from rfl)) (by omega) (by omega) (by omega))) (show (1 : Int32) = i3 1 from rfl)))
          subst e9
          refine wz_i0 (i3O (n := 4400) (i3A (i3A (show (200 : Int32) = i3 200 from rfl) (i3M (show (20 : Int32) = i3 20 from rfl) (rfl : i3 a1 = i3 a1))) (show (11 : Int32) = i3 11 from rfl)) (by omega) (by omega) (by omega)) ?_
          obtain ⟨Z25, hZ25⟩ := zx (zu Z24 2 0 0 (211 + 20 * a1) a2)
          replace hP := zl_e hP hZ25
          have r26 := zM_k hZ24I 2 0 0 (210 + 20 * a1) (lo := 0) (hi := 4) (by decide) (zs_200_10 (x := a1) (by omega) (by omega) (by omega))
          have r27 := zM_pl hZ24I a1
          have r28 := zM_k hZ24I 2 0 0 102 (lo := 0) (hi := 48) (by decide) rfl
          have q29 := zu_ne (k' := 2) (b' := 0) (i' := 0) (j' := 102) hZ24 (fun q => absurd q.2.2.2 (by omega))
          have q30 := zu_ne (k' := 2) (b' := 0) (i' := 0) (j' := (210 + 20 * a1)) hZ24 (fun q => absurd q.2.2.2 (by omega))
          have hZ25I := zM_pw2 hZ24I hZ25 (q := a1) (by omega) (by omega) (by omega) (by omega)
          have hZ25U : zU [] Z Z25 := zU_u hZ24U hZ25 (Or.inl rfl)
          have hZ25K : zC [2] Z Z25 := zC_u hZ24K hZ25 (zcl_2w (by omega) rfl)
          intro μ9 e9
          replace e9 := e9.trans (zm_wI (Z := Z24) (ν := ν) hZ25 (show ((0 : Nat) : Int) = 0 from rfl) (show ((0 : Nat) : Int) = 0 from rfl) (i3I (y := (211 + 20 * a1)) (i3A (i3A (show (200 : Int32) = i3 200 from rfl) (i3M (show (20 : Int32) = i3 20 from rfl) (rfl : i3 a1 = i3 a1))) (show (11 : Int32) = i3 11 from rfl)) (by omega) (by omega) (by omega)) (rfl : i3 a2 = i3 a2))
          subst e9
          exact zlV hP ⟨(zmw (a := 1) (c := 2) hZ25I (Nat.le_of_ble_eq_true rfl)), hZ25K, hZ25U⟩
    · replace hP := zE_n hP h18
      refine wz_i0 (i3O (n := 4400) (i3A (i3A (show (1210 : Int32) = i3 1210 from rfl) (i3M (show (12 : Int32) = i3 12 from rfl) (zm_rd (Z := Z) (ν := ν) (k := 2) (show ((0 : Nat) : Int) = 0 from rfl) (show ((0 : Nat) : Int) = 0 from rfl) (i3I (y := (211 + 20 * a1)) (i3A (i3A (show (200 : Int32) = i3 200 from rfl) (i3M (show (20 : Int32) = i3 20 from rfl) (rfl : i3 a1 = i3 a1))) (show (11 : Int32) = i3 11 from rfl)) (by omega) (by omega) (by omega))))) (show (6 : Int32) = i3 6 from rfl)) (by omega) (by omega) (by omega)) ?_
      refine wz_i0 (i3O (n := 4400) (i3A (i3A (show (1210 : Int32) = i3 1210 from rfl) (i3M (show (12 : Int32) = i3 12 from rfl) (zm_rd (Z := Z) (ν := ν) (k := 2) (show ((0 : Nat) : Int) = 0 from rfl) (show ((0 : Nat) : Int) = 0 from rfl) (i3I (y := (211 + 20 * a1)) (i3A (i3A (show (200 : Int32) = i3 200 from rfl) (i3M (show (20 : Int32) = i3 20 from rfl) (rfl : i3 a1 = i3 a1))) (show (11 : Int32) = i3 11 from rfl)) (by omega) (by omega) (by omega))))) (show (6 : Int32) = i3 6 from rfl)) (by omega) (by omega) (by omega)) ?_
      have r31 := zM_dr hZ (Z 2 0 0 (211 + 20 * a1)) (by omega) (zbh (c := 0) (k := 0) hM (Nat.le_of_ble_eq_true rfl))
      obtain ⟨Z32, hZ32⟩ := zx (zu Z 2 0 0 (1216 + 12 * (Z 2 0 0 (211 + 20 * a1))) ((Z 2 0 0 (1216 + 12 * (Z 2 0 0 (211 + 20 * a1)))) + 1))
      replace hP := zl_e hP hZ32
      have hZ32I := zM_di2 hZ hZ32 (q := (Z 2 0 0 (211 + 20 * a1))) (by omega) (by omega) (zbh (c := 0) (k := 1) hM (Nat.le_of_ble_eq_true rfl)) (by omega)
      have hZ32U : zU [] Z Z32 := zU_u zU_r hZ32 (Or.inl rfl)
      have hZ32K : zC [2] Z Z32 := zC_u zC_r hZ32 (zcl_2w (by omega) rfl)
      intro μ9 e9
      replace e9 := e9.trans (zm_wI (Z := Z) (ν := ν) hZ32 (show ((0 : Nat) : Int) = 0 from rfl) (show ((0 : Nat) : Int) = 0 from rfl) (i3I (y := (1216 + 12 * (Z 2 0 0 (211 + 20 * a1)))) (i3A (i3A (show (1210 : Int32) = i3 1210 from rfl) (i3M (show (12 : Int32) = i3 12 from rfl) (zm_rd (Z := Z) (ν := ν) (k := 2) (show ((0 : Nat) : Int) = 0 from rfl) (show ((0 : Nat) : Int) = 0 from rfl) (i3I (y := (211 + 20 * a1)) (i3A (i3A (show (200 : Int32) = i3 200 from rfl) (i3M (show (20 : Int32) = i3 20 from rfl) (rfl : i3 a1 = i3 a1))) (show (11 : Int32) = i3 11 from rfl)) (by omega) (by omega) (by omega))))) (show (6 : Int32) = i3 6 from rfl)) (by omega) (by omega) (by omega)) (i3A (zm_rd (Z := Z) (ν := ν) (k := 2) (show ((0 : Nat) : Int) = 0 from rfl) (show ((0 : Nat) : Int) = 0 from rfl) (i3I (y := (1216 + 12 * (Z 2 0 0 (211 + 20 * a1)))) (i3A (i3A (show (1210 : Int32) = i3 1210 from rfl) (i3M (show (12 : Int32) = i3 12 from rfl) (zm_rd (Z := Z) (ν := ν) (k := 2) (show ((0 : Nat) : Int) = 0 from rfl) (show ((0 : Nat) : Int) = 0 from rfl) (i3I (y := (211 + 20 * a1)) (i3A (i3A (show (200 : Int32) = i3 200 from rfl) (i3M (show (20 : Int32) = i3 20 from rfl) (rfl : i3 a1 = i3 a1))) (show (11 : Int32) = i3 11 from rfl)) (by omega) (by omega) (by omega))))) (show (6 : Int32) = i3 6 from rfl)) (by omega) (by omega) (by omega))) (show (1 : Int32) = i3 1 from rfl)))
      subst e9
      refine wz_br (i3L (rfl : i3 a2 = i3 a2) (show (0 : Int32) = i3 0 from rfl) (by omega) (by omega) (by omega) (by omega)) (fun h33 => ?_) (fun h33 => ?_)
      · replace hP := zE_p hP h33
        refine wz_i0 (i3O (n := 4400) (i3A (i3A (show (200 : Int32) = i3 200 from rfl) (i3M (show (20 : Int32) = i3 20 from rfl) (rfl : i3 a1 = i3 a1))) (show (11 : Int32) = i3 11 from rfl)) (by omega) (by omega) (by omega)) ?_
        obtain ⟨Z34, hZ34⟩ := zx (zu Z32 2 0 0 (211 + 20 * a1) a2)
        replace hP := zl_e hP hZ34
        have r35 := zM_k hZ32I 2 0 0 (210 + 20 * a1) (lo := 0) (hi := 4) (by decide) (zs_200_10 (x := a1) (by omega) (by omega) (by omega))
        have r36 := zM_pl hZ32I a1
        have r37 := zM_k hZ32I 2 0 0 102 (lo := 0) (hi := 48) (by decide) rfl
        have q38 := zu_ne (k' := 2) (b' := 0) (i' := 0) (j' := 102) hZ32 (fun q => absurd q.2.2.2 (by omega))
        have q39 := zu_ne (k' := 2) (b' := 0) (i' := 0) (j' := (210 + 20 * a1)) hZ32 (fun q => absurd q.2.2.2 (by omega))
        have hZ34I := zM_pw2 hZ32I hZ34 (q := a1) (by omega) (by omega) (by omega) (by omega)
        have hZ34U : zU [] Z Z34 := zU_u hZ32U hZ34 (Or.inl rfl)
        have hZ34K : zC [2] Z Z34 := zC_u hZ32K hZ34 (zcl_2w (by omega) rfl)
        intro μ9 e9
        replace e9 := e9.trans (zm_wI (Z := Z32) (ν := ν) hZ34 (show ((0 : Nat) : Int) = 0 from rfl) (show ((0 : Nat) : Int) = 0 from rfl) (i3I (y := (211 + 20 * a1)) (i3A (i3A (show (200 : Int32) = i3 200 from rfl) (i3M (show (20 : Int32) = i3 20 from rfl) (rfl : i3 a1 = i3 a1))) (show (11 : Int32) = i3 11 from rfl)) (by omega) (by omega) (by omega)) (rfl : i3 a2 = i3 a2))
        subst e9
        exact zlV hP ⟨(zmw (a := 1) (c := 2) hZ34I (Nat.le_of_ble_eq_true rfl)), hZ34K, hZ34U⟩
      · replace hP := zE_n hP h33
        refine wz_br (i3L (show (5 : Int32) = i3 5 from rfl) (rfl : i3 a2 = i3 a2) (by omega) (by omega) (by omega) (by omega)) (fun h40 => ?_) (fun h40 => ?_)
        · replace hP := zE_p hP h40
          refine wz_i0 (i3O (n := 4400) (i3A (i3A (show (200 : Int32) = i3 200 from rfl) (i3M (show (20 : Int32) = i3 20 from rfl) (rfl : i3 a1 = i3 a1))) (show (11 : Int32) = i3 11 from rfl)) (by omega) (by omega) (by omega)) ?_
          obtain ⟨Z41, hZ41⟩ := zx (zu Z32 2 0 0 (211 + 20 * a1) a2)
          replace hP := zl_e hP hZ41
          have r42 := zM_k hZ32I 2 0 0 (210 + 20 * a1) (lo := 0) (hi := 4) (by decide) (zs_200_10 (x := a1) (by omega) (by omega) (by omega))
          have r43 := zM_pl hZ32I a1
          have r44 := zM_k hZ32I 2 0 0 102 (lo := 0) (hi := 48) (by decide) rfl
          have q45 := zu_ne (k' := 2) (b' := 0) (i' := 0) (j' := 102) hZ32 (fun q => absurd q.2.2.2 (by omega))
          have q46 := zu_ne (k' := 2) (b' := 0) (i' := 0) (j' := (210 + 20 * a1)) hZ32 (fun q => absurd q.2.2.2 (by omega))
          have hZ41I := zM_pw2 hZ32I hZ41 (q := a1) (by omega) (by omega) (by omega) (by omega)
          have hZ41U : zU [] Z Z41 := zU_u hZ32U hZ41 (Or.inl rfl)
          have hZ41K : zC [2] Z Z41 := zC_u hZ32K hZ41 (zcl_2w (by omega) rfl)
          intro μ9 e9
          replace e9 := e9.trans (zm_wI (Z := Z32) (ν := ν) hZ41 (show ((0 : Nat) : Int) = 0 from rfl) (show ((0 : Nat) : Int) = 0 from rfl) (i3I (y := (211 + 20 * a1)) (i3A (i3A (show (200 : Int32) = i3 200 from rfl) (i3M (show (20 : Int32) = i3 20 from rfl) (rfl : i3 a1 = i3 a1))) (show (11 : Int32) = i3 11 from rfl)) (by omega) (by omega) (by omega)) (rfl : i3 a2 = i3 a2))
          subst e9
          exact zlV hP ⟨(zmw (a := 1) (c := 2) hZ41I (Nat.le_of_ble_eq_true rfl)), hZ41K, hZ41U⟩
        · replace hP := zE_n hP h40
          refine wz_i0 (i3O (n := 4400) (i3A (i3A (show (1210 : Int32) = i3 1210 from rfl) (i3M (show (12 : Int32) = i3 12 from rfl) (rfl : i3 a2 = i3 a2))) (show (6 : Int32) = i3 6 from rfl)) (by omega) (by omega) (by omega)) ?_
          refine wz_i0 (i3O (n := 4400) (i3A (i3A (show (1210 : Int32) = i3 1210 from rfl) (i3M (show (12 : Int32) = i3 12 from rfl) (rfl : i3 a2 = i3 a2))) (show (6 : Int32) = i3 6 from rfl)) (by omega) (by omega) (by omega)) ?_
          have r47 := zM_dr hZ32I a2 (by omega) (zbh (c := 1) (k := 0) hM (Nat.le_of_ble_eq_true rfl))
          obtain ⟨Z48, hZ48⟩ := zx (zu Z32 2 0 0 (1216 + 12 * a2) ((Z32 2 0 0 (1216 + 12 * a2)) + 1))
          replace hP := zl_e hP hZ48
          have hZ48I := zM_di2 hZ32I hZ48 (q := a2) (by omega) (by omega) (zbh (c := 1) (k := 1) hM (Nat.le_of_ble_eq_true rfl)) (by omega)
          replace hZ48I := zmt (c := 2) hZ48I rfl
          have hZ48U : zU [] Z Z48 := zU_u hZ32U hZ48 (Or.inl rfl)
          have hZ48K : zC [2] Z Z48 := zC_u hZ32K hZ48 (zcl_2w (by omega) rfl)
          intro μ9 e9
          replace e9 := e9.trans (zm_wI (Z := Z32) (ν := ν) hZ48 (show ((0 : Nat) : Int) = 0 from rfl) (show ((0 : Nat) : Int) = 0 from rfl) (i3I (y := (1216 + 12 * a2)) (i3A (i3A (show (1210 : Int32) = i3 1210 from rfl) (i3M (show (12 : Int32) = i3 12 from rfl) (rfl : i3 a2 = i3 a2))) (show (6 : Int32) = i3 6 from rfl)) (by omega) (by omega) (by omega)) (i3A (zm_rd (Z := Z32) (ν := ν) (k := 2) (show ((0 : Nat) : Int) = 0 from rfl) (show ((0 : Nat) : Int) = 0 from rfl) (i3I (y := (1216 + 12 * a2)) (i3A (i3A (show (1210 : Int32) = i3 1210 from rfl) (i3M (show (12 : Int32) = i3 12 from rfl) (rfl : i3 a2 = i3 a2))) (show (6 : Int32) = i3 6 from rfl)) (by omega) (by omega) (by omega))) (show (1 : Int32) = i3 1 from rfl)))
          subst e9
          refine wz_i0 (i3O (n := 4400) (i3A (i3A (show (200 : Int32) = i3 200 from rfl) (i3M (show (20 : Int32) = i3 20 from rfl) (rfl : i3 a1 = i3 a1))) (show (11 : Int32) = i3 11 from rfl)) (by omega) (by omega) (by omega)) ?_
          obtain ⟨Z49, hZ49⟩ := zx (zu Z48 2 0 0 (211 + 20 * a1) a2)
          replace hP := zl_e hP hZ49
          have r50 := zM_k hZ48I 2 0 0 (210 + 20 * a1) (lo := 0) (hi := 4) (by decide) (zs_200_10 (x := a1) (by omega) (by omega) (by omega))
          have r51 := zM_pl hZ48I a1
          have r52 := zM_k hZ48I 2 0 0 102 (lo := 0) (hi := 48) (by decide) rfl
          have q53 := (zu_ne (k' := 2) (b' := 0) (i' := 0) (j' := 102) hZ48 (fun q => absurd q.2.2.2 (by omega))).trans (zu_ne (k' := 2) (b' := 0) (i' := 0) (j' := 102) hZ32 (fun q => absurd q.2.2.2 (by omega)))
          have q54 := (zu_ne (k' := 2) (b' := 0) (i' := 0) (j' := (210 + 20 * a1)) hZ48 (fun q => absurd q.2.2.2 (by omega))).trans (zu_ne (k' := 2) (b' := 0) (i' := 0) (j' := (210 + 20 * a1)) hZ32 (fun q => absurd q.2.2.2 (by omega)))
          have hZ49I := zM_pw2 hZ48I hZ49 (q := a1) (by omega) (by omega) (by omega) (by omega)
          have hZ49U : zU [] Z Z49 := zU_u hZ48U hZ49 (Or.inl rfl)
          have hZ49K : zC [2] Z Z49 := zC_u hZ48K hZ49 (zcl_2w (by omega) rfl)
          intro μ9 e9
          replace e9 := e9.trans (zm_wI (Z := Z48) (ν := ν) hZ49 (show ((0 : Nat) : Int) = 0 from rfl) (show ((0 : Nat) : Int) = 0 from rfl) (i3I (y := (211 + 20 * a1)) (i3A (i3A (show (200 : Int32) = i3 200 from rfl) (i3M (show (20 : Int32) = i3 20 from rfl) (rfl : i3 a1 = i3 a1))) (show (11 : Int32) = i3 11 from rfl)) (by omega) (by omega) (by omega)) (rfl : i3 a2 = i3 a2))
          subst e9
          exact zlV hP ⟨hZ49I, hZ49K, hZ49U⟩
/- yX12_rStanding -/
def zl_488_1 (x1 : Int) : Nat → qz_Z → Int → Int → Int × Int
  | 0, Z, x2, x3 => (x2, x3)
  | m + 1, Z, x2, x3 => (if (Z 2 0 0 102) ≤ x3 then (x2, x3) else (if 1 < (Z 2 0 0 (210 + 20 * x3)) then zl_488_1 x1 m Z (x2 + 0) (x3 + 1) else (if (Z 2 0 0 (211 + 20 * x3)) ≠ x1 then zl_488_1 x1 m Z (x2 + 0) (x3 + 1) else zl_488_1 x1 m Z (x2 + 1) (x3 + 1))))
theorem sl_488_1 {s : zSM} {Z : qz_Z} {ν : qz_N} (hZ : zM s Z) (hM : s.2 + 0 ≤ 1000000000) {x1 : Int} (gx1 : -1 ≤ x1 ∧ x1 ≤ 6) {x2 : Int} (gx2 : 0 ≤ x2 ∧ x2 ≤ 48) {x3 : Int} (gx3 : 0 ≤ x3 ∧ x3 ≤ 48) (gr0 : x2 ≤ x3) {k : wz_K} {R : wz_R} {L : qz_L} (hL : qz_fg [true, true, true, true] L = [some (.inr (.inr (some (1, 0, 0)))), some (.inl (i3 x1)), some (.inl (i3 x2)), some (.inl (i3 x3))]) {T : Int × Int} (hP : zE T (zl_488_1 x1 ((48 - x3).toNat + 1) Z x2 x3)) (hk : ∀ (L9 : qz_L) (yx2 yx3 : Int), qz_fg [false, false, true, false] L9 = [none, none, some (.inl (i3 yx2)), none] → (0 ≤ yx2 ∧ yx2 ≤ 48) → (0 ≤ yx3 ∧ yx3 ≤ 48) → (yx2 ≤ yx3) → zE T ((yx2, yx3)) → k 0 (L9, [], zm Z ν)) : wz_loop qb_488_1 65536 k R (L, [], zm Z ν) := by
  refine wz_lp sb_488_1 (fun m x => ∃ x2 : Int, ∃ x3 : Int, qz_fg [true, true, true, true] x.1 = [some (.inr (.inr (some (1, 0, 0)))), some (.inl (i3 x1)), some (.inl (i3 x2)), some (.inl (i3 x3))] ∧ x.2 = ([], zm Z ν) ∧ m = (48 - x3).toNat ∧ (0 ≤ x2 ∧ x2 ≤ 48) ∧ (0 ≤ x3 ∧ x3 ≤ 48) ∧ (x2 ≤ x3) ∧ zE T (zl_488_1 x1 (m + 1) Z x2 x3)) ?_ 65536 ((48 - x3).toNat) _ (by omega) ⟨x2, x3, hL, rfl, rfl, gx2, gx3, gr0, hP⟩
  clear hP gr0 gx2 gx3 hL
  clear x2 x3
  rintro m ⟨L, st, μ⟩ ⟨x2, x3, hL, hx, hm, gx2, gx3, gr0, hP⟩
  cases hx
  refine fb_488_1 (i3 x1) (i3 x2) (i3 x3) _ _ _ _ hL ?_
  have r1 := zM_k hZ 2 0 0 102 (lo := 0) (hi := 48) (by decide) rfl
  refine wz_br (i3Le (zm_rd (Z := Z) (ν := ν) (k := 2) (show ((0 : Nat) : Int) = 0 from rfl) (show ((0 : Nat) : Int) = 0 from rfl) (show ((102 : Nat) : Int) = 102 from rfl)) (rfl : i3 x3 = i3 x3) (by omega) (by omega) (by omega) (by omega)) (fun h2 => ?_) (fun h2 => ?_)
  · replace hP := zE_p hP h2
    exact hk _ _ _ (zconso rfl (zconso rfl (zconso (zvo (rfl : i3 x2 = i3 x2)) (zconso rfl rfl))))  (by omega) (by omega) (by omega) hP
  · replace hP := zE_n hP h2
    refine wz_i0 (i3O (n := 4400) (i3A (i3A (show (200 : Int32) = i3 200 from rfl) (i3M (show (20 : Int32) = i3 20 from rfl) (rfl : i3 x3 = i3 x3))) (show (10 : Int32) = i3 10 from rfl)) (by omega) (by omega) (by omega)) ?_
    have r3 := zM_k hZ 2 0 0 (210 + 20 * x3) (lo := 0) (hi := 4) (by decide) (zs_200_10 (x := x3) (by omega) (by omega) (by omega))
    have r4 := zM_pl hZ x3
    refine wz_br (i3L (show (1 : Int32) = i3 1 from rfl) (zm_rd (Z := Z) (ν := ν) (k := 2) (show ((0 : Nat) : Int) = 0 from rfl) (show ((0 : Nat) : Int) = 0 from rfl) (i3I (y := (210 + 20 * x3)) (i3A (i3A (show (200 : Int32) = i3 200 from rfl) (i3M (show (20 : Int32) = i3 20 from rfl) (rfl : i3 x3 = i3 x3))) (show (10 : Int32) = i3 10 from rfl)) (by omega) (by omega) (by omega))) (by omega) (by omega) (by omega) (by omega)) (fun h5 => ?_) (fun h5 => ?_)
    · replace hP := zE_p hP h5
      obtain ⟨m2, rfl⟩ : ∃ m2, m = m2 + 1 := ⟨m - 1, by omega⟩
      exact wz_k1 ⟨m2, by omega, (x2 + 0), (x3 + 1), (zconso rfl (zconso (zvo (rfl : i3 x1 = i3 x1)) (zconso (zvo (i3A (rfl : i3 x2 = i3 x2) (show (0 : Int32) = i3 0 from rfl))) (zconso (zvo (i3A (rfl : i3 x3 = i3 x3) (show (1 : Int32) = i3 1 from rfl))) rfl)))), rfl,  by omega, by omega, by omega, by omega,  hP⟩
    · replace hP := zE_n hP h5
      refine wz_i0 (i3O (n := 4400) (i3A (i3A (show (200 : Int32) = i3 200 from rfl) (i3M (show (20 : Int32) = i3 20 from rfl) (rfl : i3 x3 = i3 x3))) (show (11 : Int32) = i3 11 from rfl)) (by omega) (by omega) (by omega)) ?_
      have r6 := zM_k hZ 2 0 0 (211 + 20 * x3) (lo := -1) (hi := 6) (by decide) (zs_200_11 (x := x3) (by omega) (by omega) (by omega))
      refine wz_br (i3NE (zm_rd (Z := Z) (ν := ν) (k := 2) (show ((0 : Nat) : Int) = 0 from rfl) (show ((0 : Nat) : Int) = 0 from rfl) (i3I (y := (211 + 20 * x3)) (i3A (i3A (show (200 : Int32) = i3 200 from rfl) (i3M (show (20 : Int32) = i3 20 from rfl) (rfl : i3 x3 = i3 x3))) (show (11 : Int32) = i3 11 from rfl)) (by omega) (by omega) (by omega))) (rfl : i3 x1 = i3 x1) (by omega) (by omega) (by omega) (by omega)) (fun h7 => ?_) (fun h7 => ?_)
      · replace hP := zE_p hP h7
        obtain ⟨m2, rfl⟩ : ∃ m2, m = m2 + 1 := ⟨m - 1, by omega⟩
        exact wz_k1 ⟨m2, by omega, (x2 + 0), (x3 + 1), (zconso rfl (zconso (zvo (rfl : i3 x1 = i3 x1)) (zconso (zvo (i3A (rfl : i3 x2 = i3 x2) (show (0 : Int32) = i3 0 from rfl))) (zconso (zvo (i3A (rfl : i3 x3 = i3 x3) (show (1 : Int32) = i3 1 from rfl))) rfl)))), rfl,  by omega, by omega, by omega, by omega,  hP⟩
      · replace hP := zE_n hP h7
        obtain ⟨m2, rfl⟩ : ∃ m2, m = m2 + 1 := ⟨m - 1, by omega⟩
        exact wz_k1 ⟨m2, by omega, (x2 + 1), (x3 + 1), (zconso rfl (zconso (zvo (rfl : i3 x1 = i3 x1)) (zconso (zvo (i3A (rfl : i3 x2 = i3 x2) (show (1 : Int32) = i3 1 from rfl))) (zconso (zvo (i3A (rfl : i3 x3 = i3 x3) (show (1 : Int32) = i3 1 from rfl))) rfl)))), rfl,  by omega, by omega, by omega, by omega,  hP⟩
/- yX12_rStanding -/
def zf_488 (Z : qz_Z) (a1 : Int) : Int := (zlet2 (zl_488_1 a1 49 Z 0 0) (fun y1 y2 => y1))
theorem sp_488 {s : zSM} {Z : qz_Z} {ν : qz_N} (hZ : zM s Z) {a1 : Int} (ga1 : -1 ≤ a1 ∧ a1 ≤ 6) (hM : s.2 + 0 ≤ 1000000000) : ∃ P : Int, P = zf_488 Z a1 ∧ (qf_488 [.inr (.inr (some (1, 0, 0))), .inl (i3 a1)] (zm Z ν) = some (zm Z ν, .inl (some (.inl (i3 P)))) ∧ 0 ≤ P ∧ P ≤ 48) := by
  obtain ⟨P, hP⟩ := zx (zf_488 Z a1)
  refine zc_R (Q := fun P => 0 ≤ P ∧ P ≤ 48) hP (fw_488 (i3 a1) _ _ ?_)
  replace hP : zE P (zf_488 Z a1) := hP
  unfold zf_488 at hP
  refine sl_488_1 (ν := ν) hZ (zbh (c := 0) (k := 0) hM (Nat.le_of_ble_eq_true rfl)) (x1 := a1) (by omega) (x2 := 0) (by omega) (x3 := 0) (by omega) (by omega) (zconso rfl (zconso (zvo (rfl : i3 a1 = i3 a1)) (zconso (zvo (show (0 : Int32) = i3 0 from rfl)) (zconso (zvo (show (0 : Int32) = i3 0 from rfl)) rfl)))) rfl ?_
  intro L3 y1 y2 hL3 gy1 gy2 gL3_0 q9
  replace hP := zl_e2 hP (Eq.symm q9)
  clear q9
  refine fc_488_2 (i3 y1) _ _ _ _ hL3 ?_
  exact zlR hP (rfl : i3 y1 = i3 y1) ⟨by omega, by omega⟩
