set_option maxRecDepth 100000 in
theorem aw_t0 : Cond.initialized R_L ∈ al_w := al_t 0 (by decide +kernel) (by decide +kernel)
set_option maxRecDepth 100000 in
theorem aw_t1 : Cond.initialized R_X ∈ al_w := al_t 1 (by decide +kernel) (by decide +kernel)
set_option maxRecDepth 100000 in
theorem aw_t2 : Cond.initialized R_M ∈ al_w := al_t 2 (by decide +kernel) (by decide +kernel)
set_option maxRecDepth 100000 in
theorem aw_t3 : Cond.initialized R_J ∈ al_w := al_t 3 (by decide +kernel) (by decide +kernel)
set_option maxRecDepth 100000 in
theorem aw_t4 : Cond.initialized R_A ∈ al_w := al_t 4 (by decide +kernel) (by decide +kernel)
set_option maxRecDepth 100000 in
theorem aw_t5 : Cond.classLink R_L 7 R_X ∈ al_w := al_t 5 (by decide +kernel) (by decide +kernel)
set_option maxRecDepth 100000 in
theorem aw_t6 : Cond.instantiable R_X 13 ∈ al_w := al_t 6 (by decide +kernel) (by decide +kernel)
set_option maxRecDepth 100000 in
theorem aw_t7 : Cond.methodLink R_L 9 y_X_init ∈ al_w := al_t 7 (by decide +kernel) (by decide +kernel)
set_option maxRecDepth 100000 in
theorem aw_t8 : Cond.instanceMethod y_X_init ∈ al_w := al_t 8 (by decide +kernel) (by decide +kernel)
set_option maxRecDepth 100000 in
theorem aw_t10 : Cond.methodLink R_X 1 objectInit ∈ al_w := al_t 10 (by decide +kernel) (by decide +kernel)
set_option maxRecDepth 100000 in
theorem aw_t11 : Cond.instanceMethod objectInit ∈ al_w := al_t 11 (by decide +kernel) (by decide +kernel)
set_option maxRecDepth 100000 in
theorem aw_t13 : Cond.fieldLink R_X 17 "SealedTally" "p" "I" ∈ al_w := al_t 13 (by decide +kernel) (by decide +kernel)
set_option maxRecDepth 100000 in
theorem aw_t14 : Cond.fieldLink R_X 21 "SealedTally" "q" "I" ∈ al_w := al_t 14 (by decide +kernel) (by decide +kernel)
set_option maxRecDepth 100000 in
theorem aw_t15 : Cond.fieldLink R_X 24 "SealedTally" "n" "I" ∈ al_w := al_t 15 (by decide +kernel) (by decide +kernel)
set_option maxRecDepth 100000 in
theorem aw_t16 : Cond.fieldLink R_X 27 "SealedTally" "square" "J" ∈ al_w := al_t 16 (by decide +kernel) (by decide +kernel)
set_option maxRecDepth 100000 in
theorem aw_t17 : Cond.fieldLink R_X 31 "SealedTally" "coinCount" "J" ∈ al_w := al_t 17 (by decide +kernel) (by decide +kernel)
set_option maxRecDepth 100000 in
theorem aw_t18 : Cond.fieldLink R_X 38 "SealedTally" "coinCountInverse" "J" ∈ al_w := al_t 18 (by decide +kernel) (by decide +kernel)
set_option maxRecDepth 100000 in
theorem aw_t19 : Cond.fieldLink R_X 41 "SealedTally" "coinExponent" "J" ∈ al_w := al_t 19 (by decide +kernel) (by decide +kernel)
set_option maxRecDepth 100000 in
theorem aw_t20 : Cond.fieldLink R_X 44 "SealedTally" "candidates" "I" ∈ al_w := al_t 20 (by decide +kernel) (by decide +kernel)
set_option maxRecDepth 100000 in
theorem aw_t21 : Cond.fieldLink R_X 84 "SealedTally" "radix" "I" ∈ al_w := al_t 21 (by decide +kernel) (by decide +kernel)
set_option maxRecDepth 100000 in
theorem aw_t22 : Cond.fieldLink R_X 87 "SealedTally" "closed" "Z" ∈ al_w := al_t 22 (by decide +kernel) (by decide +kernel)
set_option maxRecDepth 100000 in
theorem aw_t23 : Cond.fieldLink R_X 124 "SealedTally" "total" "J" ∈ al_w := al_t 23 (by decide +kernel) (by decide +kernel)
set_option maxRecDepth 100000 in
theorem aw_t24 : Cond.fieldLink R_X 91 "SealedTally" "ballotCount" "I" ∈ al_w := al_t 24 (by decide +kernel) (by decide +kernel)
set_option maxRecDepth 100000 in
theorem aw_t25 : Cond.fieldLink R_X 9 "SealedTally" "ballotOf" "[J" ∈ al_w := al_t 25 (by decide +kernel) (by decide +kernel)
set_option maxRecDepth 100000 in
theorem aw_t53 : Cond.arrayClass (newarray.typeOf .long) ∈ al_w := al_t 53 (by decide +kernel) (by decide +kernel)
set_option maxRecDepth 100000 in
theorem aw_t54 : Cond.methodLink R_L 13 y_X_key ∈ al_w := al_t 54 (by decide +kernel) (by decide +kernel)
set_option maxRecDepth 100000 in
theorem aw_t55 : Cond.instanceMethod y_X_key ∈ al_w := al_t 55 (by decide +kernel) (by decide +kernel)
set_option maxRecDepth 100000 in
theorem aw_t56 : Cond.selects R_X y_X_key y_X_key ∈ al_w := al_t 56 (by decide +kernel) (by decide +kernel)
set_option maxRecDepth 100000 in
theorem aw_t58 : Cond.methodLink R_X 13 y_X_isKey ∈ al_w := al_t 58 (by decide +kernel) (by decide +kernel)
set_option maxRecDepth 100000 in
theorem aw_t59 : Cond.static y_X_isKey ∈ al_w := al_t 59 (by decide +kernel) (by decide +kernel)
set_option maxRecDepth 100000 in
theorem aw_t61 : Cond.methodLink R_X 127 y_X_isKeyPrime ∈ al_w := al_t 61 (by decide +kernel) (by decide +kernel)
set_option maxRecDepth 100000 in
theorem aw_t62 : Cond.static y_X_isKeyPrime ∈ al_w := al_t 62 (by decide +kernel) (by decide +kernel)
set_option maxRecDepth 100000 in
theorem aw_t64 : Cond.methodLink R_X 34 y_X_raised ∈ al_w := al_t 64 (by decide +kernel) (by decide +kernel)
set_option maxRecDepth 100000 in
theorem aw_t65 : Cond.static y_X_raised ∈ al_w := al_t 65 (by decide +kernel) (by decide +kernel)
set_option maxRecDepth 100000 in
theorem aw_t67 : Cond.methodLink R_L 18 y_X_modulus ∈ al_w := al_t 67 (by decide +kernel) (by decide +kernel)
set_option maxRecDepth 100000 in
theorem aw_t68 : Cond.instanceMethod y_X_modulus ∈ al_w := al_t 68 (by decide +kernel) (by decide +kernel)
set_option maxRecDepth 100000 in
theorem aw_t69 : Cond.selects R_X y_X_modulus y_X_modulus ∈ al_w := al_t 69 (by decide +kernel) (by decide +kernel)
set_option maxRecDepth 100000 in
theorem aw_t71 : Cond.methodLink R_L 25 y_X_seal ∈ al_w := al_t 71 (by decide +kernel) (by decide +kernel)
set_option maxRecDepth 100000 in
theorem aw_t72 : Cond.instanceMethod y_X_seal ∈ al_w := al_t 72 (by decide +kernel) (by decide +kernel)
set_option maxRecDepth 100000 in
theorem aw_t73 : Cond.selects R_X y_X_seal y_X_seal ∈ al_w := al_t 73 (by decide +kernel) (by decide +kernel)
set_option maxRecDepth 100000 in
theorem aw_t75 : Cond.methodLink R_X 47 y_X_hasKey ∈ al_w := al_t 75 (by decide +kernel) (by decide +kernel)
set_option maxRecDepth 100000 in
theorem aw_t77 : Cond.instanceMethod y_X_hasKey ∈ al_w := al_t 77 (by decide +kernel) (by decide +kernel)
set_option maxRecDepth 100000 in
theorem aw_t79 : Cond.constantLong R_X 51 (-1) ∈ al_w := al_t 79 (by decide +kernel) (by decide +kernel)
set_option maxRecDepth 100000 in
theorem aw_t80 : Cond.methodLink R_X 53 y_X_isMessage ∈ al_w := al_t 80 (by decide +kernel) (by decide +kernel)
set_option maxRecDepth 100000 in
theorem aw_t82 : Cond.instanceMethod y_X_isMessage ∈ al_w := al_t 82 (by decide +kernel) (by decide +kernel)
set_option maxRecDepth 100000 in
theorem aw_t84 : Cond.methodLink R_X 57 y_X_isCoin ∈ al_w := al_t 84 (by decide +kernel) (by decide +kernel)
set_option maxRecDepth 100000 in
theorem aw_t86 : Cond.instanceMethod y_X_isCoin ∈ al_w := al_t 86 (by decide +kernel) (by decide +kernel)
set_option maxRecDepth 100000 in
theorem aw_t88 : Cond.methodLink R_X 130 y_X_sharesNoFactor ∈ al_w := al_t 88 (by decide +kernel) (by decide +kernel)
set_option maxRecDepth 100000 in
theorem aw_t90 : Cond.instanceMethod y_X_sharesNoFactor ∈ al_w := al_t 90 (by decide +kernel) (by decide +kernel)
set_option maxRecDepth 100000 in
theorem aw_t92 : Cond.constantLong R_X 60 (-4) ∈ al_w := al_t 92 (by decide +kernel) (by decide +kernel)
set_option maxRecDepth 100000 in
theorem aw_t93 : Cond.methodLink R_X 62 y_X_sealing ∈ al_w := al_t 93 (by decide +kernel) (by decide +kernel)
set_option maxRecDepth 100000 in
theorem aw_t95 : Cond.instanceMethod y_X_sealing ∈ al_w := al_t 95 (by decide +kernel) (by decide +kernel)
set_option maxRecDepth 100000 in
theorem aw_t97 : Cond.methodLink R_L 30 y_X_message ∈ al_w := al_t 97 (by decide +kernel) (by decide +kernel)
set_option maxRecDepth 100000 in
theorem aw_t98 : Cond.instanceMethod y_X_message ∈ al_w := al_t 98 (by decide +kernel) (by decide +kernel)
set_option maxRecDepth 100000 in
theorem aw_t99 : Cond.selects R_X y_X_message y_X_message ∈ al_w := al_t 99 (by decide +kernel) (by decide +kernel)
set_option maxRecDepth 100000 in
theorem aw_t101 : Cond.methodLink R_X 66 y_X_isSeal ∈ al_w := al_t 101 (by decide +kernel) (by decide +kernel)
set_option maxRecDepth 100000 in
theorem aw_t103 : Cond.instanceMethod y_X_isSeal ∈ al_w := al_t 103 (by decide +kernel) (by decide +kernel)
set_option maxRecDepth 100000 in
theorem aw_t105 : Cond.methodLink R_X 69 y_X_messageIn ∈ al_w := al_t 105 (by decide +kernel) (by decide +kernel)
set_option maxRecDepth 100000 in
theorem aw_t107 : Cond.instanceMethod y_X_messageIn ∈ al_w := al_t 107 (by decide +kernel) (by decide +kernel)
set_option maxRecDepth 100000 in
theorem aw_t109 : Cond.methodLink R_L 35 y_X_coin ∈ al_w := al_t 109 (by decide +kernel) (by decide +kernel)
set_option maxRecDepth 100000 in
theorem aw_t110 : Cond.instanceMethod y_X_coin ∈ al_w := al_t 110 (by decide +kernel) (by decide +kernel)
set_option maxRecDepth 100000 in
theorem aw_t111 : Cond.selects R_X y_X_coin y_X_coin ∈ al_w := al_t 111 (by decide +kernel) (by decide +kernel)
set_option maxRecDepth 100000 in
theorem aw_t113 : Cond.methodLink R_X 73 y_X_coinIn ∈ al_w := al_t 113 (by decide +kernel) (by decide +kernel)
set_option maxRecDepth 100000 in
theorem aw_t115 : Cond.instanceMethod y_X_coinIn ∈ al_w := al_t 115 (by decide +kernel) (by decide +kernel)
set_option maxRecDepth 100000 in
theorem aw_t117 : Cond.methodLink R_L 39 y_X_join ∈ al_w := al_t 117 (by decide +kernel) (by decide +kernel)
set_option maxRecDepth 100000 in
theorem aw_t118 : Cond.instanceMethod y_X_join ∈ al_w := al_t 118 (by decide +kernel) (by decide +kernel)
set_option maxRecDepth 100000 in
theorem aw_t119 : Cond.selects R_X y_X_join y_X_join ∈ al_w := al_t 119 (by decide +kernel) (by decide +kernel)
set_option maxRecDepth 100000 in
theorem aw_t121 : Cond.methodLink R_L 43 y_X_power ∈ al_w := al_t 121 (by decide +kernel) (by decide +kernel)
set_option maxRecDepth 100000 in
theorem aw_t122 : Cond.instanceMethod y_X_power ∈ al_w := al_t 122 (by decide +kernel) (by decide +kernel)
set_option maxRecDepth 100000 in
theorem aw_t123 : Cond.selects R_X y_X_power y_X_power ∈ al_w := al_t 123 (by decide +kernel) (by decide +kernel)
set_option maxRecDepth 100000 in
theorem aw_t125 : Cond.methodLink R_X 76 y_J_floorMod ∈ al_w := al_t 125 (by decide +kernel) (by decide +kernel)
set_option maxRecDepth 100000 in
theorem aw_t126 : Cond.static y_J_floorMod ∈ al_w := al_t 126 (by decide +kernel) (by decide +kernel)
set_option maxRecDepth 100000 in
theorem aw_t128 : Cond.methodLink R_L 48 y_X_open ∈ al_w := al_t 128 (by decide +kernel) (by decide +kernel)
set_option maxRecDepth 100000 in
theorem aw_t129 : Cond.instanceMethod y_X_open ∈ al_w := al_t 129 (by decide +kernel) (by decide +kernel)
set_option maxRecDepth 100000 in
theorem aw_t130 : Cond.selects R_X y_X_open y_X_open ∈ al_w := al_t 130 (by decide +kernel) (by decide +kernel)
set_option maxRecDepth 100000 in
theorem aw_t132 : Cond.methodLink R_X 81 y_X_isBoxSize ∈ al_w := al_t 132 (by decide +kernel) (by decide +kernel)
set_option maxRecDepth 100000 in
theorem aw_t134 : Cond.instanceMethod y_X_isBoxSize ∈ al_w := al_t 134 (by decide +kernel) (by decide +kernel)
set_option maxRecDepth 100000 in
theorem aw_t136 : Cond.methodLink R_X 94 y_A_fill ∈ al_w := al_t 136 (by decide +kernel) (by decide +kernel)
set_option maxRecDepth 100000 in
theorem aw_t137 : Cond.static y_A_fill ∈ al_w := al_t 137 (by decide +kernel) (by decide +kernel)
set_option maxRecDepth 100000 in
theorem aw_t139 : Cond.methodLink R_L 53 y_X_choice ∈ al_w := al_t 139 (by decide +kernel) (by decide +kernel)
set_option maxRecDepth 100000 in
theorem aw_t140 : Cond.instanceMethod y_X_choice ∈ al_w := al_t 140 (by decide +kernel) (by decide +kernel)
set_option maxRecDepth 100000 in
theorem aw_t141 : Cond.selects R_X y_X_choice y_X_choice ∈ al_w := al_t 141 (by decide +kernel) (by decide +kernel)
set_option maxRecDepth 100000 in
theorem aw_t143 : Cond.methodLink R_X 100 y_X_hasBox ∈ al_w := al_t 143 (by decide +kernel) (by decide +kernel)
set_option maxRecDepth 100000 in
theorem aw_t145 : Cond.instanceMethod y_X_hasBox ∈ al_w := al_t 145 (by decide +kernel) (by decide +kernel)
set_option maxRecDepth 100000 in
theorem aw_t147 : Cond.constantLong R_X 103 (-2) ∈ al_w := al_t 147 (by decide +kernel) (by decide +kernel)
set_option maxRecDepth 100000 in
theorem aw_t148 : Cond.methodLink R_X 105 y_X_isCandidate ∈ al_w := al_t 148 (by decide +kernel) (by decide +kernel)
set_option maxRecDepth 100000 in
theorem aw_t150 : Cond.instanceMethod y_X_isCandidate ∈ al_w := al_t 150 (by decide +kernel) (by decide +kernel)
set_option maxRecDepth 100000 in
theorem aw_t152 : Cond.methodLink R_X 109 y_X_radixPower ∈ al_w := al_t 152 (by decide +kernel) (by decide +kernel)
set_option maxRecDepth 100000 in
theorem aw_t154 : Cond.instanceMethod y_X_radixPower ∈ al_w := al_t 154 (by decide +kernel) (by decide +kernel)
set_option maxRecDepth 100000 in
theorem aw_t156 : Cond.methodLink R_L 58 y_X_cast ∈ al_w := al_t 156 (by decide +kernel) (by decide +kernel)
set_option maxRecDepth 100000 in
theorem aw_t157 : Cond.instanceMethod y_X_cast ∈ al_w := al_t 157 (by decide +kernel) (by decide +kernel)
set_option maxRecDepth 100000 in
theorem aw_t158 : Cond.selects R_X y_X_cast y_X_cast ∈ al_w := al_t 158 (by decide +kernel) (by decide +kernel)
set_option maxRecDepth 100000 in
theorem aw_t160 : Cond.methodLink R_X 113 y_X_isVoter ∈ al_w := al_t 160 (by decide +kernel) (by decide +kernel)
set_option maxRecDepth 100000 in
theorem aw_t161 : Cond.static y_X_isVoter ∈ al_w := al_t 161 (by decide +kernel) (by decide +kernel)
set_option maxRecDepth 100000 in
theorem aw_t163 : Cond.methodLink R_L 63 y_X_withdraw ∈ al_w := al_t 163 (by decide +kernel) (by decide +kernel)
set_option maxRecDepth 100000 in
theorem aw_t164 : Cond.instanceMethod y_X_withdraw ∈ al_w := al_t 164 (by decide +kernel) (by decide +kernel)
set_option maxRecDepth 100000 in
theorem aw_t165 : Cond.selects R_X y_X_withdraw y_X_withdraw ∈ al_w := al_t 165 (by decide +kernel) (by decide +kernel)
set_option maxRecDepth 100000 in
theorem aw_t167 : Cond.constantLong R_X 116 (-3) ∈ al_w := al_t 167 (by decide +kernel) (by decide +kernel)
set_option maxRecDepth 100000 in
theorem aw_t168 : Cond.constantLong R_X 118 (-6) ∈ al_w := al_t 168 (by decide +kernel) (by decide +kernel)
set_option maxRecDepth 100000 in
theorem aw_t169 : Cond.methodLink R_L 68 y_X_ballot ∈ al_w := al_t 169 (by decide +kernel) (by decide +kernel)
set_option maxRecDepth 100000 in
theorem aw_t170 : Cond.instanceMethod y_X_ballot ∈ al_w := al_t 170 (by decide +kernel) (by decide +kernel)
set_option maxRecDepth 100000 in
theorem aw_t171 : Cond.selects R_X y_X_ballot y_X_ballot ∈ al_w := al_t 171 (by decide +kernel) (by decide +kernel)
set_option maxRecDepth 100000 in
theorem aw_t173 : Cond.methodLink R_L 72 y_X_ballots ∈ al_w := al_t 173 (by decide +kernel) (by decide +kernel)
set_option maxRecDepth 100000 in
theorem aw_t174 : Cond.instanceMethod y_X_ballots ∈ al_w := al_t 174 (by decide +kernel) (by decide +kernel)
set_option maxRecDepth 100000 in
theorem aw_t175 : Cond.selects R_X y_X_ballots y_X_ballots ∈ al_w := al_t 175 (by decide +kernel) (by decide +kernel)
set_option maxRecDepth 100000 in
theorem aw_t177 : Cond.methodLink R_L 76 y_X_sum ∈ al_w := al_t 177 (by decide +kernel) (by decide +kernel)
set_option maxRecDepth 100000 in
theorem aw_t178 : Cond.instanceMethod y_X_sum ∈ al_w := al_t 178 (by decide +kernel) (by decide +kernel)
set_option maxRecDepth 100000 in
theorem aw_t179 : Cond.selects R_X y_X_sum y_X_sum ∈ al_w := al_t 179 (by decide +kernel) (by decide +kernel)
set_option maxRecDepth 100000 in
theorem aw_t181 : Cond.methodLink R_X 120 y_X_productOfBallots ∈ al_w := al_t 181 (by decide +kernel) (by decide +kernel)
set_option maxRecDepth 100000 in
theorem aw_t183 : Cond.instanceMethod y_X_productOfBallots ∈ al_w := al_t 183 (by decide +kernel) (by decide +kernel)
set_option maxRecDepth 100000 in
theorem aw_t185 : Cond.methodLink R_L 81 y_X_close ∈ al_w := al_t 185 (by decide +kernel) (by decide +kernel)
set_option maxRecDepth 100000 in
theorem aw_t186 : Cond.instanceMethod y_X_close ∈ al_w := al_t 186 (by decide +kernel) (by decide +kernel)
set_option maxRecDepth 100000 in
theorem aw_t187 : Cond.selects R_X y_X_close y_X_close ∈ al_w := al_t 187 (by decide +kernel) (by decide +kernel)
set_option maxRecDepth 100000 in
theorem aw_t189 : Cond.methodLink R_L 85 y_X_votes ∈ al_w := al_t 189 (by decide +kernel) (by decide +kernel)
set_option maxRecDepth 100000 in
theorem aw_t190 : Cond.instanceMethod y_X_votes ∈ al_w := al_t 190 (by decide +kernel) (by decide +kernel)
set_option maxRecDepth 100000 in
theorem aw_t191 : Cond.selects R_X y_X_votes y_X_votes ∈ al_w := al_t 191 (by decide +kernel) (by decide +kernel)
set_option maxRecDepth 100000 in
theorem aw_t193 : Cond.methodLink R_L 90 y_X_witness ∈ al_w := al_t 193 (by decide +kernel) (by decide +kernel)
set_option maxRecDepth 100000 in
theorem aw_t194 : Cond.instanceMethod y_X_witness ∈ al_w := al_t 194 (by decide +kernel) (by decide +kernel)
set_option maxRecDepth 100000 in
theorem aw_t195 : Cond.selects R_X y_X_witness y_X_witness ∈ al_w := al_t 195 (by decide +kernel) (by decide +kernel)
set_option maxRecDepth 100000 in
theorem aw_t197 : Cond.methodLink R_L 94 y_X_check ∈ al_w := al_t 197 (by decide +kernel) (by decide +kernel)
set_option maxRecDepth 100000 in
theorem aw_t198 : Cond.instanceMethod y_X_check ∈ al_w := al_t 198 (by decide +kernel) (by decide +kernel)
set_option maxRecDepth 100000 in
theorem aw_t199 : Cond.selects R_X y_X_check y_X_check ∈ al_w := al_t 199 (by decide +kernel) (by decide +kernel)
set_option maxRecDepth 100000 in
theorem aw_t201 : Cond.classLink R_L 10 R_M ∈ al_w := al_t 201 (by decide +kernel) (by decide +kernel)
set_option maxRecDepth 100000 in
theorem aw_t202 : Cond.instantiable R_M 9 ∈ al_w := al_t 202 (by decide +kernel) (by decide +kernel)
set_option maxRecDepth 100000 in
theorem aw_t203 : Cond.methodLink R_L 12 y_M_init ∈ al_w := al_t 203 (by decide +kernel) (by decide +kernel)
set_option maxRecDepth 100000 in
theorem aw_t204 : Cond.instanceMethod y_M_init ∈ al_w := al_t 204 (by decide +kernel) (by decide +kernel)
set_option maxRecDepth 100000 in
theorem aw_t206 : Cond.methodLink R_M 1 objectInit ∈ al_w := al_t 206 (by decide +kernel) (by decide +kernel)
set_option maxRecDepth 100000 in
theorem aw_t207 : Cond.fieldLink R_M 17 "SealedTallyModel" "n" "J" ∈ al_w := al_t 207 (by decide +kernel) (by decide +kernel)
set_option maxRecDepth 100000 in
theorem aw_t208 : Cond.fieldLink R_M 21 "SealedTallyModel" "square" "J" ∈ al_w := al_t 208 (by decide +kernel) (by decide +kernel)
set_option maxRecDepth 100000 in
theorem aw_t209 : Cond.fieldLink R_M 24 "SealedTallyModel" "coins" "J" ∈ al_w := al_t 209 (by decide +kernel) (by decide +kernel)
set_option maxRecDepth 100000 in
theorem aw_t210 : Cond.fieldLink R_M 27 "SealedTallyModel" "undo" "J" ∈ al_w := al_t 210 (by decide +kernel) (by decide +kernel)
set_option maxRecDepth 100000 in
theorem aw_t211 : Cond.fieldLink R_M 30 "SealedTallyModel" "box" "Z" ∈ al_w := al_t 211 (by decide +kernel) (by decide +kernel)
set_option maxRecDepth 100000 in
theorem aw_t212 : Cond.fieldLink R_M 68 "SealedTallyModel" "closed" "Z" ∈ al_w := al_t 212 (by decide +kernel) (by decide +kernel)
set_option maxRecDepth 100000 in
theorem aw_t213 : Cond.fieldLink R_M 71 "SealedTallyModel" "candidates" "I" ∈ al_w := al_t 213 (by decide +kernel) (by decide +kernel)
set_option maxRecDepth 100000 in
theorem aw_t214 : Cond.fieldLink R_M 75 "SealedTallyModel" "radix" "I" ∈ al_w := al_t 214 (by decide +kernel) (by decide +kernel)
set_option maxRecDepth 100000 in
theorem aw_t215 : Cond.fieldLink R_M 7 "SealedTallyModel" "ballot" "[J" ∈ al_w := al_t 215 (by decide +kernel) (by decide +kernel)
set_option maxRecDepth 100000 in
theorem aw_t235 : Cond.methodLink R_L 17 y_M_key ∈ al_w := al_t 235 (by decide +kernel) (by decide +kernel)
set_option maxRecDepth 100000 in
theorem aw_t236 : Cond.instanceMethod y_M_key ∈ al_w := al_t 236 (by decide +kernel) (by decide +kernel)
set_option maxRecDepth 100000 in
theorem aw_t237 : Cond.selects R_M y_M_key y_M_key ∈ al_w := al_t 237 (by decide +kernel) (by decide +kernel)
set_option maxRecDepth 100000 in
theorem aw_t239 : Cond.methodLink R_M 13 y_M_prime ∈ al_w := al_t 239 (by decide +kernel) (by decide +kernel)
set_option maxRecDepth 100000 in
theorem aw_t240 : Cond.static y_M_prime ∈ al_w := al_t 240 (by decide +kernel) (by decide +kernel)
set_option maxRecDepth 100000 in
theorem aw_t242 : Cond.methodLink R_L 22 y_M_modulus ∈ al_w := al_t 242 (by decide +kernel) (by decide +kernel)
set_option maxRecDepth 100000 in
theorem aw_t243 : Cond.instanceMethod y_M_modulus ∈ al_w := al_t 243 (by decide +kernel) (by decide +kernel)
set_option maxRecDepth 100000 in
theorem aw_t244 : Cond.selects R_M y_M_modulus y_M_modulus ∈ al_w := al_t 244 (by decide +kernel) (by decide +kernel)
set_option maxRecDepth 100000 in
theorem aw_t246 : Cond.methodLink R_L 29 y_M_seal ∈ al_w := al_t 246 (by decide +kernel) (by decide +kernel)
set_option maxRecDepth 100000 in
theorem aw_t247 : Cond.instanceMethod y_M_seal ∈ al_w := al_t 247 (by decide +kernel) (by decide +kernel)
set_option maxRecDepth 100000 in
theorem aw_t248 : Cond.selects R_M y_M_seal y_M_seal ∈ al_w := al_t 248 (by decide +kernel) (by decide +kernel)
set_option maxRecDepth 100000 in
theorem aw_t250 : Cond.constantLong R_M 48 (-1) ∈ al_w := al_t 250 (by decide +kernel) (by decide +kernel)
set_option maxRecDepth 100000 in
theorem aw_t251 : Cond.methodLink R_M 50 y_M_isMessage ∈ al_w := al_t 251 (by decide +kernel) (by decide +kernel)
set_option maxRecDepth 100000 in
theorem aw_t253 : Cond.instanceMethod y_M_isMessage ∈ al_w := al_t 253 (by decide +kernel) (by decide +kernel)
set_option maxRecDepth 100000 in
theorem aw_t255 : Cond.methodLink R_M 54 y_M_isCoin ∈ al_w := al_t 255 (by decide +kernel) (by decide +kernel)
set_option maxRecDepth 100000 in
theorem aw_t257 : Cond.instanceMethod y_M_isCoin ∈ al_w := al_t 257 (by decide +kernel) (by decide +kernel)
set_option maxRecDepth 100000 in
theorem aw_t259 : Cond.methodLink R_M 34 y_M_factor ∈ al_w := al_t 259 (by decide +kernel) (by decide +kernel)
set_option maxRecDepth 100000 in
theorem aw_t260 : Cond.static y_M_factor ∈ al_w := al_t 260 (by decide +kernel) (by decide +kernel)
set_option maxRecDepth 100000 in
theorem aw_t262 : Cond.methodLink R_M 57 y_M_sealing ∈ al_w := al_t 262 (by decide +kernel) (by decide +kernel)
set_option maxRecDepth 100000 in
theorem aw_t264 : Cond.instanceMethod y_M_sealing ∈ al_w := al_t 264 (by decide +kernel) (by decide +kernel)
set_option maxRecDepth 100000 in
theorem aw_t266 : Cond.methodLink R_M 40 y_M_raise ∈ al_w := al_t 266 (by decide +kernel) (by decide +kernel)
set_option maxRecDepth 100000 in
theorem aw_t267 : Cond.static y_M_raise ∈ al_w := al_t 267 (by decide +kernel) (by decide +kernel)
set_option maxRecDepth 100000 in
theorem aw_t269 : Cond.constantLong R_M 38 (lN 2) ∈ al_w := al_t 269 (by decide +kernel) (by decide +kernel)
set_option maxRecDepth 100000 in
theorem aw_t270 : Cond.constantLong R_M 60 (-4) ∈ al_w := al_t 270 (by decide +kernel) (by decide +kernel)
set_option maxRecDepth 100000 in
theorem aw_t271 : Cond.methodLink R_L 34 y_M_message ∈ al_w := al_t 271 (by decide +kernel) (by decide +kernel)
set_option maxRecDepth 100000 in
theorem aw_t272 : Cond.instanceMethod y_M_message ∈ al_w := al_t 272 (by decide +kernel) (by decide +kernel)
set_option maxRecDepth 100000 in
theorem aw_t273 : Cond.selects R_M y_M_message y_M_message ∈ al_w := al_t 273 (by decide +kernel) (by decide +kernel)
set_option maxRecDepth 100000 in
theorem aw_t275 : Cond.methodLink R_M 62 y_M_isSeal ∈ al_w := al_t 275 (by decide +kernel) (by decide +kernel)
set_option maxRecDepth 100000 in
theorem aw_t277 : Cond.instanceMethod y_M_isSeal ∈ al_w := al_t 277 (by decide +kernel) (by decide +kernel)
set_option maxRecDepth 100000 in
theorem aw_t279 : Cond.methodLink R_M 65 y_M_messageIn ∈ al_w := al_t 279 (by decide +kernel) (by decide +kernel)
set_option maxRecDepth 100000 in
theorem aw_t281 : Cond.instanceMethod y_M_messageIn ∈ al_w := al_t 281 (by decide +kernel) (by decide +kernel)
set_option maxRecDepth 100000 in
theorem aw_t283 : Cond.methodLink R_M 44 y_M_coinIn ∈ al_w := al_t 283 (by decide +kernel) (by decide +kernel)
set_option maxRecDepth 100000 in
theorem aw_t285 : Cond.instanceMethod y_M_coinIn ∈ al_w := al_t 285 (by decide +kernel) (by decide +kernel)
set_option maxRecDepth 100000 in
theorem aw_t287 : Cond.methodLink R_L 38 y_M_coin ∈ al_w := al_t 287 (by decide +kernel) (by decide +kernel)
set_option maxRecDepth 100000 in
theorem aw_t288 : Cond.instanceMethod y_M_coin ∈ al_w := al_t 288 (by decide +kernel) (by decide +kernel)
set_option maxRecDepth 100000 in
theorem aw_t289 : Cond.selects R_M y_M_coin y_M_coin ∈ al_w := al_t 289 (by decide +kernel) (by decide +kernel)
set_option maxRecDepth 100000 in
theorem aw_t291 : Cond.methodLink R_L 42 y_M_join ∈ al_w := al_t 291 (by decide +kernel) (by decide +kernel)
set_option maxRecDepth 100000 in
theorem aw_t292 : Cond.instanceMethod y_M_join ∈ al_w := al_t 292 (by decide +kernel) (by decide +kernel)
set_option maxRecDepth 100000 in
theorem aw_t293 : Cond.selects R_M y_M_join y_M_join ∈ al_w := al_t 293 (by decide +kernel) (by decide +kernel)
set_option maxRecDepth 100000 in
theorem aw_t295 : Cond.methodLink R_L 47 y_M_power ∈ al_w := al_t 295 (by decide +kernel) (by decide +kernel)
set_option maxRecDepth 100000 in
theorem aw_t296 : Cond.instanceMethod y_M_power ∈ al_w := al_t 296 (by decide +kernel) (by decide +kernel)
set_option maxRecDepth 100000 in
theorem aw_t297 : Cond.selects R_M y_M_power y_M_power ∈ al_w := al_t 297 (by decide +kernel) (by decide +kernel)
set_option maxRecDepth 100000 in
theorem aw_t299 : Cond.methodLink R_L 52 y_M_open ∈ al_w := al_t 299 (by decide +kernel) (by decide +kernel)
set_option maxRecDepth 100000 in
theorem aw_t300 : Cond.instanceMethod y_M_open ∈ al_w := al_t 300 (by decide +kernel) (by decide +kernel)
set_option maxRecDepth 100000 in
theorem aw_t301 : Cond.selects R_M y_M_open y_M_open ∈ al_w := al_t 301 (by decide +kernel) (by decide +kernel)
set_option maxRecDepth 100000 in
theorem aw_t303 : Cond.methodLink R_L 57 y_M_choice ∈ al_w := al_t 303 (by decide +kernel) (by decide +kernel)
set_option maxRecDepth 100000 in
theorem aw_t304 : Cond.instanceMethod y_M_choice ∈ al_w := al_t 304 (by decide +kernel) (by decide +kernel)
set_option maxRecDepth 100000 in
theorem aw_t305 : Cond.selects R_M y_M_choice y_M_choice ∈ al_w := al_t 305 (by decide +kernel) (by decide +kernel)
set_option maxRecDepth 100000 in
theorem aw_t307 : Cond.constantLong R_M 78 (-2) ∈ al_w := al_t 307 (by decide +kernel) (by decide +kernel)
set_option maxRecDepth 100000 in
theorem aw_t308 : Cond.methodLink R_M 80 y_M_place ∈ al_w := al_t 308 (by decide +kernel) (by decide +kernel)
set_option maxRecDepth 100000 in
theorem aw_t310 : Cond.instanceMethod y_M_place ∈ al_w := al_t 310 (by decide +kernel) (by decide +kernel)
set_option maxRecDepth 100000 in
theorem aw_t312 : Cond.methodLink R_L 62 y_M_cast ∈ al_w := al_t 312 (by decide +kernel) (by decide +kernel)
set_option maxRecDepth 100000 in
theorem aw_t313 : Cond.instanceMethod y_M_cast ∈ al_w := al_t 313 (by decide +kernel) (by decide +kernel)
set_option maxRecDepth 100000 in
theorem aw_t314 : Cond.selects R_M y_M_cast y_M_cast ∈ al_w := al_t 314 (by decide +kernel) (by decide +kernel)
set_option maxRecDepth 100000 in
theorem aw_t316 : Cond.methodLink R_M 84 y_M_count ∈ al_w := al_t 316 (by decide +kernel) (by decide +kernel)
set_option maxRecDepth 100000 in
theorem aw_t318 : Cond.instanceMethod y_M_count ∈ al_w := al_t 318 (by decide +kernel) (by decide +kernel)
set_option maxRecDepth 100000 in
theorem aw_t320 : Cond.methodLink R_L 67 y_M_withdraw ∈ al_w := al_t 320 (by decide +kernel) (by decide +kernel)
set_option maxRecDepth 100000 in
theorem aw_t321 : Cond.instanceMethod y_M_withdraw ∈ al_w := al_t 321 (by decide +kernel) (by decide +kernel)
set_option maxRecDepth 100000 in
theorem aw_t322 : Cond.selects R_M y_M_withdraw y_M_withdraw ∈ al_w := al_t 322 (by decide +kernel) (by decide +kernel)
set_option maxRecDepth 100000 in
theorem aw_t324 : Cond.constantLong R_M 88 (-3) ∈ al_w := al_t 324 (by decide +kernel) (by decide +kernel)
set_option maxRecDepth 100000 in
theorem aw_t325 : Cond.constantLong R_M 90 (-6) ∈ al_w := al_t 325 (by decide +kernel) (by decide +kernel)
set_option maxRecDepth 100000 in
theorem aw_t326 : Cond.methodLink R_L 71 y_M_ballot ∈ al_w := al_t 326 (by decide +kernel) (by decide +kernel)
set_option maxRecDepth 100000 in
theorem aw_t327 : Cond.instanceMethod y_M_ballot ∈ al_w := al_t 327 (by decide +kernel) (by decide +kernel)
set_option maxRecDepth 100000 in
theorem aw_t328 : Cond.selects R_M y_M_ballot y_M_ballot ∈ al_w := al_t 328 (by decide +kernel) (by decide +kernel)
set_option maxRecDepth 100000 in
theorem aw_t330 : Cond.methodLink R_L 75 y_M_ballots ∈ al_w := al_t 330 (by decide +kernel) (by decide +kernel)
set_option maxRecDepth 100000 in
theorem aw_t331 : Cond.instanceMethod y_M_ballots ∈ al_w := al_t 331 (by decide +kernel) (by decide +kernel)
set_option maxRecDepth 100000 in
theorem aw_t332 : Cond.selects R_M y_M_ballots y_M_ballots ∈ al_w := al_t 332 (by decide +kernel) (by decide +kernel)
set_option maxRecDepth 100000 in
theorem aw_t334 : Cond.methodLink R_L 80 y_M_sum ∈ al_w := al_t 334 (by decide +kernel) (by decide +kernel)
set_option maxRecDepth 100000 in
theorem aw_t335 : Cond.instanceMethod y_M_sum ∈ al_w := al_t 335 (by decide +kernel) (by decide +kernel)
set_option maxRecDepth 100000 in
theorem aw_t336 : Cond.selects R_M y_M_sum y_M_sum ∈ al_w := al_t 336 (by decide +kernel) (by decide +kernel)
set_option maxRecDepth 100000 in
theorem aw_t338 : Cond.methodLink R_M 92 y_M_product ∈ al_w := al_t 338 (by decide +kernel) (by decide +kernel)
set_option maxRecDepth 100000 in
theorem aw_t340 : Cond.instanceMethod y_M_product ∈ al_w := al_t 340 (by decide +kernel) (by decide +kernel)
set_option maxRecDepth 100000 in
theorem aw_t342 : Cond.methodLink R_L 84 y_M_close ∈ al_w := al_t 342 (by decide +kernel) (by decide +kernel)
set_option maxRecDepth 100000 in
theorem aw_t343 : Cond.instanceMethod y_M_close ∈ al_w := al_t 343 (by decide +kernel) (by decide +kernel)
set_option maxRecDepth 100000 in
theorem aw_t344 : Cond.selects R_M y_M_close y_M_close ∈ al_w := al_t 344 (by decide +kernel) (by decide +kernel)
set_option maxRecDepth 100000 in
theorem aw_t346 : Cond.methodLink R_L 89 y_M_votes ∈ al_w := al_t 346 (by decide +kernel) (by decide +kernel)
set_option maxRecDepth 100000 in
theorem aw_t347 : Cond.instanceMethod y_M_votes ∈ al_w := al_t 347 (by decide +kernel) (by decide +kernel)
set_option maxRecDepth 100000 in
theorem aw_t348 : Cond.selects R_M y_M_votes y_M_votes ∈ al_w := al_t 348 (by decide +kernel) (by decide +kernel)
set_option maxRecDepth 100000 in
theorem aw_t350 : Cond.methodLink R_L 93 y_M_witness ∈ al_w := al_t 350 (by decide +kernel) (by decide +kernel)
set_option maxRecDepth 100000 in
theorem aw_t351 : Cond.instanceMethod y_M_witness ∈ al_w := al_t 351 (by decide +kernel) (by decide +kernel)
set_option maxRecDepth 100000 in
theorem aw_t352 : Cond.selects R_M y_M_witness y_M_witness ∈ al_w := al_t 352 (by decide +kernel) (by decide +kernel)
set_option maxRecDepth 100000 in
theorem aw_t354 : Cond.methodLink R_L 98 y_M_check ∈ al_w := al_t 354 (by decide +kernel) (by decide +kernel)
set_option maxRecDepth 100000 in
theorem aw_t355 : Cond.instanceMethod y_M_check ∈ al_w := al_t 355 (by decide +kernel) (by decide +kernel)
set_option maxRecDepth 100000 in
theorem aw_t356 : Cond.selects R_M y_M_check y_M_check ∈ al_w := al_t 356 (by decide +kernel) (by decide +kernel)
set_option maxRecDepth 100000 in
theorem aw_t358 : Cond.constantLong R_L 23 (lN 4294967295) ∈ al_w := al_t 358 (by decide +kernel) (by decide +kernel)
set_option maxRecDepth 100000 in
theorem aw_p0 : Cond.selects R_X y_X_hasKey y_X_hasKey ∈ al_w := al_p 0 (by decide +kernel) (by decide +kernel)
set_option maxRecDepth 100000 in
theorem aw_p1 : Cond.selects R_X y_X_isMessage y_X_isMessage ∈ al_w := al_p 1 (by decide +kernel) (by decide +kernel)
set_option maxRecDepth 100000 in
theorem aw_p2 : Cond.selects R_X y_X_isCoin y_X_isCoin ∈ al_w := al_p 2 (by decide +kernel) (by decide +kernel)
set_option maxRecDepth 100000 in
theorem aw_p3 : Cond.selects R_X y_X_sharesNoFactor y_X_sharesNoFactor ∈ al_w := al_p 3 (by decide +kernel) (by decide +kernel)
set_option maxRecDepth 100000 in
theorem aw_p4 : Cond.selects R_X y_X_sealing y_X_sealing ∈ al_w := al_p 4 (by decide +kernel) (by decide +kernel)
set_option maxRecDepth 100000 in
theorem aw_p5 : Cond.selects R_X y_X_isSeal y_X_isSeal ∈ al_w := al_p 5 (by decide +kernel) (by decide +kernel)
set_option maxRecDepth 100000 in
theorem aw_p6 : Cond.selects R_X y_X_messageIn y_X_messageIn ∈ al_w := al_p 6 (by decide +kernel) (by decide +kernel)
set_option maxRecDepth 100000 in
theorem aw_p7 : Cond.selects R_X y_X_coinIn y_X_coinIn ∈ al_w := al_p 7 (by decide +kernel) (by decide +kernel)
set_option maxRecDepth 100000 in
theorem aw_p8 : Cond.selects R_X y_X_isBoxSize y_X_isBoxSize ∈ al_w := al_p 8 (by decide +kernel) (by decide +kernel)
set_option maxRecDepth 100000 in
theorem aw_p9 : Cond.selects R_X y_X_hasBox y_X_hasBox ∈ al_w := al_p 9 (by decide +kernel) (by decide +kernel)
set_option maxRecDepth 100000 in
theorem aw_p10 : Cond.selects R_X y_X_isCandidate y_X_isCandidate ∈ al_w := al_p 10 (by decide +kernel) (by decide +kernel)
set_option maxRecDepth 100000 in
theorem aw_p11 : Cond.selects R_X y_X_radixPower y_X_radixPower ∈ al_w := al_p 11 (by decide +kernel) (by decide +kernel)
set_option maxRecDepth 100000 in
theorem aw_p12 : Cond.selects R_X y_X_productOfBallots y_X_productOfBallots ∈ al_w := al_p 12 (by decide +kernel) (by decide +kernel)
set_option maxRecDepth 100000 in
theorem aw_p13 : Cond.selects R_M y_M_isMessage y_M_isMessage ∈ al_w := al_p 13 (by decide +kernel) (by decide +kernel)
set_option maxRecDepth 100000 in
theorem aw_p14 : Cond.selects R_M y_M_isCoin y_M_isCoin ∈ al_w := al_p 14 (by decide +kernel) (by decide +kernel)
set_option maxRecDepth 100000 in
theorem aw_p15 : Cond.selects R_M y_M_sealing y_M_sealing ∈ al_w := al_p 15 (by decide +kernel) (by decide +kernel)
set_option maxRecDepth 100000 in
theorem aw_p16 : Cond.selects R_M y_M_isSeal y_M_isSeal ∈ al_w := al_p 16 (by decide +kernel) (by decide +kernel)
set_option maxRecDepth 100000 in
theorem aw_p17 : Cond.selects R_M y_M_messageIn y_M_messageIn ∈ al_w := al_p 17 (by decide +kernel) (by decide +kernel)
set_option maxRecDepth 100000 in
theorem aw_p18 : Cond.selects R_M y_M_coinIn y_M_coinIn ∈ al_w := al_p 18 (by decide +kernel) (by decide +kernel)
set_option maxRecDepth 100000 in
theorem aw_p19 : Cond.selects R_M y_M_place y_M_place ∈ al_w := al_p 19 (by decide +kernel) (by decide +kernel)
set_option maxRecDepth 100000 in
theorem aw_p20 : Cond.selects R_M y_M_count y_M_count ∈ al_w := al_p 20 (by decide +kernel) (by decide +kernel)
set_option maxRecDepth 100000 in
theorem aw_p21 : Cond.selects R_M y_M_product y_M_product ∈ al_w := al_p 21 (by decide +kernel) (by decide +kernel)
set_option maxRecDepth 100000 in
theorem k_X_init : Cond.code y_X_init b_X_init 1 (none) ∈ al_w := al_t 9 rfl rfl
set_option maxRecDepth 100000 in
theorem k_X_key : Cond.code y_X_key b_X_key 3 (some .int) ∈ al_w := al_t 57 rfl rfl
set_option maxRecDepth 100000 in
theorem k_X_isKey : Cond.code y_X_isKey b_X_isKey 2 (some .boolean) ∈ al_w := al_t 60 rfl rfl
set_option maxRecDepth 100000 in
theorem k_X_isKeyPrime : Cond.code y_X_isKeyPrime b_X_isKeyPrime 2 (some .boolean) ∈ al_w := al_t 63 rfl rfl
set_option maxRecDepth 100000 in
theorem k_X_raised : Cond.code y_X_raised b_X_raised 11 (some .long) ∈ al_w := al_t 66 rfl rfl
set_option maxRecDepth 100000 in
theorem k_X_modulus : Cond.code y_X_modulus b_X_modulus 1 (some .int) ∈ al_w := al_t 70 rfl rfl
set_option maxRecDepth 100000 in
theorem k_X_seal : Cond.code y_X_seal b_X_seal 5 (some .long) ∈ al_w := al_t 74 rfl rfl
set_option maxRecDepth 100000 in
theorem k_X_hasKey : Cond.code y_X_hasKey b_X_hasKey 1 (some .boolean) ∈ al_w := al_t 78 rfl rfl
set_option maxRecDepth 100000 in
theorem k_X_isMessage : Cond.code y_X_isMessage b_X_isMessage 3 (some .boolean) ∈ al_w := al_t 83 rfl rfl
set_option maxRecDepth 100000 in
theorem k_X_isCoin : Cond.code y_X_isCoin b_X_isCoin 3 (some .boolean) ∈ al_w := al_t 87 rfl rfl
set_option maxRecDepth 100000 in
theorem k_X_sharesNoFactor : Cond.code y_X_sharesNoFactor b_X_sharesNoFactor 3 (some .boolean) ∈ al_w := al_t 91 rfl rfl
set_option maxRecDepth 100000 in
theorem k_X_sealing : Cond.code y_X_sealing b_X_sealing 5 (some .long) ∈ al_w := al_t 96 rfl rfl
set_option maxRecDepth 100000 in
theorem k_X_message : Cond.code y_X_message b_X_message 3 (some .long) ∈ al_w := al_t 100 rfl rfl
set_option maxRecDepth 100000 in
theorem k_X_isSeal : Cond.code y_X_isSeal b_X_isSeal 3 (some .boolean) ∈ al_w := al_t 104 rfl rfl
set_option maxRecDepth 100000 in
theorem k_X_messageIn : Cond.code y_X_messageIn b_X_messageIn 5 (some .long) ∈ al_w := al_t 108 rfl rfl
set_option maxRecDepth 100000 in
theorem k_X_coin : Cond.code y_X_coin b_X_coin 3 (some .long) ∈ al_w := al_t 112 rfl rfl
set_option maxRecDepth 100000 in
theorem k_X_coinIn : Cond.code y_X_coinIn b_X_coinIn 3 (some .long) ∈ al_w := al_t 116 rfl rfl
set_option maxRecDepth 100000 in
theorem k_X_join : Cond.code y_X_join b_X_join 5 (some .long) ∈ al_w := al_t 120 rfl rfl
set_option maxRecDepth 100000 in
theorem k_X_power : Cond.code y_X_power b_X_power 6 (some .long) ∈ al_w := al_t 124 rfl rfl
set_option maxRecDepth 100000 in
theorem k_J_floorMod : Cond.code y_J_floorMod b_J_floorMod 6 (some .long) ∈ al_w := al_t 127 rfl rfl
set_option maxRecDepth 100000 in
theorem k_X_open : Cond.code y_X_open b_X_open 3 (some .boolean) ∈ al_w := al_t 131 rfl rfl
set_option maxRecDepth 100000 in
theorem k_X_isBoxSize : Cond.code y_X_isBoxSize b_X_isBoxSize 6 (some .boolean) ∈ al_w := al_t 135 rfl rfl
set_option maxRecDepth 100000 in
theorem k_A_fill : Cond.code y_A_fill b_A_fill 5 (none) ∈ al_w := al_t 138 rfl rfl
set_option maxRecDepth 100000 in
theorem k_X_choice : Cond.code y_X_choice b_X_choice 4 (some .long) ∈ al_w := al_t 142 rfl rfl
set_option maxRecDepth 100000 in
theorem k_X_hasBox : Cond.code y_X_hasBox b_X_hasBox 1 (some .boolean) ∈ al_w := al_t 146 rfl rfl
set_option maxRecDepth 100000 in
theorem k_X_isCandidate : Cond.code y_X_isCandidate b_X_isCandidate 2 (some .boolean) ∈ al_w := al_t 151 rfl rfl
set_option maxRecDepth 100000 in
theorem k_X_radixPower : Cond.code y_X_radixPower b_X_radixPower 5 (some .long) ∈ al_w := al_t 155 rfl rfl
set_option maxRecDepth 100000 in
theorem k_X_cast : Cond.code y_X_cast b_X_cast 5 (some .int) ∈ al_w := al_t 159 rfl rfl
set_option maxRecDepth 100000 in
theorem k_X_isVoter : Cond.code y_X_isVoter b_X_isVoter 1 (some .boolean) ∈ al_w := al_t 162 rfl rfl
set_option maxRecDepth 100000 in
theorem k_X_withdraw : Cond.code y_X_withdraw b_X_withdraw 4 (some .long) ∈ al_w := al_t 166 rfl rfl
set_option maxRecDepth 100000 in
theorem k_X_ballot : Cond.code y_X_ballot b_X_ballot 2 (some .long) ∈ al_w := al_t 172 rfl rfl
set_option maxRecDepth 100000 in
theorem k_X_ballots : Cond.code y_X_ballots b_X_ballots 1 (some .int) ∈ al_w := al_t 176 rfl rfl
set_option maxRecDepth 100000 in
theorem k_X_sum : Cond.code y_X_sum b_X_sum 1 (some .long) ∈ al_w := al_t 180 rfl rfl
set_option maxRecDepth 100000 in
theorem k_X_productOfBallots : Cond.code y_X_productOfBallots b_X_productOfBallots 4 (some .long) ∈ al_w := al_t 184 rfl rfl
set_option maxRecDepth 100000 in
theorem k_X_close : Cond.code y_X_close b_X_close 1 (some .long) ∈ al_w := al_t 188 rfl rfl
set_option maxRecDepth 100000 in
theorem k_X_votes : Cond.code y_X_votes b_X_votes 2 (some .int) ∈ al_w := al_t 192 rfl rfl
set_option maxRecDepth 100000 in
theorem k_X_witness : Cond.code y_X_witness b_X_witness 1 (some .long) ∈ al_w := al_t 196 rfl rfl
set_option maxRecDepth 100000 in
theorem k_X_check : Cond.code y_X_check b_X_check 5 (some .boolean) ∈ al_w := al_t 200 rfl rfl
set_option maxRecDepth 100000 in
theorem k_M_init : Cond.code y_M_init b_M_init 1 (none) ∈ al_w := al_t 205 rfl rfl
set_option maxRecDepth 100000 in
theorem k_M_key : Cond.code y_M_key b_M_key 5 (some .int) ∈ al_w := al_t 238 rfl rfl
set_option maxRecDepth 100000 in
theorem k_M_prime : Cond.code y_M_prime b_M_prime 3 (some .boolean) ∈ al_w := al_t 241 rfl rfl
set_option maxRecDepth 100000 in
theorem k_M_modulus : Cond.code y_M_modulus b_M_modulus 1 (some .int) ∈ al_w := al_t 245 rfl rfl
set_option maxRecDepth 100000 in
theorem k_M_seal : Cond.code y_M_seal b_M_seal 5 (some .long) ∈ al_w := al_t 249 rfl rfl
set_option maxRecDepth 100000 in
theorem k_M_isMessage : Cond.code y_M_isMessage b_M_isMessage 3 (some .boolean) ∈ al_w := al_t 254 rfl rfl
set_option maxRecDepth 100000 in
theorem k_M_isCoin : Cond.code y_M_isCoin b_M_isCoin 3 (some .boolean) ∈ al_w := al_t 258 rfl rfl
set_option maxRecDepth 100000 in
theorem k_M_factor : Cond.code y_M_factor b_M_factor 10 (some .long) ∈ al_w := al_t 261 rfl rfl
set_option maxRecDepth 100000 in
theorem k_M_sealing : Cond.code y_M_sealing b_M_sealing 7 (some .long) ∈ al_w := al_t 265 rfl rfl
set_option maxRecDepth 100000 in
theorem k_M_raise : Cond.code y_M_raise b_M_raise 12 (some .long) ∈ al_w := al_t 268 rfl rfl
set_option maxRecDepth 100000 in
theorem k_M_message : Cond.code y_M_message b_M_message 3 (some .long) ∈ al_w := al_t 274 rfl rfl
set_option maxRecDepth 100000 in
theorem k_M_isSeal : Cond.code y_M_isSeal b_M_isSeal 3 (some .boolean) ∈ al_w := al_t 278 rfl rfl
set_option maxRecDepth 100000 in
theorem k_M_messageIn : Cond.code y_M_messageIn b_M_messageIn 11 (some .long) ∈ al_w := al_t 282 rfl rfl
set_option maxRecDepth 100000 in
theorem k_M_coinIn : Cond.code y_M_coinIn b_M_coinIn 3 (some .long) ∈ al_w := al_t 286 rfl rfl
set_option maxRecDepth 100000 in
theorem k_M_coin : Cond.code y_M_coin b_M_coin 3 (some .long) ∈ al_w := al_t 290 rfl rfl
set_option maxRecDepth 100000 in
theorem k_M_join : Cond.code y_M_join b_M_join 5 (some .long) ∈ al_w := al_t 294 rfl rfl
set_option maxRecDepth 100000 in
theorem k_M_power : Cond.code y_M_power b_M_power 8 (some .long) ∈ al_w := al_t 298 rfl rfl
set_option maxRecDepth 100000 in
theorem k_M_open : Cond.code y_M_open b_M_open 6 (some .boolean) ∈ al_w := al_t 302 rfl rfl
set_option maxRecDepth 100000 in
theorem k_M_choice : Cond.code y_M_choice b_M_choice 4 (some .long) ∈ al_w := al_t 306 rfl rfl
set_option maxRecDepth 100000 in
theorem k_M_place : Cond.code y_M_place b_M_place 5 (some .long) ∈ al_w := al_t 311 rfl rfl
set_option maxRecDepth 100000 in
theorem k_M_cast : Cond.code y_M_cast b_M_cast 5 (some .int) ∈ al_w := al_t 315 rfl rfl
set_option maxRecDepth 100000 in
theorem k_M_count : Cond.code y_M_count b_M_count 3 (some .int) ∈ al_w := al_t 319 rfl rfl
set_option maxRecDepth 100000 in
theorem k_M_withdraw : Cond.code y_M_withdraw b_M_withdraw 4 (some .long) ∈ al_w := al_t 323 rfl rfl
set_option maxRecDepth 100000 in
theorem k_M_ballot : Cond.code y_M_ballot b_M_ballot 2 (some .long) ∈ al_w := al_t 329 rfl rfl
set_option maxRecDepth 100000 in
theorem k_M_ballots : Cond.code y_M_ballots b_M_ballots 1 (some .int) ∈ al_w := al_t 333 rfl rfl
set_option maxRecDepth 100000 in
theorem k_M_sum : Cond.code y_M_sum b_M_sum 1 (some .long) ∈ al_w := al_t 337 rfl rfl
set_option maxRecDepth 100000 in
theorem k_M_product : Cond.code y_M_product b_M_product 4 (some .long) ∈ al_w := al_t 341 rfl rfl
set_option maxRecDepth 100000 in
theorem k_M_close : Cond.code y_M_close b_M_close 1 (some .long) ∈ al_w := al_t 345 rfl rfl
set_option maxRecDepth 100000 in
theorem k_M_votes : Cond.code y_M_votes b_M_votes 4 (some .int) ∈ al_w := al_t 349 rfl rfl
set_option maxRecDepth 100000 in
theorem k_M_witness : Cond.code y_M_witness b_M_witness 1 (some .long) ∈ al_w := al_t 353 rfl rfl
set_option maxRecDepth 100000 in
theorem k_M_check : Cond.code y_M_check b_M_check 5 (some .boolean) ∈ al_w := al_t 357 rfl rfl
set_option maxRecDepth 100000 in
theorem k_Object_init : Cond.code objectInit ⟨#[0xb1]⟩ 1 none ∈ al_w := al_t 12 rfl rfl
