theorem ph_inn {gs : List Nat} {l ws : List Cond} (h : ph_pick gs l = ws) : ∀ w ∈ ws, w ∈ l := fun w hw => ph_mem gs l w (h ▸ hw)
set_option maxRecDepth 100000 in
set_option maxHeartbeats 4000000 in
theorem lw_sc0 : ∀ x ∈ ([Cond.exactly (Term.string "OneHeavyLoad$Reader" 61) "java/lang/String", Cond.eq (.field (Term.string "OneHeavyLoad$Reader" 61) "java/lang/String" "coder" "B") (.int 0), Cond.arrayOf (.field (Term.string "OneHeavyLoad$Reader" 61) "java/lang/String" "value" "[B") .byte, Cond.eq (.length (.field (Term.string "OneHeavyLoad$Reader" 61) "java/lang/String" "value" "[B")) (.int (Int32.ofNat 4)), Cond.eq (.elem (.field (Term.string "OneHeavyLoad$Reader" 61) "java/lang/String" "value" "[B") (.int (Int32.ofNat 0))) (.int 114), Cond.eq (.elem (.field (Term.string "OneHeavyLoad$Reader" 61) "java/lang/String" "value" "[B") (.int (Int32.ofNat 1))) (.int 111), Cond.eq (.elem (.field (Term.string "OneHeavyLoad$Reader" 61) "java/lang/String" "value" "[B") (.int (Int32.ofNat 2))) (.int 97), Cond.eq (.elem (.field (Term.string "OneHeavyLoad$Reader" 61) "java/lang/String" "value" "[B") (.int (Int32.ofNat 3))) (.int 100), Cond.exactly (Term.string "OneHeavyLoad$Reader" 117) "java/lang/String", Cond.eq (.field (Term.string "OneHeavyLoad$Reader" 117) "java/lang/String" "coder" "B") (.int 0), Cond.arrayOf (.field (Term.string "OneHeavyLoad$Reader" 117) "java/lang/String" "value" "[B") .byte, Cond.eq (.length (.field (Term.string "OneHeavyLoad$Reader" 117) "java/lang/String" "value" "[B")) (.int (Int32.ofNat 5)), Cond.eq (.elem (.field (Term.string "OneHeavyLoad$Reader" 117) "java/lang/String" "value" "[B") (.int (Int32.ofNat 0))) (.int 109), Cond.eq (.elem (.field (Term.string "OneHeavyLoad$Reader" 117) "java/lang/String" "value" "[B") (.int (Int32.ofNat 1))) (.int 105), Cond.eq (.elem (.field (Term.string "OneHeavyLoad$Reader" 117) "java/lang/String" "value" "[B") (.int (Int32.ofNat 2))) (.int 108), Cond.eq (.elem (.field (Term.string "OneHeavyLoad$Reader" 117) "java/lang/String" "value" "[B") (.int (Int32.ofNat 3))) (.int 101), Cond.eq (.elem (.field (Term.string "OneHeavyLoad$Reader" 117) "java/lang/String" "value" "[B") (.int (Int32.ofNat 4))) (.int 115), Cond.exactly (Term.string "OneHeavyLoad$Reader" 123) "java/lang/String", Cond.eq (.field (Term.string "OneHeavyLoad$Reader" 123) "java/lang/String" "coder" "B") (.int 0), Cond.arrayOf (.field (Term.string "OneHeavyLoad$Reader" 123) "java/lang/String" "value" "[B") .byte, Cond.eq (.length (.field (Term.string "OneHeavyLoad$Reader" 123) "java/lang/String" "value" "[B")) (.int (Int32.ofNat 4)), Cond.eq (.elem (.field (Term.string "OneHeavyLoad$Reader" 123) "java/lang/String" "value" "[B") (.int (Int32.ofNat 0))) (.int 114), Cond.eq (.elem (.field (Term.string "OneHeavyLoad$Reader" 123) "java/lang/String" "value" "[B") (.int (Int32.ofNat 1))) (.int 105), Cond.eq (.elem (.field (Term.string "OneHeavyLoad$Reader" 123) "java/lang/String" "value" "[B") (.int (Int32.ofNat 2))) (.int 115), Cond.eq (.elem (.field (Term.string "OneHeavyLoad$Reader" 123) "java/lang/String" "value" "[B") (.int (Int32.ofNat 3))) (.int 101), Cond.exactly (Term.string "OneHeavyLoad$Reader" 129) "java/lang/String", Cond.eq (.field (Term.string "OneHeavyLoad$Reader" 129) "java/lang/String" "coder" "B") (.int 0), Cond.arrayOf (.field (Term.string "OneHeavyLoad$Reader" 129) "java/lang/String" "value" "[B") .byte, Cond.eq (.length (.field (Term.string "OneHeavyLoad$Reader" 129) "java/lang/String" "value" "[B")) (.int (Int32.ofNat 4)), Cond.eq (.elem (.field (Term.string "OneHeavyLoad$Reader" 129) "java/lang/String" "value" "[B") (.int (Int32.ofNat 0))) (.int 116), Cond.eq (.elem (.field (Term.string "OneHeavyLoad$Reader" 129) "java/lang/String" "value" "[B") (.int (Int32.ofNat 1))) (.int 117), Cond.eq (.elem (.field (Term.string "OneHeavyLoad$Reader" 129) "java/lang/String" "value" "[B") (.int (Int32.ofNat 2))) (.int 114), Cond.eq (.elem (.field (Term.string "OneHeavyLoad$Reader" 129) "java/lang/String" "value" "[B") (.int (Int32.ofNat 3))) (.int 110), Cond.exactly (Term.string "OneHeavyLoad$Reader" 131) "java/lang/String", Cond.eq (.field (Term.string "OneHeavyLoad$Reader" 131) "java/lang/String" "coder" "B") (.int 0), Cond.arrayOf (.field (Term.string "OneHeavyLoad$Reader" 131) "java/lang/String" "value" "[B") .byte, Cond.eq (.length (.field (Term.string "OneHeavyLoad$Reader" 131) "java/lang/String" "value" "[B")) (.int (Int32.ofNat 6)), Cond.eq (.elem (.field (Term.string "OneHeavyLoad$Reader" 131) "java/lang/String" "value" "[B") (.int (Int32.ofNat 0))) (.int 112), Cond.eq (.elem (.field (Term.string "OneHeavyLoad$Reader" 131) "java/lang/String" "value" "[B") (.int (Int32.ofNat 1))) (.int 97), Cond.eq (.elem (.field (Term.string "OneHeavyLoad$Reader" 131) "java/lang/String" "value" "[B") (.int (Int32.ofNat 2))) (.int 114), Cond.eq (.elem (.field (Term.string "OneHeavyLoad$Reader" 131) "java/lang/String" "value" "[B") (.int (Int32.ofNat 3))) (.int 105), Cond.eq (.elem (.field (Term.string "OneHeavyLoad$Reader" 131) "java/lang/String" "value" "[B") (.int (Int32.ofNat 4))) (.int 115), Cond.eq (.elem (.field (Term.string "OneHeavyLoad$Reader" 131) "java/lang/String" "value" "[B") (.int (Int32.ofNat 5))) (.int 104), Cond.exactly (Term.string "OneHeavyLoad$Reader" 70) "java/lang/String", Cond.eq (.field (Term.string "OneHeavyLoad$Reader" 70) "java/lang/String" "coder" "B") (.int 0), Cond.arrayOf (.field (Term.string "OneHeavyLoad$Reader" 70) "java/lang/String" "value" "[B") .byte, Cond.eq (.length (.field (Term.string "OneHeavyLoad$Reader" 70) "java/lang/String" "value" "[B")) (.int (Int32.ofNat 6)), Cond.eq (.elem (.field (Term.string "OneHeavyLoad$Reader" 70) "java/lang/String" "value" "[B") (.int (Int32.ofNat 0))) (.int 98), Cond.eq (.elem (.field (Term.string "OneHeavyLoad$Reader" 70) "java/lang/String" "value" "[B") (.int (Int32.ofNat 1))) (.int 114), Cond.eq (.elem (.field (Term.string "OneHeavyLoad$Reader" 70) "java/lang/String" "value" "[B") (.int (Int32.ofNat 2))) (.int 105), Cond.eq (.elem (.field (Term.string "OneHeavyLoad$Reader" 70) "java/lang/String" "value" "[B") (.int (Int32.ofNat 3))) (.int 100), Cond.eq (.elem (.field (Term.string "OneHeavyLoad$Reader" 70) "java/lang/String" "value" "[B") (.int (Int32.ofNat 4))) (.int 103), Cond.eq (.elem (.field (Term.string "OneHeavyLoad$Reader" 70) "java/lang/String" "value" "[B") (.int (Int32.ofNat 5))) (.int 101), Cond.exactly (Term.string "OneHeavyLoad$Reader" 137) "java/lang/String", Cond.eq (.field (Term.string "OneHeavyLoad$Reader" 137) "java/lang/String" "coder" "B") (.int 0), Cond.arrayOf (.field (Term.string "OneHeavyLoad$Reader" 137) "java/lang/String" "value" "[B") .byte, Cond.eq (.length (.field (Term.string "OneHeavyLoad$Reader" 137) "java/lang/String" "value" "[B")) (.int (Int32.ofNat 4)), Cond.eq (.elem (.field (Term.string "OneHeavyLoad$Reader" 137) "java/lang/String" "value" "[B") (.int (Int32.ofNat 0))) (.int 107), Cond.eq (.elem (.field (Term.string "OneHeavyLoad$Reader" 137) "java/lang/String" "value" "[B") (.int (Int32.ofNat 1))) (.int 105), Cond.eq (.elem (.field (Term.string "OneHeavyLoad$Reader" 137) "java/lang/String" "value" "[B") (.int (Int32.ofNat 2))) (.int 110)] : List Cond), x ∈ flatC (Jvm.Cond.and given_1 narrow_1) := ph_inn (gs := [31, 0, 0, 0, 0, 0, 0, 0, 0, 0, 0, 0, 0, 0, 0, 0, 0, 0, 0, 0, 0, 0, 0, 0, 0, 0, 0, 0, 0, 0, 0, 0, 0, 0, 0, 0, 0, 0, 0, 0, 0, 0, 0, 0, 0, 0, 0, 0, 0, 0, 0, 0, 0, 0, 0, 0, 0, 0, 0, 0]) (by decide +kernel)
set_option maxRecDepth 100000 in
set_option maxHeartbeats 4000000 in
theorem lw_sc1 : ∀ x ∈ ([Cond.eq (.elem (.field (Term.string "OneHeavyLoad$Reader" 137) "java/lang/String" "value" "[B") (.int (Int32.ofNat 3))) (.int 100), Cond.exactly (Term.string "OneHeavyLoad$Reader" 139) "java/lang/String", Cond.eq (.field (Term.string "OneHeavyLoad$Reader" 139) "java/lang/String" "coder" "B") (.int 0), Cond.arrayOf (.field (Term.string "OneHeavyLoad$Reader" 139) "java/lang/String" "value" "[B") .byte, Cond.eq (.length (.field (Term.string "OneHeavyLoad$Reader" 139) "java/lang/String" "value" "[B")) (.int (Int32.ofNat 4)), Cond.eq (.elem (.field (Term.string "OneHeavyLoad$Reader" 139) "java/lang/String" "value" "[B") (.int (Int32.ofNat 0))) (.int 115), Cond.eq (.elem (.field (Term.string "OneHeavyLoad$Reader" 139) "java/lang/String" "value" "[B") (.int (Int32.ofNat 1))) (.int 112), Cond.eq (.elem (.field (Term.string "OneHeavyLoad$Reader" 139) "java/lang/String" "value" "[B") (.int (Int32.ofNat 2))) (.int 97), Cond.eq (.elem (.field (Term.string "OneHeavyLoad$Reader" 139) "java/lang/String" "value" "[B") (.int (Int32.ofNat 3))) (.int 110), Cond.exactly (Term.string "OneHeavyLoad$Reader" 141) "java/lang/String", Cond.eq (.field (Term.string "OneHeavyLoad$Reader" 141) "java/lang/String" "coder" "B") (.int 0), Cond.arrayOf (.field (Term.string "OneHeavyLoad$Reader" 141) "java/lang/String" "value" "[B") .byte, Cond.eq (.length (.field (Term.string "OneHeavyLoad$Reader" 141) "java/lang/String" "value" "[B")) (.int (Int32.ofNat 4)), Cond.eq (.elem (.field (Term.string "OneHeavyLoad$Reader" 141) "java/lang/String" "value" "[B") (.int (Int32.ofNat 0))) (.int 97), Cond.eq (.elem (.field (Term.string "OneHeavyLoad$Reader" 141) "java/lang/String" "value" "[B") (.int (Int32.ofNat 1))) (.int 120), Cond.eq (.elem (.field (Term.string "OneHeavyLoad$Reader" 141) "java/lang/String" "value" "[B") (.int (Int32.ofNat 2))) (.int 108), Cond.eq (.elem (.field (Term.string "OneHeavyLoad$Reader" 141) "java/lang/String" "value" "[B") (.int (Int32.ofNat 3))) (.int 101), Cond.exactly (Term.string "OneHeavyLoad$Reader" 143) "java/lang/String", Cond.eq (.field (Term.string "OneHeavyLoad$Reader" 143) "java/lang/String" "coder" "B") (.int 0), Cond.arrayOf (.field (Term.string "OneHeavyLoad$Reader" 143) "java/lang/String" "value" "[B") .byte, Cond.eq (.length (.field (Term.string "OneHeavyLoad$Reader" 143) "java/lang/String" "value" "[B")) (.int (Int32.ofNat 3)), Cond.eq (.elem (.field (Term.string "OneHeavyLoad$Reader" 143) "java/lang/String" "value" "[B") (.int (Int32.ofNat 0))) (.int 97), Cond.eq (.elem (.field (Term.string "OneHeavyLoad$Reader" 143) "java/lang/String" "value" "[B") (.int (Int32.ofNat 1))) (.int 108), Cond.eq (.elem (.field (Term.string "OneHeavyLoad$Reader" 143) "java/lang/String" "value" "[B") (.int (Int32.ofNat 2))) (.int 108), Cond.exactly (Term.string "OneHeavyLoad$Reader" 145) "java/lang/String", Cond.eq (.field (Term.string "OneHeavyLoad$Reader" 145) "java/lang/String" "coder" "B") (.int 0), Cond.arrayOf (.field (Term.string "OneHeavyLoad$Reader" 145) "java/lang/String" "value" "[B") .byte, Cond.eq (.length (.field (Term.string "OneHeavyLoad$Reader" 145) "java/lang/String" "value" "[B")) (.int (Int32.ofNat 4)), Cond.eq (.elem (.field (Term.string "OneHeavyLoad$Reader" 145) "java/lang/String" "value" "[B") (.int (Int32.ofNat 0))) (.int 112), Cond.eq (.elem (.field (Term.string "OneHeavyLoad$Reader" 145) "java/lang/String" "value" "[B") (.int (Int32.ofNat 1))) (.int 114), Cond.eq (.elem (.field (Term.string "OneHeavyLoad$Reader" 145) "java/lang/String" "value" "[B") (.int (Int32.ofNat 2))) (.int 111), Cond.eq (.elem (.field (Term.string "OneHeavyLoad$Reader" 145) "java/lang/String" "value" "[B") (.int (Int32.ofNat 3))) (.int 112), Cond.exactly (Term.string "OneHeavyLoad$Reader" 75) "java/lang/String", Cond.eq (.field (Term.string "OneHeavyLoad$Reader" 75) "java/lang/String" "coder" "B") (.int 0), Cond.arrayOf (.field (Term.string "OneHeavyLoad$Reader" 75) "java/lang/String" "value" "[B") .byte, Cond.eq (.length (.field (Term.string "OneHeavyLoad$Reader" 75) "java/lang/String" "value" "[B")) (.int (Int32.ofNat 6)), Cond.eq (.elem (.field (Term.string "OneHeavyLoad$Reader" 75) "java/lang/String" "value" "[B") (.int (Int32.ofNat 0))) (.int 119), Cond.eq (.elem (.field (Term.string "OneHeavyLoad$Reader" 75) "java/lang/String" "value" "[B") (.int (Int32.ofNat 1))) (.int 97), Cond.eq (.elem (.field (Term.string "OneHeavyLoad$Reader" 75) "java/lang/String" "value" "[B") (.int (Int32.ofNat 2))) (.int 103), Cond.eq (.elem (.field (Term.string "OneHeavyLoad$Reader" 75) "java/lang/String" "value" "[B") (.int (Int32.ofNat 3))) (.int 103), Cond.eq (.elem (.field (Term.string "OneHeavyLoad$Reader" 75) "java/lang/String" "value" "[B") (.int (Int32.ofNat 4))) (.int 111), Cond.eq (.elem (.field (Term.string "OneHeavyLoad$Reader" 75) "java/lang/String" "value" "[B") (.int (Int32.ofNat 5))) (.int 110), Cond.exactly (Term.string "OneHeavyLoad$Reader" 155) "java/lang/String", Cond.eq (.field (Term.string "OneHeavyLoad$Reader" 155) "java/lang/String" "coder" "B") (.int 0), Cond.arrayOf (.field (Term.string "OneHeavyLoad$Reader" 155) "java/lang/String" "value" "[B") .byte, Cond.eq (.length (.field (Term.string "OneHeavyLoad$Reader" 155) "java/lang/String" "value" "[B")) (.int (Int32.ofNat 5)), Cond.eq (.elem (.field (Term.string "OneHeavyLoad$Reader" 155) "java/lang/String" "value" "[B") (.int (Int32.ofNat 0))) (.int 115), Cond.eq (.elem (.field (Term.string "OneHeavyLoad$Reader" 155) "java/lang/String" "value" "[B") (.int (Int32.ofNat 1))) (.int 112), Cond.eq (.elem (.field (Term.string "OneHeavyLoad$Reader" 155) "java/lang/String" "value" "[B") (.int (Int32.ofNat 2))) (.int 97), Cond.eq (.elem (.field (Term.string "OneHeavyLoad$Reader" 155) "java/lang/String" "value" "[B") (.int (Int32.ofNat 3))) (.int 99), Cond.eq (.elem (.field (Term.string "OneHeavyLoad$Reader" 155) "java/lang/String" "value" "[B") (.int (Int32.ofNat 4))) (.int 101), Cond.exactly (Term.string "OneHeavyLoad$Reader" 157) "java/lang/String", Cond.eq (.field (Term.string "OneHeavyLoad$Reader" 157) "java/lang/String" "coder" "B") (.int 0), Cond.arrayOf (.field (Term.string "OneHeavyLoad$Reader" 157) "java/lang/String" "value" "[B") .byte, Cond.eq (.length (.field (Term.string "OneHeavyLoad$Reader" 157) "java/lang/String" "value" "[B")) (.int (Int32.ofNat 4)), Cond.eq (.elem (.field (Term.string "OneHeavyLoad$Reader" 157) "java/lang/String" "value" "[B") (.int (Int32.ofNat 0))) (.int 116), Cond.eq (.elem (.field (Term.string "OneHeavyLoad$Reader" 157) "java/lang/String" "value" "[B") (.int (Int32.ofNat 1))) (.int 97), Cond.eq (.elem (.field (Term.string "OneHeavyLoad$Reader" 157) "java/lang/String" "value" "[B") (.int (Int32.ofNat 2))) (.int 114), Cond.eq (.elem (.field (Term.string "OneHeavyLoad$Reader" 157) "java/lang/String" "value" "[B") (.int (Int32.ofNat 3))) (.int 101), Cond.exactly (Term.string "OneHeavyLoad$Reader" 80) "java/lang/String"] : List Cond), x ∈ flatC (Jvm.Cond.and given_1 narrow_1) := ph_inn (gs := [91, 0, 0, 0, 0, 0, 0, 0, 0, 0, 0, 0, 0, 0, 0, 0, 0, 0, 0, 0, 0, 0, 0, 0, 0, 0, 0, 0, 0, 0, 0, 0, 0, 0, 0, 0, 0, 0, 0, 0, 0, 0, 0, 0, 0, 0, 0, 0, 0, 0, 0, 0, 0, 0, 0, 0, 0, 0, 0, 0]) (by decide +kernel)
set_option maxRecDepth 100000 in
set_option maxHeartbeats 4000000 in
theorem lw_sc2 : ∀ x ∈ ([Cond.eq (.field (Term.string "OneHeavyLoad$Reader" 80) "java/lang/String" "coder" "B") (.int 0), Cond.arrayOf (.field (Term.string "OneHeavyLoad$Reader" 80) "java/lang/String" "value" "[B") .byte, Cond.eq (.length (.field (Term.string "OneHeavyLoad$Reader" 80) "java/lang/String" "value" "[B")) (.int (Int32.ofNat 4)), Cond.eq (.elem (.field (Term.string "OneHeavyLoad$Reader" 80) "java/lang/String" "value" "[B") (.int (Int32.ofNat 0))) (.int 112), Cond.eq (.elem (.field (Term.string "OneHeavyLoad$Reader" 80) "java/lang/String" "value" "[B") (.int (Int32.ofNat 1))) (.int 97), Cond.eq (.elem (.field (Term.string "OneHeavyLoad$Reader" 80) "java/lang/String" "value" "[B") (.int (Int32.ofNat 2))) (.int 114), Cond.eq (.elem (.field (Term.string "OneHeavyLoad$Reader" 80) "java/lang/String" "value" "[B") (.int (Int32.ofNat 3))) (.int 116), Cond.exactly (Term.string "OneHeavyLoad$Reader" 85) "java/lang/String", Cond.eq (.field (Term.string "OneHeavyLoad$Reader" 85) "java/lang/String" "coder" "B") (.int 0), Cond.arrayOf (.field (Term.string "OneHeavyLoad$Reader" 85) "java/lang/String" "value" "[B") .byte, Cond.eq (.length (.field (Term.string "OneHeavyLoad$Reader" 85) "java/lang/String" "value" "[B")) (.int (Int32.ofNat 4)), Cond.eq (.elem (.field (Term.string "OneHeavyLoad$Reader" 85) "java/lang/String" "value" "[B") (.int (Int32.ofNat 0))) (.int 108), Cond.eq (.elem (.field (Term.string "OneHeavyLoad$Reader" 85) "java/lang/String" "value" "[B") (.int (Int32.ofNat 1))) (.int 111), Cond.eq (.elem (.field (Term.string "OneHeavyLoad$Reader" 85) "java/lang/String" "value" "[B") (.int (Int32.ofNat 2))) (.int 97), Cond.eq (.elem (.field (Term.string "OneHeavyLoad$Reader" 85) "java/lang/String" "value" "[B") (.int (Int32.ofNat 3))) (.int 100), Cond.exactly (Term.string "OneHeavyLoad$Reader" 94) "java/lang/String", Cond.eq (.field (Term.string "OneHeavyLoad$Reader" 94) "java/lang/String" "coder" "B") (.int 0), Cond.arrayOf (.field (Term.string "OneHeavyLoad$Reader" 94) "java/lang/String" "value" "[B") .byte, Cond.eq (.length (.field (Term.string "OneHeavyLoad$Reader" 94) "java/lang/String" "value" "[B")) (.int (Int32.ofNat 4)), Cond.eq (.elem (.field (Term.string "OneHeavyLoad$Reader" 94) "java/lang/String" "value" "[B") (.int (Int32.ofNat 0))) (.int 109), Cond.eq (.elem (.field (Term.string "OneHeavyLoad$Reader" 94) "java/lang/String" "value" "[B") (.int (Int32.ofNat 1))) (.int 105), Cond.eq (.elem (.field (Term.string "OneHeavyLoad$Reader" 94) "java/lang/String" "value" "[B") (.int (Int32.ofNat 2))) (.int 108), Cond.eq (.elem (.field (Term.string "OneHeavyLoad$Reader" 94) "java/lang/String" "value" "[B") (.int (Int32.ofNat 3))) (.int 101), Cond.exactly (Term.string "OneHeavyLoadModel" 200) "java/lang/String", Cond.eq (.field (Term.string "OneHeavyLoadModel" 200) "java/lang/String" "coder" "B") (.int 0), Cond.arrayOf (.field (Term.string "OneHeavyLoadModel" 200) "java/lang/String" "value" "[B") .byte, Cond.eq (.length (.field (Term.string "OneHeavyLoadModel" 200) "java/lang/String" "value" "[B")) (.int (Int32.ofNat 4)), Cond.eq (.elem (.field (Term.string "OneHeavyLoadModel" 200) "java/lang/String" "value" "[B") (.int (Int32.ofNat 0))) (.int 114), Cond.eq (.elem (.field (Term.string "OneHeavyLoadModel" 200) "java/lang/String" "value" "[B") (.int (Int32.ofNat 1))) (.int 111), Cond.eq (.elem (.field (Term.string "OneHeavyLoadModel" 200) "java/lang/String" "value" "[B") (.int (Int32.ofNat 2))) (.int 97), Cond.eq (.elem (.field (Term.string "OneHeavyLoadModel" 200) "java/lang/String" "value" "[B") (.int (Int32.ofNat 3))) (.int 100), Cond.exactly (Term.string "OneHeavyLoadModel" 219) "java/lang/String", Cond.eq (.field (Term.string "OneHeavyLoadModel" 219) "java/lang/String" "coder" "B") (.int 0), Cond.arrayOf (.field (Term.string "OneHeavyLoadModel" 219) "java/lang/String" "value" "[B") .byte, Cond.eq (.length (.field (Term.string "OneHeavyLoadModel" 219) "java/lang/String" "value" "[B")) (.int (Int32.ofNat 5)), Cond.eq (.elem (.field (Term.string "OneHeavyLoadModel" 219) "java/lang/String" "value" "[B") (.int (Int32.ofNat 0))) (.int 109), Cond.eq (.elem (.field (Term.string "OneHeavyLoadModel" 219) "java/lang/String" "value" "[B") (.int (Int32.ofNat 1))) (.int 105), Cond.eq (.elem (.field (Term.string "OneHeavyLoadModel" 219) "java/lang/String" "value" "[B") (.int (Int32.ofNat 2))) (.int 108), Cond.eq (.elem (.field (Term.string "OneHeavyLoadModel" 219) "java/lang/String" "value" "[B") (.int (Int32.ofNat 3))) (.int 101), Cond.eq (.elem (.field (Term.string "OneHeavyLoadModel" 219) "java/lang/String" "value" "[B") (.int (Int32.ofNat 4))) (.int 115), Cond.exactly (Term.string "OneHeavyLoadModel" 221) "java/lang/String", Cond.eq (.field (Term.string "OneHeavyLoadModel" 221) "java/lang/String" "coder" "B") (.int 0), Cond.arrayOf (.field (Term.string "OneHeavyLoadModel" 221) "java/lang/String" "value" "[B") .byte, Cond.eq (.length (.field (Term.string "OneHeavyLoadModel" 221) "java/lang/String" "value" "[B")) (.int (Int32.ofNat 4)), Cond.eq (.elem (.field (Term.string "OneHeavyLoadModel" 221) "java/lang/String" "value" "[B") (.int (Int32.ofNat 0))) (.int 114), Cond.eq (.elem (.field (Term.string "OneHeavyLoadModel" 221) "java/lang/String" "value" "[B") (.int (Int32.ofNat 1))) (.int 105), Cond.eq (.elem (.field (Term.string "OneHeavyLoadModel" 221) "java/lang/String" "value" "[B") (.int (Int32.ofNat 2))) (.int 115), Cond.eq (.elem (.field (Term.string "OneHeavyLoadModel" 221) "java/lang/String" "value" "[B") (.int (Int32.ofNat 3))) (.int 101), Cond.exactly (Term.string "OneHeavyLoadModel" 226) "java/lang/String", Cond.eq (.field (Term.string "OneHeavyLoadModel" 226) "java/lang/String" "coder" "B") (.int 0), Cond.arrayOf (.field (Term.string "OneHeavyLoadModel" 226) "java/lang/String" "value" "[B") .byte, Cond.eq (.length (.field (Term.string "OneHeavyLoadModel" 226) "java/lang/String" "value" "[B")) (.int (Int32.ofNat 4)), Cond.eq (.elem (.field (Term.string "OneHeavyLoadModel" 226) "java/lang/String" "value" "[B") (.int (Int32.ofNat 0))) (.int 116), Cond.eq (.elem (.field (Term.string "OneHeavyLoadModel" 226) "java/lang/String" "value" "[B") (.int (Int32.ofNat 1))) (.int 117), Cond.eq (.elem (.field (Term.string "OneHeavyLoadModel" 226) "java/lang/String" "value" "[B") (.int (Int32.ofNat 2))) (.int 114), Cond.eq (.elem (.field (Term.string "OneHeavyLoadModel" 226) "java/lang/String" "value" "[B") (.int (Int32.ofNat 3))) (.int 110), Cond.exactly (Term.string "OneHeavyLoadModel" 228) "java/lang/String", Cond.eq (.field (Term.string "OneHeavyLoadModel" 228) "java/lang/String" "coder" "B") (.int 0), Cond.arrayOf (.field (Term.string "OneHeavyLoadModel" 228) "java/lang/String" "value" "[B") .byte, Cond.eq (.length (.field (Term.string "OneHeavyLoadModel" 228) "java/lang/String" "value" "[B")) (.int (Int32.ofNat 6))] : List Cond), x ∈ flatC (Jvm.Cond.and given_1 narrow_1) := ph_inn (gs := [151, 0, 0, 0, 0, 0, 0, 0, 0, 0, 0, 0, 0, 0, 0, 0, 0, 0, 0, 0, 0, 0, 0, 0, 0, 0, 0, 0, 0, 0, 0, 1, 0, 0, 0, 0, 0, 0, 0, 0, 1, 0, 0, 0, 0, 0, 0, 0, 1, 0, 0, 0, 0, 0, 0, 0, 1, 0, 0, 0]) (by decide +kernel)
set_option maxRecDepth 100000 in
set_option maxHeartbeats 4000000 in
theorem lw_sc3 : ∀ x ∈ ([Cond.eq (.elem (.field (Term.string "OneHeavyLoadModel" 228) "java/lang/String" "value" "[B") (.int (Int32.ofNat 0))) (.int 112), Cond.eq (.elem (.field (Term.string "OneHeavyLoadModel" 228) "java/lang/String" "value" "[B") (.int (Int32.ofNat 1))) (.int 97), Cond.eq (.elem (.field (Term.string "OneHeavyLoadModel" 228) "java/lang/String" "value" "[B") (.int (Int32.ofNat 2))) (.int 114), Cond.eq (.elem (.field (Term.string "OneHeavyLoadModel" 228) "java/lang/String" "value" "[B") (.int (Int32.ofNat 3))) (.int 105), Cond.eq (.elem (.field (Term.string "OneHeavyLoadModel" 228) "java/lang/String" "value" "[B") (.int (Int32.ofNat 4))) (.int 115), Cond.eq (.elem (.field (Term.string "OneHeavyLoadModel" 228) "java/lang/String" "value" "[B") (.int (Int32.ofNat 5))) (.int 104), Cond.exactly (Term.string "OneHeavyLoadModel" 205) "java/lang/String", Cond.eq (.field (Term.string "OneHeavyLoadModel" 205) "java/lang/String" "coder" "B") (.int 0), Cond.arrayOf (.field (Term.string "OneHeavyLoadModel" 205) "java/lang/String" "value" "[B") .byte, Cond.eq (.length (.field (Term.string "OneHeavyLoadModel" 205) "java/lang/String" "value" "[B")) (.int (Int32.ofNat 6)), Cond.eq (.elem (.field (Term.string "OneHeavyLoadModel" 205) "java/lang/String" "value" "[B") (.int (Int32.ofNat 0))) (.int 98), Cond.eq (.elem (.field (Term.string "OneHeavyLoadModel" 205) "java/lang/String" "value" "[B") (.int (Int32.ofNat 1))) (.int 114), Cond.eq (.elem (.field (Term.string "OneHeavyLoadModel" 205) "java/lang/String" "value" "[B") (.int (Int32.ofNat 2))) (.int 105), Cond.eq (.elem (.field (Term.string "OneHeavyLoadModel" 205) "java/lang/String" "value" "[B") (.int (Int32.ofNat 3))) (.int 100), Cond.eq (.elem (.field (Term.string "OneHeavyLoadModel" 205) "java/lang/String" "value" "[B") (.int (Int32.ofNat 4))) (.int 103), Cond.eq (.elem (.field (Term.string "OneHeavyLoadModel" 205) "java/lang/String" "value" "[B") (.int (Int32.ofNat 5))) (.int 101), Cond.exactly (Term.string "OneHeavyLoadModel" 230) "java/lang/String", Cond.eq (.field (Term.string "OneHeavyLoadModel" 230) "java/lang/String" "coder" "B") (.int 0), Cond.arrayOf (.field (Term.string "OneHeavyLoadModel" 230) "java/lang/String" "value" "[B") .byte, Cond.eq (.length (.field (Term.string "OneHeavyLoadModel" 230) "java/lang/String" "value" "[B")) (.int (Int32.ofNat 4)), Cond.eq (.elem (.field (Term.string "OneHeavyLoadModel" 230) "java/lang/String" "value" "[B") (.int (Int32.ofNat 0))) (.int 107), Cond.eq (.elem (.field (Term.string "OneHeavyLoadModel" 230) "java/lang/String" "value" "[B") (.int (Int32.ofNat 1))) (.int 105), Cond.eq (.elem (.field (Term.string "OneHeavyLoadModel" 230) "java/lang/String" "value" "[B") (.int (Int32.ofNat 2))) (.int 110), Cond.eq (.elem (.field (Term.string "OneHeavyLoadModel" 230) "java/lang/String" "value" "[B") (.int (Int32.ofNat 3))) (.int 100), Cond.exactly (Term.string "OneHeavyLoadModel" 232) "java/lang/String", Cond.eq (.field (Term.string "OneHeavyLoadModel" 232) "java/lang/String" "coder" "B") (.int 0), Cond.arrayOf (.field (Term.string "OneHeavyLoadModel" 232) "java/lang/String" "value" "[B") .byte, Cond.eq (.length (.field (Term.string "OneHeavyLoadModel" 232) "java/lang/String" "value" "[B")) (.int (Int32.ofNat 4)), Cond.eq (.elem (.field (Term.string "OneHeavyLoadModel" 232) "java/lang/String" "value" "[B") (.int (Int32.ofNat 0))) (.int 115), Cond.eq (.elem (.field (Term.string "OneHeavyLoadModel" 232) "java/lang/String" "value" "[B") (.int (Int32.ofNat 1))) (.int 112), Cond.eq (.elem (.field (Term.string "OneHeavyLoadModel" 232) "java/lang/String" "value" "[B") (.int (Int32.ofNat 2))) (.int 97), Cond.eq (.elem (.field (Term.string "OneHeavyLoadModel" 232) "java/lang/String" "value" "[B") (.int (Int32.ofNat 3))) (.int 110), Cond.exactly (Term.string "OneHeavyLoadModel" 234) "java/lang/String", Cond.eq (.field (Term.string "OneHeavyLoadModel" 234) "java/lang/String" "coder" "B") (.int 0), Cond.arrayOf (.field (Term.string "OneHeavyLoadModel" 234) "java/lang/String" "value" "[B") .byte, Cond.eq (.length (.field (Term.string "OneHeavyLoadModel" 234) "java/lang/String" "value" "[B")) (.int (Int32.ofNat 4)), Cond.eq (.elem (.field (Term.string "OneHeavyLoadModel" 234) "java/lang/String" "value" "[B") (.int (Int32.ofNat 0))) (.int 97), Cond.eq (.elem (.field (Term.string "OneHeavyLoadModel" 234) "java/lang/String" "value" "[B") (.int (Int32.ofNat 1))) (.int 120), Cond.eq (.elem (.field (Term.string "OneHeavyLoadModel" 234) "java/lang/String" "value" "[B") (.int (Int32.ofNat 2))) (.int 108), Cond.eq (.elem (.field (Term.string "OneHeavyLoadModel" 234) "java/lang/String" "value" "[B") (.int (Int32.ofNat 3))) (.int 101), Cond.exactly (Term.string "OneHeavyLoadModel" 236) "java/lang/String", Cond.eq (.field (Term.string "OneHeavyLoadModel" 236) "java/lang/String" "coder" "B") (.int 0), Cond.arrayOf (.field (Term.string "OneHeavyLoadModel" 236) "java/lang/String" "value" "[B") .byte, Cond.eq (.length (.field (Term.string "OneHeavyLoadModel" 236) "java/lang/String" "value" "[B")) (.int (Int32.ofNat 3)), Cond.eq (.elem (.field (Term.string "OneHeavyLoadModel" 236) "java/lang/String" "value" "[B") (.int (Int32.ofNat 0))) (.int 97), Cond.eq (.elem (.field (Term.string "OneHeavyLoadModel" 236) "java/lang/String" "value" "[B") (.int (Int32.ofNat 1))) (.int 108), Cond.eq (.elem (.field (Term.string "OneHeavyLoadModel" 236) "java/lang/String" "value" "[B") (.int (Int32.ofNat 2))) (.int 108), Cond.exactly (Term.string "OneHeavyLoadModel" 238) "java/lang/String", Cond.eq (.field (Term.string "OneHeavyLoadModel" 238) "java/lang/String" "coder" "B") (.int 0), Cond.arrayOf (.field (Term.string "OneHeavyLoadModel" 238) "java/lang/String" "value" "[B") .byte, Cond.eq (.length (.field (Term.string "OneHeavyLoadModel" 238) "java/lang/String" "value" "[B")) (.int (Int32.ofNat 4)), Cond.eq (.elem (.field (Term.string "OneHeavyLoadModel" 238) "java/lang/String" "value" "[B") (.int (Int32.ofNat 0))) (.int 112), Cond.eq (.elem (.field (Term.string "OneHeavyLoadModel" 238) "java/lang/String" "value" "[B") (.int (Int32.ofNat 1))) (.int 114), Cond.eq (.elem (.field (Term.string "OneHeavyLoadModel" 238) "java/lang/String" "value" "[B") (.int (Int32.ofNat 2))) (.int 111), Cond.eq (.elem (.field (Term.string "OneHeavyLoadModel" 238) "java/lang/String" "value" "[B") (.int (Int32.ofNat 3))) (.int 112), Cond.exactly (Term.string "OneHeavyLoadModel" 209) "java/lang/String", Cond.eq (.field (Term.string "OneHeavyLoadModel" 209) "java/lang/String" "coder" "B") (.int 0), Cond.arrayOf (.field (Term.string "OneHeavyLoadModel" 209) "java/lang/String" "value" "[B") .byte, Cond.eq (.length (.field (Term.string "OneHeavyLoadModel" 209) "java/lang/String" "value" "[B")) (.int (Int32.ofNat 6)), Cond.eq (.elem (.field (Term.string "OneHeavyLoadModel" 209) "java/lang/String" "value" "[B") (.int (Int32.ofNat 0))) (.int 119)] : List Cond), x ∈ flatC (Jvm.Cond.and given_1 narrow_1) := ph_inn (gs := [215, 0, 0, 0, 0, 0, 1, 0, 0, 0, 0, 0, 0, 0, 0, 0, 1, 0, 0, 0, 0, 0, 0, 0, 1, 0, 0, 0, 0, 0, 0, 0, 1, 0, 0, 0, 0, 0, 0, 0, 1, 0, 0, 0, 0, 0, 0, 1, 0, 0, 0, 0, 0, 0, 0, 1, 0, 0, 0, 0]) (by decide +kernel)
set_option maxRecDepth 100000 in
set_option maxHeartbeats 4000000 in
theorem lw_sc4 : ∀ x ∈ ([Cond.eq (.elem (.field (Term.string "OneHeavyLoadModel" 209) "java/lang/String" "value" "[B") (.int (Int32.ofNat 1))) (.int 97), Cond.eq (.elem (.field (Term.string "OneHeavyLoadModel" 209) "java/lang/String" "value" "[B") (.int (Int32.ofNat 2))) (.int 103), Cond.eq (.elem (.field (Term.string "OneHeavyLoadModel" 209) "java/lang/String" "value" "[B") (.int (Int32.ofNat 3))) (.int 103), Cond.eq (.elem (.field (Term.string "OneHeavyLoadModel" 209) "java/lang/String" "value" "[B") (.int (Int32.ofNat 4))) (.int 111), Cond.eq (.elem (.field (Term.string "OneHeavyLoadModel" 209) "java/lang/String" "value" "[B") (.int (Int32.ofNat 5))) (.int 110), Cond.exactly (Term.string "OneHeavyLoadModel" 210) "java/lang/String", Cond.eq (.field (Term.string "OneHeavyLoadModel" 210) "java/lang/String" "coder" "B") (.int 0), Cond.arrayOf (.field (Term.string "OneHeavyLoadModel" 210) "java/lang/String" "value" "[B") .byte, Cond.eq (.length (.field (Term.string "OneHeavyLoadModel" 210) "java/lang/String" "value" "[B")) (.int (Int32.ofNat 5)), Cond.eq (.elem (.field (Term.string "OneHeavyLoadModel" 210) "java/lang/String" "value" "[B") (.int (Int32.ofNat 0))) (.int 115), Cond.eq (.elem (.field (Term.string "OneHeavyLoadModel" 210) "java/lang/String" "value" "[B") (.int (Int32.ofNat 1))) (.int 112), Cond.eq (.elem (.field (Term.string "OneHeavyLoadModel" 210) "java/lang/String" "value" "[B") (.int (Int32.ofNat 2))) (.int 97), Cond.eq (.elem (.field (Term.string "OneHeavyLoadModel" 210) "java/lang/String" "value" "[B") (.int (Int32.ofNat 3))) (.int 99), Cond.eq (.elem (.field (Term.string "OneHeavyLoadModel" 210) "java/lang/String" "value" "[B") (.int (Int32.ofNat 4))) (.int 101), Cond.exactly (Term.string "OneHeavyLoadModel" 212) "java/lang/String", Cond.eq (.field (Term.string "OneHeavyLoadModel" 212) "java/lang/String" "coder" "B") (.int 0), Cond.arrayOf (.field (Term.string "OneHeavyLoadModel" 212) "java/lang/String" "value" "[B") .byte, Cond.eq (.length (.field (Term.string "OneHeavyLoadModel" 212) "java/lang/String" "value" "[B")) (.int (Int32.ofNat 4)), Cond.eq (.elem (.field (Term.string "OneHeavyLoadModel" 212) "java/lang/String" "value" "[B") (.int (Int32.ofNat 0))) (.int 116), Cond.eq (.elem (.field (Term.string "OneHeavyLoadModel" 212) "java/lang/String" "value" "[B") (.int (Int32.ofNat 1))) (.int 97), Cond.eq (.elem (.field (Term.string "OneHeavyLoadModel" 212) "java/lang/String" "value" "[B") (.int (Int32.ofNat 2))) (.int 114), Cond.eq (.elem (.field (Term.string "OneHeavyLoadModel" 212) "java/lang/String" "value" "[B") (.int (Int32.ofNat 3))) (.int 101), Cond.exactly (Term.string "OneHeavyLoadModel" 214) "java/lang/String", Cond.eq (.field (Term.string "OneHeavyLoadModel" 214) "java/lang/String" "coder" "B") (.int 0), Cond.arrayOf (.field (Term.string "OneHeavyLoadModel" 214) "java/lang/String" "value" "[B") .byte, Cond.eq (.length (.field (Term.string "OneHeavyLoadModel" 214) "java/lang/String" "value" "[B")) (.int (Int32.ofNat 4)), Cond.eq (.elem (.field (Term.string "OneHeavyLoadModel" 214) "java/lang/String" "value" "[B") (.int (Int32.ofNat 0))) (.int 112), Cond.eq (.elem (.field (Term.string "OneHeavyLoadModel" 214) "java/lang/String" "value" "[B") (.int (Int32.ofNat 1))) (.int 97), Cond.eq (.elem (.field (Term.string "OneHeavyLoadModel" 214) "java/lang/String" "value" "[B") (.int (Int32.ofNat 2))) (.int 114), Cond.eq (.elem (.field (Term.string "OneHeavyLoadModel" 214) "java/lang/String" "value" "[B") (.int (Int32.ofNat 3))) (.int 116), Cond.exactly (Term.string "OneHeavyLoadModel" 215) "java/lang/String", Cond.eq (.field (Term.string "OneHeavyLoadModel" 215) "java/lang/String" "coder" "B") (.int 0), Cond.arrayOf (.field (Term.string "OneHeavyLoadModel" 215) "java/lang/String" "value" "[B") .byte, Cond.eq (.length (.field (Term.string "OneHeavyLoadModel" 215) "java/lang/String" "value" "[B")) (.int (Int32.ofNat 4)), Cond.eq (.elem (.field (Term.string "OneHeavyLoadModel" 215) "java/lang/String" "value" "[B") (.int (Int32.ofNat 0))) (.int 108), Cond.eq (.elem (.field (Term.string "OneHeavyLoadModel" 215) "java/lang/String" "value" "[B") (.int (Int32.ofNat 1))) (.int 111), Cond.eq (.elem (.field (Term.string "OneHeavyLoadModel" 215) "java/lang/String" "value" "[B") (.int (Int32.ofNat 2))) (.int 97), Cond.eq (.elem (.field (Term.string "OneHeavyLoadModel" 215) "java/lang/String" "value" "[B") (.int (Int32.ofNat 3))) (.int 100), Cond.exactly (Term.string "OneHeavyLoadModel" 217) "java/lang/String", Cond.eq (.field (Term.string "OneHeavyLoadModel" 217) "java/lang/String" "coder" "B") (.int 0), Cond.arrayOf (.field (Term.string "OneHeavyLoadModel" 217) "java/lang/String" "value" "[B") .byte, Cond.eq (.length (.field (Term.string "OneHeavyLoadModel" 217) "java/lang/String" "value" "[B")) (.int (Int32.ofNat 4)), Cond.eq (.elem (.field (Term.string "OneHeavyLoadModel" 217) "java/lang/String" "value" "[B") (.int (Int32.ofNat 0))) (.int 109), Cond.eq (.elem (.field (Term.string "OneHeavyLoadModel" 217) "java/lang/String" "value" "[B") (.int (Int32.ofNat 1))) (.int 105), Cond.eq (.elem (.field (Term.string "OneHeavyLoadModel" 217) "java/lang/String" "value" "[B") (.int (Int32.ofNat 2))) (.int 108), Cond.eq (.elem (.field (Term.string "OneHeavyLoadModel" 217) "java/lang/String" "value" "[B") (.int (Int32.ofNat 3))) (.int 101)] : List Cond), x ∈ flatC (Jvm.Cond.and given_1 narrow_1) := ph_inn (gs := [282, 0, 0, 0, 0, 1, 0, 0, 0, 0, 0, 0, 0, 0, 1, 0, 0, 0, 0, 0, 0, 0, 1, 0, 0, 0, 0, 0, 0, 0, 1, 0, 0, 0, 0, 0, 0, 0, 1, 0, 0, 0, 0, 0, 0, 0]) (by decide +kernel)
set_option maxHeartbeats 4000000 in
set_option maxRecDepth 100000 in
theorem lw_st0 {s : State} {b : Nat} (hs : ∀ x ∈ flatC (Jvm.Cond.and given_1 narrow_1), x.before #[Value.ref b] s = true) (hnA : ∀ a : Nat, a < s.heap.size → ¬ (fun q : Nat => s.heap.size ≤ q) a) : ∃ K V : Nat, (va_O "java/lang/String" K (fun q => s.heap.size ≤ q) s s.heap ∧ va_OF "java/lang/String" "coder" "B" (.int 0) K (fun q => s.heap.size ≤ q) s s.heap ∧ va_OF "java/lang/String" "value" "[B" (.ref V) K (fun q => s.heap.size ≤ q) s s.heap ∧ va_T .byte V (oh_len 0) (fun i => .int (oh_byt 0 i)) (fun q => s.heap.size ≤ q) s s.heap) ∧ (Term.string "OneHeavyLoad$Reader" 61).eval #[Value.ref b] s none [] s = some (.ref K) := by
  have a1 : ∀ i : Nat, i < 1 → ([4] : List Nat).getD i 0 < 2 ^ 31 := by
    intro i hi
    obtain rfl : i = 0 := by omega
    decide
  have a2 : ∀ i : Nat, i < 1 → (Cond.eq (.length (.field (.string "OneHeavyLoad$Reader" 61) "java/lang/String" "value" "[B")) (.int (Int32.ofNat (([4] : List Nat).getD i 0)))).before #[Value.ref b] s = true := by
    intro i hi
    obtain rfl : i = 0 := by omega
    exact hs _ (lw_sc0 _ (List.mem_of_getElem? (i := 3) rfl))
  have a3 : ∀ i : Nat, i < 1 → ∀ j : Nat, j < ([4] : List Nat).getD i 0 → (Cond.eq (.elem (.field (.string "OneHeavyLoad$Reader" 61) "java/lang/String" "value" "[B") (.int (Int32.ofNat j))) (.int (([[114, 111, 97, 100]] : List (List Int32)).getD i [] |>.getD j 0))).before #[Value.ref b] s = true := by
    intro i hi j hj
    obtain rfl : i = 0 := by omega
    have hj : j < 4 := hj
    rcases (show j = 0 ∨ j = 1 ∨ j = 2 ∨ j = 3 by omega) with rfl | rfl | rfl | rfl
    · exact hs _ (lw_sc0 _ (List.mem_of_getElem? (i := 4) rfl))
    · exact hs _ (lw_sc0 _ (List.mem_of_getElem? (i := 5) rfl))
    · exact hs _ (lw_sc0 _ (List.mem_of_getElem? (i := 6) rfl))
    · exact hs _ (lw_sc0 _ (List.mem_of_getElem? (i := 7) rfl))
  obtain ⟨K, V, S, u⟩ := vk_Sof (args := #[Value.ref b]) (s := s) (N := 1) (tm := fun _ => (Term.string "OneHeavyLoad$Reader" 61)) (len := [4]) (byt := [[114, 111, 97, 100]]) (A := fun q => s.heap.size ≤ q) a1 (fun i hi => hs _ (lw_sc0 _ (List.mem_of_getElem? (i := 0) rfl))) (fun i hi => hs _ (lw_sc0 _ (List.mem_of_getElem? (i := 1) rfl))) (fun i hi => hs _ (lw_sc0 _ (List.mem_of_getElem? (i := 2) rfl))) a2 a3 (fun i j hi hj hne => absurd (show i = j by omega) hne) hnA
  exact ⟨K 0, V 0, S.1 0 (by decide), u 0 (by decide)⟩
set_option maxHeartbeats 4000000 in
set_option maxRecDepth 100000 in
theorem lw_st1 {s : State} {b : Nat} (hs : ∀ x ∈ flatC (Jvm.Cond.and given_1 narrow_1), x.before #[Value.ref b] s = true) (hnA : ∀ a : Nat, a < s.heap.size → ¬ (fun q : Nat => s.heap.size ≤ q) a) : ∃ K V : Nat, (va_O "java/lang/String" K (fun q => s.heap.size ≤ q) s s.heap ∧ va_OF "java/lang/String" "coder" "B" (.int 0) K (fun q => s.heap.size ≤ q) s s.heap ∧ va_OF "java/lang/String" "value" "[B" (.ref V) K (fun q => s.heap.size ≤ q) s s.heap ∧ va_T .byte V (oh_len 1) (fun i => .int (oh_byt 1 i)) (fun q => s.heap.size ≤ q) s s.heap) ∧ (Term.string "OneHeavyLoad$Reader" 117).eval #[Value.ref b] s none [] s = some (.ref K) := by
  have a1 : ∀ i : Nat, i < 1 → ([5] : List Nat).getD i 0 < 2 ^ 31 := by
    intro i hi
    obtain rfl : i = 0 := by omega
    decide
  have a2 : ∀ i : Nat, i < 1 → (Cond.eq (.length (.field (.string "OneHeavyLoad$Reader" 117) "java/lang/String" "value" "[B")) (.int (Int32.ofNat (([5] : List Nat).getD i 0)))).before #[Value.ref b] s = true := by
    intro i hi
    obtain rfl : i = 0 := by omega
    exact hs _ (lw_sc0 _ (List.mem_of_getElem? (i := 11) rfl))
  have a3 : ∀ i : Nat, i < 1 → ∀ j : Nat, j < ([5] : List Nat).getD i 0 → (Cond.eq (.elem (.field (.string "OneHeavyLoad$Reader" 117) "java/lang/String" "value" "[B") (.int (Int32.ofNat j))) (.int (([[109, 105, 108, 101, 115]] : List (List Int32)).getD i [] |>.getD j 0))).before #[Value.ref b] s = true := by
    intro i hi j hj
    obtain rfl : i = 0 := by omega
    have hj : j < 5 := hj
    rcases (show j = 0 ∨ j = 1 ∨ j = 2 ∨ j = 3 ∨ j = 4 by omega) with rfl | rfl | rfl | rfl | rfl
    · exact hs _ (lw_sc0 _ (List.mem_of_getElem? (i := 12) rfl))
    · exact hs _ (lw_sc0 _ (List.mem_of_getElem? (i := 13) rfl))
    · exact hs _ (lw_sc0 _ (List.mem_of_getElem? (i := 14) rfl))
    · exact hs _ (lw_sc0 _ (List.mem_of_getElem? (i := 15) rfl))
    · exact hs _ (lw_sc0 _ (List.mem_of_getElem? (i := 16) rfl))
  obtain ⟨K, V, S, u⟩ := vk_Sof (args := #[Value.ref b]) (s := s) (N := 1) (tm := fun _ => (Term.string "OneHeavyLoad$Reader" 117)) (len := [5]) (byt := [[109, 105, 108, 101, 115]]) (A := fun q => s.heap.size ≤ q) a1 (fun i hi => hs _ (lw_sc0 _ (List.mem_of_getElem? (i := 8) rfl))) (fun i hi => hs _ (lw_sc0 _ (List.mem_of_getElem? (i := 9) rfl))) (fun i hi => hs _ (lw_sc0 _ (List.mem_of_getElem? (i := 10) rfl))) a2 a3 (fun i j hi hj hne => absurd (show i = j by omega) hne) hnA
  exact ⟨K 0, V 0, S.1 0 (by decide), u 0 (by decide)⟩
set_option maxHeartbeats 4000000 in
set_option maxRecDepth 100000 in
theorem lw_st2 {s : State} {b : Nat} (hs : ∀ x ∈ flatC (Jvm.Cond.and given_1 narrow_1), x.before #[Value.ref b] s = true) (hnA : ∀ a : Nat, a < s.heap.size → ¬ (fun q : Nat => s.heap.size ≤ q) a) : ∃ K V : Nat, (va_O "java/lang/String" K (fun q => s.heap.size ≤ q) s s.heap ∧ va_OF "java/lang/String" "coder" "B" (.int 0) K (fun q => s.heap.size ≤ q) s s.heap ∧ va_OF "java/lang/String" "value" "[B" (.ref V) K (fun q => s.heap.size ≤ q) s s.heap ∧ va_T .byte V (oh_len 2) (fun i => .int (oh_byt 2 i)) (fun q => s.heap.size ≤ q) s s.heap) ∧ (Term.string "OneHeavyLoad$Reader" 123).eval #[Value.ref b] s none [] s = some (.ref K) := by
  have a1 : ∀ i : Nat, i < 1 → ([4] : List Nat).getD i 0 < 2 ^ 31 := by
    intro i hi
    obtain rfl : i = 0 := by omega
    decide
  have a2 : ∀ i : Nat, i < 1 → (Cond.eq (.length (.field (.string "OneHeavyLoad$Reader" 123) "java/lang/String" "value" "[B")) (.int (Int32.ofNat (([4] : List Nat).getD i 0)))).before #[Value.ref b] s = true := by
    intro i hi
    obtain rfl : i = 0 := by omega
    exact hs _ (lw_sc0 _ (List.mem_of_getElem? (i := 20) rfl))
  have a3 : ∀ i : Nat, i < 1 → ∀ j : Nat, j < ([4] : List Nat).getD i 0 → (Cond.eq (.elem (.field (.string "OneHeavyLoad$Reader" 123) "java/lang/String" "value" "[B") (.int (Int32.ofNat j))) (.int (([[114, 105, 115, 101]] : List (List Int32)).getD i [] |>.getD j 0))).before #[Value.ref b] s = true := by
    intro i hi j hj
    obtain rfl : i = 0 := by omega
    have hj : j < 4 := hj
    rcases (show j = 0 ∨ j = 1 ∨ j = 2 ∨ j = 3 by omega) with rfl | rfl | rfl | rfl
    · exact hs _ (lw_sc0 _ (List.mem_of_getElem? (i := 21) rfl))
    · exact hs _ (lw_sc0 _ (List.mem_of_getElem? (i := 22) rfl))
    · exact hs _ (lw_sc0 _ (List.mem_of_getElem? (i := 23) rfl))
    · exact hs _ (lw_sc0 _ (List.mem_of_getElem? (i := 24) rfl))
  obtain ⟨K, V, S, u⟩ := vk_Sof (args := #[Value.ref b]) (s := s) (N := 1) (tm := fun _ => (Term.string "OneHeavyLoad$Reader" 123)) (len := [4]) (byt := [[114, 105, 115, 101]]) (A := fun q => s.heap.size ≤ q) a1 (fun i hi => hs _ (lw_sc0 _ (List.mem_of_getElem? (i := 17) rfl))) (fun i hi => hs _ (lw_sc0 _ (List.mem_of_getElem? (i := 18) rfl))) (fun i hi => hs _ (lw_sc0 _ (List.mem_of_getElem? (i := 19) rfl))) a2 a3 (fun i j hi hj hne => absurd (show i = j by omega) hne) hnA
  exact ⟨K 0, V 0, S.1 0 (by decide), u 0 (by decide)⟩
set_option maxHeartbeats 4000000 in
set_option maxRecDepth 100000 in
theorem lw_st3 {s : State} {b : Nat} (hs : ∀ x ∈ flatC (Jvm.Cond.and given_1 narrow_1), x.before #[Value.ref b] s = true) (hnA : ∀ a : Nat, a < s.heap.size → ¬ (fun q : Nat => s.heap.size ≤ q) a) : ∃ K V : Nat, (va_O "java/lang/String" K (fun q => s.heap.size ≤ q) s s.heap ∧ va_OF "java/lang/String" "coder" "B" (.int 0) K (fun q => s.heap.size ≤ q) s s.heap ∧ va_OF "java/lang/String" "value" "[B" (.ref V) K (fun q => s.heap.size ≤ q) s s.heap ∧ va_T .byte V (oh_len 3) (fun i => .int (oh_byt 3 i)) (fun q => s.heap.size ≤ q) s s.heap) ∧ (Term.string "OneHeavyLoad$Reader" 129).eval #[Value.ref b] s none [] s = some (.ref K) := by
  have a1 : ∀ i : Nat, i < 1 → ([4] : List Nat).getD i 0 < 2 ^ 31 := by
    intro i hi
    obtain rfl : i = 0 := by omega
    decide
  have a2 : ∀ i : Nat, i < 1 → (Cond.eq (.length (.field (.string "OneHeavyLoad$Reader" 129) "java/lang/String" "value" "[B")) (.int (Int32.ofNat (([4] : List Nat).getD i 0)))).before #[Value.ref b] s = true := by
    intro i hi
    obtain rfl : i = 0 := by omega
    exact hs _ (lw_sc0 _ (List.mem_of_getElem? (i := 28) rfl))
  have a3 : ∀ i : Nat, i < 1 → ∀ j : Nat, j < ([4] : List Nat).getD i 0 → (Cond.eq (.elem (.field (.string "OneHeavyLoad$Reader" 129) "java/lang/String" "value" "[B") (.int (Int32.ofNat j))) (.int (([[116, 117, 114, 110]] : List (List Int32)).getD i [] |>.getD j 0))).before #[Value.ref b] s = true := by
    intro i hi j hj
    obtain rfl : i = 0 := by omega
    have hj : j < 4 := hj
    rcases (show j = 0 ∨ j = 1 ∨ j = 2 ∨ j = 3 by omega) with rfl | rfl | rfl | rfl
    · exact hs _ (lw_sc0 _ (List.mem_of_getElem? (i := 29) rfl))
    · exact hs _ (lw_sc0 _ (List.mem_of_getElem? (i := 30) rfl))
    · exact hs _ (lw_sc0 _ (List.mem_of_getElem? (i := 31) rfl))
    · exact hs _ (lw_sc0 _ (List.mem_of_getElem? (i := 32) rfl))
  obtain ⟨K, V, S, u⟩ := vk_Sof (args := #[Value.ref b]) (s := s) (N := 1) (tm := fun _ => (Term.string "OneHeavyLoad$Reader" 129)) (len := [4]) (byt := [[116, 117, 114, 110]]) (A := fun q => s.heap.size ≤ q) a1 (fun i hi => hs _ (lw_sc0 _ (List.mem_of_getElem? (i := 25) rfl))) (fun i hi => hs _ (lw_sc0 _ (List.mem_of_getElem? (i := 26) rfl))) (fun i hi => hs _ (lw_sc0 _ (List.mem_of_getElem? (i := 27) rfl))) a2 a3 (fun i j hi hj hne => absurd (show i = j by omega) hne) hnA
  exact ⟨K 0, V 0, S.1 0 (by decide), u 0 (by decide)⟩
set_option maxHeartbeats 4000000 in
set_option maxRecDepth 100000 in
theorem lw_st4 {s : State} {b : Nat} (hs : ∀ x ∈ flatC (Jvm.Cond.and given_1 narrow_1), x.before #[Value.ref b] s = true) (hnA : ∀ a : Nat, a < s.heap.size → ¬ (fun q : Nat => s.heap.size ≤ q) a) : ∃ K V : Nat, (va_O "java/lang/String" K (fun q => s.heap.size ≤ q) s s.heap ∧ va_OF "java/lang/String" "coder" "B" (.int 0) K (fun q => s.heap.size ≤ q) s s.heap ∧ va_OF "java/lang/String" "value" "[B" (.ref V) K (fun q => s.heap.size ≤ q) s s.heap ∧ va_T .byte V (oh_len 4) (fun i => .int (oh_byt 4 i)) (fun q => s.heap.size ≤ q) s s.heap) ∧ (Term.string "OneHeavyLoad$Reader" 131).eval #[Value.ref b] s none [] s = some (.ref K) := by
  have a1 : ∀ i : Nat, i < 1 → ([6] : List Nat).getD i 0 < 2 ^ 31 := by
    intro i hi
    obtain rfl : i = 0 := by omega
    decide
  have a2 : ∀ i : Nat, i < 1 → (Cond.eq (.length (.field (.string "OneHeavyLoad$Reader" 131) "java/lang/String" "value" "[B")) (.int (Int32.ofNat (([6] : List Nat).getD i 0)))).before #[Value.ref b] s = true := by
    intro i hi
    obtain rfl : i = 0 := by omega
    exact hs _ (lw_sc0 _ (List.mem_of_getElem? (i := 36) rfl))
  have a3 : ∀ i : Nat, i < 1 → ∀ j : Nat, j < ([6] : List Nat).getD i 0 → (Cond.eq (.elem (.field (.string "OneHeavyLoad$Reader" 131) "java/lang/String" "value" "[B") (.int (Int32.ofNat j))) (.int (([[112, 97, 114, 105, 115, 104]] : List (List Int32)).getD i [] |>.getD j 0))).before #[Value.ref b] s = true := by
    intro i hi j hj
    obtain rfl : i = 0 := by omega
    have hj : j < 6 := hj
    rcases (show j = 0 ∨ j = 1 ∨ j = 2 ∨ j = 3 ∨ j = 4 ∨ j = 5 by omega) with rfl | rfl | rfl | rfl | rfl | rfl
    · exact hs _ (lw_sc0 _ (List.mem_of_getElem? (i := 37) rfl))
    · exact hs _ (lw_sc0 _ (List.mem_of_getElem? (i := 38) rfl))
    · exact hs _ (lw_sc0 _ (List.mem_of_getElem? (i := 39) rfl))
    · exact hs _ (lw_sc0 _ (List.mem_of_getElem? (i := 40) rfl))
    · exact hs _ (lw_sc0 _ (List.mem_of_getElem? (i := 41) rfl))
    · exact hs _ (lw_sc0 _ (List.mem_of_getElem? (i := 42) rfl))
  obtain ⟨K, V, S, u⟩ := vk_Sof (args := #[Value.ref b]) (s := s) (N := 1) (tm := fun _ => (Term.string "OneHeavyLoad$Reader" 131)) (len := [6]) (byt := [[112, 97, 114, 105, 115, 104]]) (A := fun q => s.heap.size ≤ q) a1 (fun i hi => hs _ (lw_sc0 _ (List.mem_of_getElem? (i := 33) rfl))) (fun i hi => hs _ (lw_sc0 _ (List.mem_of_getElem? (i := 34) rfl))) (fun i hi => hs _ (lw_sc0 _ (List.mem_of_getElem? (i := 35) rfl))) a2 a3 (fun i j hi hj hne => absurd (show i = j by omega) hne) hnA
  exact ⟨K 0, V 0, S.1 0 (by decide), u 0 (by decide)⟩
set_option maxHeartbeats 4000000 in
set_option maxRecDepth 100000 in
theorem lw_st5 {s : State} {b : Nat} (hs : ∀ x ∈ flatC (Jvm.Cond.and given_1 narrow_1), x.before #[Value.ref b] s = true) (hnA : ∀ a : Nat, a < s.heap.size → ¬ (fun q : Nat => s.heap.size ≤ q) a) : ∃ K V : Nat, (va_O "java/lang/String" K (fun q => s.heap.size ≤ q) s s.heap ∧ va_OF "java/lang/String" "coder" "B" (.int 0) K (fun q => s.heap.size ≤ q) s s.heap ∧ va_OF "java/lang/String" "value" "[B" (.ref V) K (fun q => s.heap.size ≤ q) s s.heap ∧ va_T .byte V (oh_len 5) (fun i => .int (oh_byt 5 i)) (fun q => s.heap.size ≤ q) s s.heap) ∧ (Term.string "OneHeavyLoad$Reader" 70).eval #[Value.ref b] s none [] s = some (.ref K) := by
  have a1 : ∀ i : Nat, i < 1 → ([6] : List Nat).getD i 0 < 2 ^ 31 := by
    intro i hi
    obtain rfl : i = 0 := by omega
    decide
  have a2 : ∀ i : Nat, i < 1 → (Cond.eq (.length (.field (.string "OneHeavyLoad$Reader" 70) "java/lang/String" "value" "[B")) (.int (Int32.ofNat (([6] : List Nat).getD i 0)))).before #[Value.ref b] s = true := by
    intro i hi
    obtain rfl : i = 0 := by omega
    exact hs _ (lw_sc0 _ (List.mem_of_getElem? (i := 46) rfl))
  have a3 : ∀ i : Nat, i < 1 → ∀ j : Nat, j < ([6] : List Nat).getD i 0 → (Cond.eq (.elem (.field (.string "OneHeavyLoad$Reader" 70) "java/lang/String" "value" "[B") (.int (Int32.ofNat j))) (.int (([[98, 114, 105, 100, 103, 101]] : List (List Int32)).getD i [] |>.getD j 0))).before #[Value.ref b] s = true := by
    intro i hi j hj
    obtain rfl : i = 0 := by omega
    have hj : j < 6 := hj
    rcases (show j = 0 ∨ j = 1 ∨ j = 2 ∨ j = 3 ∨ j = 4 ∨ j = 5 by omega) with rfl | rfl | rfl | rfl | rfl | rfl
    · exact hs _ (lw_sc0 _ (List.mem_of_getElem? (i := 47) rfl))
    · exact hs _ (lw_sc0 _ (List.mem_of_getElem? (i := 48) rfl))
    · exact hs _ (lw_sc0 _ (List.mem_of_getElem? (i := 49) rfl))
    · exact hs _ (lw_sc0 _ (List.mem_of_getElem? (i := 50) rfl))
    · exact hs _ (lw_sc0 _ (List.mem_of_getElem? (i := 51) rfl))
    · exact hs _ (lw_sc0 _ (List.mem_of_getElem? (i := 52) rfl))
  obtain ⟨K, V, S, u⟩ := vk_Sof (args := #[Value.ref b]) (s := s) (N := 1) (tm := fun _ => (Term.string "OneHeavyLoad$Reader" 70)) (len := [6]) (byt := [[98, 114, 105, 100, 103, 101]]) (A := fun q => s.heap.size ≤ q) a1 (fun i hi => hs _ (lw_sc0 _ (List.mem_of_getElem? (i := 43) rfl))) (fun i hi => hs _ (lw_sc0 _ (List.mem_of_getElem? (i := 44) rfl))) (fun i hi => hs _ (lw_sc0 _ (List.mem_of_getElem? (i := 45) rfl))) a2 a3 (fun i j hi hj hne => absurd (show i = j by omega) hne) hnA
  exact ⟨K 0, V 0, S.1 0 (by decide), u 0 (by decide)⟩
set_option maxHeartbeats 4000000 in
set_option maxRecDepth 100000 in
theorem lw_st6 {s : State} {b : Nat} (hs : ∀ x ∈ flatC (Jvm.Cond.and given_1 narrow_1), x.before #[Value.ref b] s = true) (hnA : ∀ a : Nat, a < s.heap.size → ¬ (fun q : Nat => s.heap.size ≤ q) a) : ∃ K V : Nat, (va_O "java/lang/String" K (fun q => s.heap.size ≤ q) s s.heap ∧ va_OF "java/lang/String" "coder" "B" (.int 0) K (fun q => s.heap.size ≤ q) s s.heap ∧ va_OF "java/lang/String" "value" "[B" (.ref V) K (fun q => s.heap.size ≤ q) s s.heap ∧ va_T .byte V (oh_len 6) (fun i => .int (oh_byt 6 i)) (fun q => s.heap.size ≤ q) s s.heap) ∧ (Term.string "OneHeavyLoad$Reader" 137).eval #[Value.ref b] s none [] s = some (.ref K) := by
  have a1 : ∀ i : Nat, i < 1 → ([4] : List Nat).getD i 0 < 2 ^ 31 := by
    intro i hi
    obtain rfl : i = 0 := by omega
    decide
  have a2 : ∀ i : Nat, i < 1 → (Cond.eq (.length (.field (.string "OneHeavyLoad$Reader" 137) "java/lang/String" "value" "[B")) (.int (Int32.ofNat (([4] : List Nat).getD i 0)))).before #[Value.ref b] s = true := by
    intro i hi
    obtain rfl : i = 0 := by omega
    exact hs _ (lw_sc0 _ (List.mem_of_getElem? (i := 56) rfl))
  have a3 : ∀ i : Nat, i < 1 → ∀ j : Nat, j < ([4] : List Nat).getD i 0 → (Cond.eq (.elem (.field (.string "OneHeavyLoad$Reader" 137) "java/lang/String" "value" "[B") (.int (Int32.ofNat j))) (.int (([[107, 105, 110, 100]] : List (List Int32)).getD i [] |>.getD j 0))).before #[Value.ref b] s = true := by
    intro i hi j hj
    obtain rfl : i = 0 := by omega
    have hj : j < 4 := hj
    rcases (show j = 0 ∨ j = 1 ∨ j = 2 ∨ j = 3 by omega) with rfl | rfl | rfl | rfl
    · exact hs _ (lw_sc0 _ (List.mem_of_getElem? (i := 57) rfl))
    · exact hs _ (lw_sc0 _ (List.mem_of_getElem? (i := 58) rfl))
    · exact hs _ (lw_sc0 _ (List.mem_of_getElem? (i := 59) rfl))
    · exact hs _ (lw_sc1 _ (List.mem_of_getElem? (i := 0) rfl))
  obtain ⟨K, V, S, u⟩ := vk_Sof (args := #[Value.ref b]) (s := s) (N := 1) (tm := fun _ => (Term.string "OneHeavyLoad$Reader" 137)) (len := [4]) (byt := [[107, 105, 110, 100]]) (A := fun q => s.heap.size ≤ q) a1 (fun i hi => hs _ (lw_sc0 _ (List.mem_of_getElem? (i := 53) rfl))) (fun i hi => hs _ (lw_sc0 _ (List.mem_of_getElem? (i := 54) rfl))) (fun i hi => hs _ (lw_sc0 _ (List.mem_of_getElem? (i := 55) rfl))) a2 a3 (fun i j hi hj hne => absurd (show i = j by omega) hne) hnA
  exact ⟨K 0, V 0, S.1 0 (by decide), u 0 (by decide)⟩
set_option maxHeartbeats 4000000 in
set_option maxRecDepth 100000 in
theorem lw_st7 {s : State} {b : Nat} (hs : ∀ x ∈ flatC (Jvm.Cond.and given_1 narrow_1), x.before #[Value.ref b] s = true) (hnA : ∀ a : Nat, a < s.heap.size → ¬ (fun q : Nat => s.heap.size ≤ q) a) : ∃ K V : Nat, (va_O "java/lang/String" K (fun q => s.heap.size ≤ q) s s.heap ∧ va_OF "java/lang/String" "coder" "B" (.int 0) K (fun q => s.heap.size ≤ q) s s.heap ∧ va_OF "java/lang/String" "value" "[B" (.ref V) K (fun q => s.heap.size ≤ q) s s.heap ∧ va_T .byte V (oh_len 7) (fun i => .int (oh_byt 7 i)) (fun q => s.heap.size ≤ q) s s.heap) ∧ (Term.string "OneHeavyLoad$Reader" 139).eval #[Value.ref b] s none [] s = some (.ref K) := by
  have a1 : ∀ i : Nat, i < 1 → ([4] : List Nat).getD i 0 < 2 ^ 31 := by
    intro i hi
    obtain rfl : i = 0 := by omega
    decide
  have a2 : ∀ i : Nat, i < 1 → (Cond.eq (.length (.field (.string "OneHeavyLoad$Reader" 139) "java/lang/String" "value" "[B")) (.int (Int32.ofNat (([4] : List Nat).getD i 0)))).before #[Value.ref b] s = true := by
    intro i hi
    obtain rfl : i = 0 := by omega
    exact hs _ (lw_sc1 _ (List.mem_of_getElem? (i := 4) rfl))
  have a3 : ∀ i : Nat, i < 1 → ∀ j : Nat, j < ([4] : List Nat).getD i 0 → (Cond.eq (.elem (.field (.string "OneHeavyLoad$Reader" 139) "java/lang/String" "value" "[B") (.int (Int32.ofNat j))) (.int (([[115, 112, 97, 110]] : List (List Int32)).getD i [] |>.getD j 0))).before #[Value.ref b] s = true := by
    intro i hi j hj
    obtain rfl : i = 0 := by omega
    have hj : j < 4 := hj
    rcases (show j = 0 ∨ j = 1 ∨ j = 2 ∨ j = 3 by omega) with rfl | rfl | rfl | rfl
    · exact hs _ (lw_sc1 _ (List.mem_of_getElem? (i := 5) rfl))
    · exact hs _ (lw_sc1 _ (List.mem_of_getElem? (i := 6) rfl))
    · exact hs _ (lw_sc1 _ (List.mem_of_getElem? (i := 7) rfl))
    · exact hs _ (lw_sc1 _ (List.mem_of_getElem? (i := 8) rfl))
  obtain ⟨K, V, S, u⟩ := vk_Sof (args := #[Value.ref b]) (s := s) (N := 1) (tm := fun _ => (Term.string "OneHeavyLoad$Reader" 139)) (len := [4]) (byt := [[115, 112, 97, 110]]) (A := fun q => s.heap.size ≤ q) a1 (fun i hi => hs _ (lw_sc1 _ (List.mem_of_getElem? (i := 1) rfl))) (fun i hi => hs _ (lw_sc1 _ (List.mem_of_getElem? (i := 2) rfl))) (fun i hi => hs _ (lw_sc1 _ (List.mem_of_getElem? (i := 3) rfl))) a2 a3 (fun i j hi hj hne => absurd (show i = j by omega) hne) hnA
  exact ⟨K 0, V 0, S.1 0 (by decide), u 0 (by decide)⟩
set_option maxHeartbeats 4000000 in
set_option maxRecDepth 100000 in
theorem lw_st8 {s : State} {b : Nat} (hs : ∀ x ∈ flatC (Jvm.Cond.and given_1 narrow_1), x.before #[Value.ref b] s = true) (hnA : ∀ a : Nat, a < s.heap.size → ¬ (fun q : Nat => s.heap.size ≤ q) a) : ∃ K V : Nat, (va_O "java/lang/String" K (fun q => s.heap.size ≤ q) s s.heap ∧ va_OF "java/lang/String" "coder" "B" (.int 0) K (fun q => s.heap.size ≤ q) s s.heap ∧ va_OF "java/lang/String" "value" "[B" (.ref V) K (fun q => s.heap.size ≤ q) s s.heap ∧ va_T .byte V (oh_len 8) (fun i => .int (oh_byt 8 i)) (fun q => s.heap.size ≤ q) s s.heap) ∧ (Term.string "OneHeavyLoad$Reader" 141).eval #[Value.ref b] s none [] s = some (.ref K) := by
  have a1 : ∀ i : Nat, i < 1 → ([4] : List Nat).getD i 0 < 2 ^ 31 := by
    intro i hi
    obtain rfl : i = 0 := by omega
    decide
  have a2 : ∀ i : Nat, i < 1 → (Cond.eq (.length (.field (.string "OneHeavyLoad$Reader" 141) "java/lang/String" "value" "[B")) (.int (Int32.ofNat (([4] : List Nat).getD i 0)))).before #[Value.ref b] s = true := by
    intro i hi
    obtain rfl : i = 0 := by omega
    exact hs _ (lw_sc1 _ (List.mem_of_getElem? (i := 12) rfl))
  have a3 : ∀ i : Nat, i < 1 → ∀ j : Nat, j < ([4] : List Nat).getD i 0 → (Cond.eq (.elem (.field (.string "OneHeavyLoad$Reader" 141) "java/lang/String" "value" "[B") (.int (Int32.ofNat j))) (.int (([[97, 120, 108, 101]] : List (List Int32)).getD i [] |>.getD j 0))).before #[Value.ref b] s = true := by
    intro i hi j hj
    obtain rfl : i = 0 := by omega
    have hj : j < 4 := hj
    rcases (show j = 0 ∨ j = 1 ∨ j = 2 ∨ j = 3 by omega) with rfl | rfl | rfl | rfl
    · exact hs _ (lw_sc1 _ (List.mem_of_getElem? (i := 13) rfl))
    · exact hs _ (lw_sc1 _ (List.mem_of_getElem? (i := 14) rfl))
    · exact hs _ (lw_sc1 _ (List.mem_of_getElem? (i := 15) rfl))
    · exact hs _ (lw_sc1 _ (List.mem_of_getElem? (i := 16) rfl))
  obtain ⟨K, V, S, u⟩ := vk_Sof (args := #[Value.ref b]) (s := s) (N := 1) (tm := fun _ => (Term.string "OneHeavyLoad$Reader" 141)) (len := [4]) (byt := [[97, 120, 108, 101]]) (A := fun q => s.heap.size ≤ q) a1 (fun i hi => hs _ (lw_sc1 _ (List.mem_of_getElem? (i := 9) rfl))) (fun i hi => hs _ (lw_sc1 _ (List.mem_of_getElem? (i := 10) rfl))) (fun i hi => hs _ (lw_sc1 _ (List.mem_of_getElem? (i := 11) rfl))) a2 a3 (fun i j hi hj hne => absurd (show i = j by omega) hne) hnA
  exact ⟨K 0, V 0, S.1 0 (by decide), u 0 (by decide)⟩
set_option maxHeartbeats 4000000 in
set_option maxRecDepth 100000 in
theorem lw_st9 {s : State} {b : Nat} (hs : ∀ x ∈ flatC (Jvm.Cond.and given_1 narrow_1), x.before #[Value.ref b] s = true) (hnA : ∀ a : Nat, a < s.heap.size → ¬ (fun q : Nat => s.heap.size ≤ q) a) : ∃ K V : Nat, (va_O "java/lang/String" K (fun q => s.heap.size ≤ q) s s.heap ∧ va_OF "java/lang/String" "coder" "B" (.int 0) K (fun q => s.heap.size ≤ q) s s.heap ∧ va_OF "java/lang/String" "value" "[B" (.ref V) K (fun q => s.heap.size ≤ q) s s.heap ∧ va_T .byte V (oh_len 9) (fun i => .int (oh_byt 9 i)) (fun q => s.heap.size ≤ q) s s.heap) ∧ (Term.string "OneHeavyLoad$Reader" 143).eval #[Value.ref b] s none [] s = some (.ref K) := by
  have a1 : ∀ i : Nat, i < 1 → ([3] : List Nat).getD i 0 < 2 ^ 31 := by
    intro i hi
    obtain rfl : i = 0 := by omega
    decide
  have a2 : ∀ i : Nat, i < 1 → (Cond.eq (.length (.field (.string "OneHeavyLoad$Reader" 143) "java/lang/String" "value" "[B")) (.int (Int32.ofNat (([3] : List Nat).getD i 0)))).before #[Value.ref b] s = true := by
    intro i hi
    obtain rfl : i = 0 := by omega
    exact hs _ (lw_sc1 _ (List.mem_of_getElem? (i := 20) rfl))
  have a3 : ∀ i : Nat, i < 1 → ∀ j : Nat, j < ([3] : List Nat).getD i 0 → (Cond.eq (.elem (.field (.string "OneHeavyLoad$Reader" 143) "java/lang/String" "value" "[B") (.int (Int32.ofNat j))) (.int (([[97, 108, 108]] : List (List Int32)).getD i [] |>.getD j 0))).before #[Value.ref b] s = true := by
    intro i hi j hj
    obtain rfl : i = 0 := by omega
    have hj : j < 3 := hj
    rcases (show j = 0 ∨ j = 1 ∨ j = 2 by omega) with rfl | rfl | rfl
    · exact hs _ (lw_sc1 _ (List.mem_of_getElem? (i := 21) rfl))
    · exact hs _ (lw_sc1 _ (List.mem_of_getElem? (i := 22) rfl))
    · exact hs _ (lw_sc1 _ (List.mem_of_getElem? (i := 23) rfl))
  obtain ⟨K, V, S, u⟩ := vk_Sof (args := #[Value.ref b]) (s := s) (N := 1) (tm := fun _ => (Term.string "OneHeavyLoad$Reader" 143)) (len := [3]) (byt := [[97, 108, 108]]) (A := fun q => s.heap.size ≤ q) a1 (fun i hi => hs _ (lw_sc1 _ (List.mem_of_getElem? (i := 17) rfl))) (fun i hi => hs _ (lw_sc1 _ (List.mem_of_getElem? (i := 18) rfl))) (fun i hi => hs _ (lw_sc1 _ (List.mem_of_getElem? (i := 19) rfl))) a2 a3 (fun i j hi hj hne => absurd (show i = j by omega) hne) hnA
  exact ⟨K 0, V 0, S.1 0 (by decide), u 0 (by decide)⟩
set_option maxHeartbeats 4000000 in
set_option maxRecDepth 100000 in
theorem lw_st10 {s : State} {b : Nat} (hs : ∀ x ∈ flatC (Jvm.Cond.and given_1 narrow_1), x.before #[Value.ref b] s = true) (hnA : ∀ a : Nat, a < s.heap.size → ¬ (fun q : Nat => s.heap.size ≤ q) a) : ∃ K V : Nat, (va_O "java/lang/String" K (fun q => s.heap.size ≤ q) s s.heap ∧ va_OF "java/lang/String" "coder" "B" (.int 0) K (fun q => s.heap.size ≤ q) s s.heap ∧ va_OF "java/lang/String" "value" "[B" (.ref V) K (fun q => s.heap.size ≤ q) s s.heap ∧ va_T .byte V (oh_len 10) (fun i => .int (oh_byt 10 i)) (fun q => s.heap.size ≤ q) s s.heap) ∧ (Term.string "OneHeavyLoad$Reader" 145).eval #[Value.ref b] s none [] s = some (.ref K) := by
  have a1 : ∀ i : Nat, i < 1 → ([4] : List Nat).getD i 0 < 2 ^ 31 := by
    intro i hi
    obtain rfl : i = 0 := by omega
    decide
  have a2 : ∀ i : Nat, i < 1 → (Cond.eq (.length (.field (.string "OneHeavyLoad$Reader" 145) "java/lang/String" "value" "[B")) (.int (Int32.ofNat (([4] : List Nat).getD i 0)))).before #[Value.ref b] s = true := by
    intro i hi
    obtain rfl : i = 0 := by omega
    exact hs _ (lw_sc1 _ (List.mem_of_getElem? (i := 27) rfl))
  have a3 : ∀ i : Nat, i < 1 → ∀ j : Nat, j < ([4] : List Nat).getD i 0 → (Cond.eq (.elem (.field (.string "OneHeavyLoad$Reader" 145) "java/lang/String" "value" "[B") (.int (Int32.ofNat j))) (.int (([[112, 114, 111, 112]] : List (List Int32)).getD i [] |>.getD j 0))).before #[Value.ref b] s = true := by
    intro i hi j hj
    obtain rfl : i = 0 := by omega
    have hj : j < 4 := hj
    rcases (show j = 0 ∨ j = 1 ∨ j = 2 ∨ j = 3 by omega) with rfl | rfl | rfl | rfl
    · exact hs _ (lw_sc1 _ (List.mem_of_getElem? (i := 28) rfl))
    · exact hs _ (lw_sc1 _ (List.mem_of_getElem? (i := 29) rfl))
    · exact hs _ (lw_sc1 _ (List.mem_of_getElem? (i := 30) rfl))
    · exact hs _ (lw_sc1 _ (List.mem_of_getElem? (i := 31) rfl))
  obtain ⟨K, V, S, u⟩ := vk_Sof (args := #[Value.ref b]) (s := s) (N := 1) (tm := fun _ => (Term.string "OneHeavyLoad$Reader" 145)) (len := [4]) (byt := [[112, 114, 111, 112]]) (A := fun q => s.heap.size ≤ q) a1 (fun i hi => hs _ (lw_sc1 _ (List.mem_of_getElem? (i := 24) rfl))) (fun i hi => hs _ (lw_sc1 _ (List.mem_of_getElem? (i := 25) rfl))) (fun i hi => hs _ (lw_sc1 _ (List.mem_of_getElem? (i := 26) rfl))) a2 a3 (fun i j hi hj hne => absurd (show i = j by omega) hne) hnA
  exact ⟨K 0, V 0, S.1 0 (by decide), u 0 (by decide)⟩
set_option maxHeartbeats 4000000 in
set_option maxRecDepth 100000 in
theorem lw_st11 {s : State} {b : Nat} (hs : ∀ x ∈ flatC (Jvm.Cond.and given_1 narrow_1), x.before #[Value.ref b] s = true) (hnA : ∀ a : Nat, a < s.heap.size → ¬ (fun q : Nat => s.heap.size ≤ q) a) : ∃ K V : Nat, (va_O "java/lang/String" K (fun q => s.heap.size ≤ q) s s.heap ∧ va_OF "java/lang/String" "coder" "B" (.int 0) K (fun q => s.heap.size ≤ q) s s.heap ∧ va_OF "java/lang/String" "value" "[B" (.ref V) K (fun q => s.heap.size ≤ q) s s.heap ∧ va_T .byte V (oh_len 11) (fun i => .int (oh_byt 11 i)) (fun q => s.heap.size ≤ q) s s.heap) ∧ (Term.string "OneHeavyLoad$Reader" 75).eval #[Value.ref b] s none [] s = some (.ref K) := by
  have a1 : ∀ i : Nat, i < 1 → ([6] : List Nat).getD i 0 < 2 ^ 31 := by
    intro i hi
    obtain rfl : i = 0 := by omega
    decide
  have a2 : ∀ i : Nat, i < 1 → (Cond.eq (.length (.field (.string "OneHeavyLoad$Reader" 75) "java/lang/String" "value" "[B")) (.int (Int32.ofNat (([6] : List Nat).getD i 0)))).before #[Value.ref b] s = true := by
    intro i hi
    obtain rfl : i = 0 := by omega
    exact hs _ (lw_sc1 _ (List.mem_of_getElem? (i := 35) rfl))
  have a3 : ∀ i : Nat, i < 1 → ∀ j : Nat, j < ([6] : List Nat).getD i 0 → (Cond.eq (.elem (.field (.string "OneHeavyLoad$Reader" 75) "java/lang/String" "value" "[B") (.int (Int32.ofNat j))) (.int (([[119, 97, 103, 103, 111, 110]] : List (List Int32)).getD i [] |>.getD j 0))).before #[Value.ref b] s = true := by
    intro i hi j hj
    obtain rfl : i = 0 := by omega
    have hj : j < 6 := hj
    rcases (show j = 0 ∨ j = 1 ∨ j = 2 ∨ j = 3 ∨ j = 4 ∨ j = 5 by omega) with rfl | rfl | rfl | rfl | rfl | rfl
    · exact hs _ (lw_sc1 _ (List.mem_of_getElem? (i := 36) rfl))
    · exact hs _ (lw_sc1 _ (List.mem_of_getElem? (i := 37) rfl))
    · exact hs _ (lw_sc1 _ (List.mem_of_getElem? (i := 38) rfl))
    · exact hs _ (lw_sc1 _ (List.mem_of_getElem? (i := 39) rfl))
    · exact hs _ (lw_sc1 _ (List.mem_of_getElem? (i := 40) rfl))
    · exact hs _ (lw_sc1 _ (List.mem_of_getElem? (i := 41) rfl))
  obtain ⟨K, V, S, u⟩ := vk_Sof (args := #[Value.ref b]) (s := s) (N := 1) (tm := fun _ => (Term.string "OneHeavyLoad$Reader" 75)) (len := [6]) (byt := [[119, 97, 103, 103, 111, 110]]) (A := fun q => s.heap.size ≤ q) a1 (fun i hi => hs _ (lw_sc1 _ (List.mem_of_getElem? (i := 32) rfl))) (fun i hi => hs _ (lw_sc1 _ (List.mem_of_getElem? (i := 33) rfl))) (fun i hi => hs _ (lw_sc1 _ (List.mem_of_getElem? (i := 34) rfl))) a2 a3 (fun i j hi hj hne => absurd (show i = j by omega) hne) hnA
  exact ⟨K 0, V 0, S.1 0 (by decide), u 0 (by decide)⟩
set_option maxHeartbeats 4000000 in
set_option maxRecDepth 100000 in
theorem lw_st12 {s : State} {b : Nat} (hs : ∀ x ∈ flatC (Jvm.Cond.and given_1 narrow_1), x.before #[Value.ref b] s = true) (hnA : ∀ a : Nat, a < s.heap.size → ¬ (fun q : Nat => s.heap.size ≤ q) a) : ∃ K V : Nat, (va_O "java/lang/String" K (fun q => s.heap.size ≤ q) s s.heap ∧ va_OF "java/lang/String" "coder" "B" (.int 0) K (fun q => s.heap.size ≤ q) s s.heap ∧ va_OF "java/lang/String" "value" "[B" (.ref V) K (fun q => s.heap.size ≤ q) s s.heap ∧ va_T .byte V (oh_len 12) (fun i => .int (oh_byt 12 i)) (fun q => s.heap.size ≤ q) s s.heap) ∧ (Term.string "OneHeavyLoad$Reader" 155).eval #[Value.ref b] s none [] s = some (.ref K) := by
  have a1 : ∀ i : Nat, i < 1 → ([5] : List Nat).getD i 0 < 2 ^ 31 := by
    intro i hi
    obtain rfl : i = 0 := by omega
    decide
  have a2 : ∀ i : Nat, i < 1 → (Cond.eq (.length (.field (.string "OneHeavyLoad$Reader" 155) "java/lang/String" "value" "[B")) (.int (Int32.ofNat (([5] : List Nat).getD i 0)))).before #[Value.ref b] s = true := by
    intro i hi
    obtain rfl : i = 0 := by omega
    exact hs _ (lw_sc1 _ (List.mem_of_getElem? (i := 45) rfl))
  have a3 : ∀ i : Nat, i < 1 → ∀ j : Nat, j < ([5] : List Nat).getD i 0 → (Cond.eq (.elem (.field (.string "OneHeavyLoad$Reader" 155) "java/lang/String" "value" "[B") (.int (Int32.ofNat j))) (.int (([[115, 112, 97, 99, 101]] : List (List Int32)).getD i [] |>.getD j 0))).before #[Value.ref b] s = true := by
    intro i hi j hj
    obtain rfl : i = 0 := by omega
    have hj : j < 5 := hj
    rcases (show j = 0 ∨ j = 1 ∨ j = 2 ∨ j = 3 ∨ j = 4 by omega) with rfl | rfl | rfl | rfl | rfl
    · exact hs _ (lw_sc1 _ (List.mem_of_getElem? (i := 46) rfl))
    · exact hs _ (lw_sc1 _ (List.mem_of_getElem? (i := 47) rfl))
    · exact hs _ (lw_sc1 _ (List.mem_of_getElem? (i := 48) rfl))
    · exact hs _ (lw_sc1 _ (List.mem_of_getElem? (i := 49) rfl))
    · exact hs _ (lw_sc1 _ (List.mem_of_getElem? (i := 50) rfl))
  obtain ⟨K, V, S, u⟩ := vk_Sof (args := #[Value.ref b]) (s := s) (N := 1) (tm := fun _ => (Term.string "OneHeavyLoad$Reader" 155)) (len := [5]) (byt := [[115, 112, 97, 99, 101]]) (A := fun q => s.heap.size ≤ q) a1 (fun i hi => hs _ (lw_sc1 _ (List.mem_of_getElem? (i := 42) rfl))) (fun i hi => hs _ (lw_sc1 _ (List.mem_of_getElem? (i := 43) rfl))) (fun i hi => hs _ (lw_sc1 _ (List.mem_of_getElem? (i := 44) rfl))) a2 a3 (fun i j hi hj hne => absurd (show i = j by omega) hne) hnA
  exact ⟨K 0, V 0, S.1 0 (by decide), u 0 (by decide)⟩
set_option maxHeartbeats 4000000 in
set_option maxRecDepth 100000 in
theorem lw_st13 {s : State} {b : Nat} (hs : ∀ x ∈ flatC (Jvm.Cond.and given_1 narrow_1), x.before #[Value.ref b] s = true) (hnA : ∀ a : Nat, a < s.heap.size → ¬ (fun q : Nat => s.heap.size ≤ q) a) : ∃ K V : Nat, (va_O "java/lang/String" K (fun q => s.heap.size ≤ q) s s.heap ∧ va_OF "java/lang/String" "coder" "B" (.int 0) K (fun q => s.heap.size ≤ q) s s.heap ∧ va_OF "java/lang/String" "value" "[B" (.ref V) K (fun q => s.heap.size ≤ q) s s.heap ∧ va_T .byte V (oh_len 13) (fun i => .int (oh_byt 13 i)) (fun q => s.heap.size ≤ q) s s.heap) ∧ (Term.string "OneHeavyLoad$Reader" 157).eval #[Value.ref b] s none [] s = some (.ref K) := by
  have a1 : ∀ i : Nat, i < 1 → ([4] : List Nat).getD i 0 < 2 ^ 31 := by
    intro i hi
    obtain rfl : i = 0 := by omega
    decide
  have a2 : ∀ i : Nat, i < 1 → (Cond.eq (.length (.field (.string "OneHeavyLoad$Reader" 157) "java/lang/String" "value" "[B")) (.int (Int32.ofNat (([4] : List Nat).getD i 0)))).before #[Value.ref b] s = true := by
    intro i hi
    obtain rfl : i = 0 := by omega
    exact hs _ (lw_sc1 _ (List.mem_of_getElem? (i := 54) rfl))
  have a3 : ∀ i : Nat, i < 1 → ∀ j : Nat, j < ([4] : List Nat).getD i 0 → (Cond.eq (.elem (.field (.string "OneHeavyLoad$Reader" 157) "java/lang/String" "value" "[B") (.int (Int32.ofNat j))) (.int (([[116, 97, 114, 101]] : List (List Int32)).getD i [] |>.getD j 0))).before #[Value.ref b] s = true := by
    intro i hi j hj
    obtain rfl : i = 0 := by omega
    have hj : j < 4 := hj
    rcases (show j = 0 ∨ j = 1 ∨ j = 2 ∨ j = 3 by omega) with rfl | rfl | rfl | rfl
    · exact hs _ (lw_sc1 _ (List.mem_of_getElem? (i := 55) rfl))
    · exact hs _ (lw_sc1 _ (List.mem_of_getElem? (i := 56) rfl))
    · exact hs _ (lw_sc1 _ (List.mem_of_getElem? (i := 57) rfl))
    · exact hs _ (lw_sc1 _ (List.mem_of_getElem? (i := 58) rfl))
  obtain ⟨K, V, S, u⟩ := vk_Sof (args := #[Value.ref b]) (s := s) (N := 1) (tm := fun _ => (Term.string "OneHeavyLoad$Reader" 157)) (len := [4]) (byt := [[116, 97, 114, 101]]) (A := fun q => s.heap.size ≤ q) a1 (fun i hi => hs _ (lw_sc1 _ (List.mem_of_getElem? (i := 51) rfl))) (fun i hi => hs _ (lw_sc1 _ (List.mem_of_getElem? (i := 52) rfl))) (fun i hi => hs _ (lw_sc1 _ (List.mem_of_getElem? (i := 53) rfl))) a2 a3 (fun i j hi hj hne => absurd (show i = j by omega) hne) hnA
  exact ⟨K 0, V 0, S.1 0 (by decide), u 0 (by decide)⟩
set_option maxHeartbeats 4000000 in
set_option maxRecDepth 100000 in
theorem lw_st14 {s : State} {b : Nat} (hs : ∀ x ∈ flatC (Jvm.Cond.and given_1 narrow_1), x.before #[Value.ref b] s = true) (hnA : ∀ a : Nat, a < s.heap.size → ¬ (fun q : Nat => s.heap.size ≤ q) a) : ∃ K V : Nat, (va_O "java/lang/String" K (fun q => s.heap.size ≤ q) s s.heap ∧ va_OF "java/lang/String" "coder" "B" (.int 0) K (fun q => s.heap.size ≤ q) s s.heap ∧ va_OF "java/lang/String" "value" "[B" (.ref V) K (fun q => s.heap.size ≤ q) s s.heap ∧ va_T .byte V (oh_len 14) (fun i => .int (oh_byt 14 i)) (fun q => s.heap.size ≤ q) s s.heap) ∧ (Term.string "OneHeavyLoad$Reader" 80).eval #[Value.ref b] s none [] s = some (.ref K) := by
  have a1 : ∀ i : Nat, i < 1 → ([4] : List Nat).getD i 0 < 2 ^ 31 := by
    intro i hi
    obtain rfl : i = 0 := by omega
    decide
  have a2 : ∀ i : Nat, i < 1 → (Cond.eq (.length (.field (.string "OneHeavyLoad$Reader" 80) "java/lang/String" "value" "[B")) (.int (Int32.ofNat (([4] : List Nat).getD i 0)))).before #[Value.ref b] s = true := by
    intro i hi
    obtain rfl : i = 0 := by omega
    exact hs _ (lw_sc2 _ (List.mem_of_getElem? (i := 2) rfl))
  have a3 : ∀ i : Nat, i < 1 → ∀ j : Nat, j < ([4] : List Nat).getD i 0 → (Cond.eq (.elem (.field (.string "OneHeavyLoad$Reader" 80) "java/lang/String" "value" "[B") (.int (Int32.ofNat j))) (.int (([[112, 97, 114, 116]] : List (List Int32)).getD i [] |>.getD j 0))).before #[Value.ref b] s = true := by
    intro i hi j hj
    obtain rfl : i = 0 := by omega
    have hj : j < 4 := hj
    rcases (show j = 0 ∨ j = 1 ∨ j = 2 ∨ j = 3 by omega) with rfl | rfl | rfl | rfl
    · exact hs _ (lw_sc2 _ (List.mem_of_getElem? (i := 3) rfl))
    · exact hs _ (lw_sc2 _ (List.mem_of_getElem? (i := 4) rfl))
    · exact hs _ (lw_sc2 _ (List.mem_of_getElem? (i := 5) rfl))
    · exact hs _ (lw_sc2 _ (List.mem_of_getElem? (i := 6) rfl))
  obtain ⟨K, V, S, u⟩ := vk_Sof (args := #[Value.ref b]) (s := s) (N := 1) (tm := fun _ => (Term.string "OneHeavyLoad$Reader" 80)) (len := [4]) (byt := [[112, 97, 114, 116]]) (A := fun q => s.heap.size ≤ q) a1 (fun i hi => hs _ (lw_sc1 _ (List.mem_of_getElem? (i := 59) rfl))) (fun i hi => hs _ (lw_sc2 _ (List.mem_of_getElem? (i := 0) rfl))) (fun i hi => hs _ (lw_sc2 _ (List.mem_of_getElem? (i := 1) rfl))) a2 a3 (fun i j hi hj hne => absurd (show i = j by omega) hne) hnA
  exact ⟨K 0, V 0, S.1 0 (by decide), u 0 (by decide)⟩
set_option maxHeartbeats 4000000 in
set_option maxRecDepth 100000 in
theorem lw_st15 {s : State} {b : Nat} (hs : ∀ x ∈ flatC (Jvm.Cond.and given_1 narrow_1), x.before #[Value.ref b] s = true) (hnA : ∀ a : Nat, a < s.heap.size → ¬ (fun q : Nat => s.heap.size ≤ q) a) : ∃ K V : Nat, (va_O "java/lang/String" K (fun q => s.heap.size ≤ q) s s.heap ∧ va_OF "java/lang/String" "coder" "B" (.int 0) K (fun q => s.heap.size ≤ q) s s.heap ∧ va_OF "java/lang/String" "value" "[B" (.ref V) K (fun q => s.heap.size ≤ q) s s.heap ∧ va_T .byte V (oh_len 15) (fun i => .int (oh_byt 15 i)) (fun q => s.heap.size ≤ q) s s.heap) ∧ (Term.string "OneHeavyLoad$Reader" 85).eval #[Value.ref b] s none [] s = some (.ref K) := by
  have a1 : ∀ i : Nat, i < 1 → ([4] : List Nat).getD i 0 < 2 ^ 31 := by
    intro i hi
    obtain rfl : i = 0 := by omega
    decide
  have a2 : ∀ i : Nat, i < 1 → (Cond.eq (.length (.field (.string "OneHeavyLoad$Reader" 85) "java/lang/String" "value" "[B")) (.int (Int32.ofNat (([4] : List Nat).getD i 0)))).before #[Value.ref b] s = true := by
    intro i hi
    obtain rfl : i = 0 := by omega
    exact hs _ (lw_sc2 _ (List.mem_of_getElem? (i := 10) rfl))
  have a3 : ∀ i : Nat, i < 1 → ∀ j : Nat, j < ([4] : List Nat).getD i 0 → (Cond.eq (.elem (.field (.string "OneHeavyLoad$Reader" 85) "java/lang/String" "value" "[B") (.int (Int32.ofNat j))) (.int (([[108, 111, 97, 100]] : List (List Int32)).getD i [] |>.getD j 0))).before #[Value.ref b] s = true := by
    intro i hi j hj
    obtain rfl : i = 0 := by omega
    have hj : j < 4 := hj
    rcases (show j = 0 ∨ j = 1 ∨ j = 2 ∨ j = 3 by omega) with rfl | rfl | rfl | rfl
    · exact hs _ (lw_sc2 _ (List.mem_of_getElem? (i := 11) rfl))
    · exact hs _ (lw_sc2 _ (List.mem_of_getElem? (i := 12) rfl))
    · exact hs _ (lw_sc2 _ (List.mem_of_getElem? (i := 13) rfl))
    · exact hs _ (lw_sc2 _ (List.mem_of_getElem? (i := 14) rfl))
  obtain ⟨K, V, S, u⟩ := vk_Sof (args := #[Value.ref b]) (s := s) (N := 1) (tm := fun _ => (Term.string "OneHeavyLoad$Reader" 85)) (len := [4]) (byt := [[108, 111, 97, 100]]) (A := fun q => s.heap.size ≤ q) a1 (fun i hi => hs _ (lw_sc2 _ (List.mem_of_getElem? (i := 7) rfl))) (fun i hi => hs _ (lw_sc2 _ (List.mem_of_getElem? (i := 8) rfl))) (fun i hi => hs _ (lw_sc2 _ (List.mem_of_getElem? (i := 9) rfl))) a2 a3 (fun i j hi hj hne => absurd (show i = j by omega) hne) hnA
  exact ⟨K 0, V 0, S.1 0 (by decide), u 0 (by decide)⟩
set_option maxHeartbeats 4000000 in
set_option maxRecDepth 100000 in
theorem lw_st16 {s : State} {b : Nat} (hs : ∀ x ∈ flatC (Jvm.Cond.and given_1 narrow_1), x.before #[Value.ref b] s = true) (hnA : ∀ a : Nat, a < s.heap.size → ¬ (fun q : Nat => s.heap.size ≤ q) a) : ∃ K V : Nat, (va_O "java/lang/String" K (fun q => s.heap.size ≤ q) s s.heap ∧ va_OF "java/lang/String" "coder" "B" (.int 0) K (fun q => s.heap.size ≤ q) s s.heap ∧ va_OF "java/lang/String" "value" "[B" (.ref V) K (fun q => s.heap.size ≤ q) s s.heap ∧ va_T .byte V (oh_len 16) (fun i => .int (oh_byt 16 i)) (fun q => s.heap.size ≤ q) s s.heap) ∧ (Term.string "OneHeavyLoad$Reader" 94).eval #[Value.ref b] s none [] s = some (.ref K) := by
  have a1 : ∀ i : Nat, i < 1 → ([4] : List Nat).getD i 0 < 2 ^ 31 := by
    intro i hi
    obtain rfl : i = 0 := by omega
    decide
  have a2 : ∀ i : Nat, i < 1 → (Cond.eq (.length (.field (.string "OneHeavyLoad$Reader" 94) "java/lang/String" "value" "[B")) (.int (Int32.ofNat (([4] : List Nat).getD i 0)))).before #[Value.ref b] s = true := by
    intro i hi
    obtain rfl : i = 0 := by omega
    exact hs _ (lw_sc2 _ (List.mem_of_getElem? (i := 18) rfl))
  have a3 : ∀ i : Nat, i < 1 → ∀ j : Nat, j < ([4] : List Nat).getD i 0 → (Cond.eq (.elem (.field (.string "OneHeavyLoad$Reader" 94) "java/lang/String" "value" "[B") (.int (Int32.ofNat j))) (.int (([[109, 105, 108, 101]] : List (List Int32)).getD i [] |>.getD j 0))).before #[Value.ref b] s = true := by
    intro i hi j hj
    obtain rfl : i = 0 := by omega
    have hj : j < 4 := hj
    rcases (show j = 0 ∨ j = 1 ∨ j = 2 ∨ j = 3 by omega) with rfl | rfl | rfl | rfl
    · exact hs _ (lw_sc2 _ (List.mem_of_getElem? (i := 19) rfl))
    · exact hs _ (lw_sc2 _ (List.mem_of_getElem? (i := 20) rfl))
    · exact hs _ (lw_sc2 _ (List.mem_of_getElem? (i := 21) rfl))
    · exact hs _ (lw_sc2 _ (List.mem_of_getElem? (i := 22) rfl))
  obtain ⟨K, V, S, u⟩ := vk_Sof (args := #[Value.ref b]) (s := s) (N := 1) (tm := fun _ => (Term.string "OneHeavyLoad$Reader" 94)) (len := [4]) (byt := [[109, 105, 108, 101]]) (A := fun q => s.heap.size ≤ q) a1 (fun i hi => hs _ (lw_sc2 _ (List.mem_of_getElem? (i := 15) rfl))) (fun i hi => hs _ (lw_sc2 _ (List.mem_of_getElem? (i := 16) rfl))) (fun i hi => hs _ (lw_sc2 _ (List.mem_of_getElem? (i := 17) rfl))) a2 a3 (fun i j hi hj hne => absurd (show i = j by omega) hne) hnA
  exact ⟨K 0, V 0, S.1 0 (by decide), u 0 (by decide)⟩
set_option maxHeartbeats 4000000 in
set_option maxRecDepth 100000 in
theorem lw_st17 {s : State} {b : Nat} (hs : ∀ x ∈ flatC (Jvm.Cond.and given_1 narrow_1), x.before #[Value.ref b] s = true) (hnA : ∀ a : Nat, a < s.heap.size → ¬ (fun q : Nat => s.heap.size ≤ q) a) : ∃ K V : Nat, (va_O "java/lang/String" K (fun q => s.heap.size ≤ q) s s.heap ∧ va_OF "java/lang/String" "coder" "B" (.int 0) K (fun q => s.heap.size ≤ q) s s.heap ∧ va_OF "java/lang/String" "value" "[B" (.ref V) K (fun q => s.heap.size ≤ q) s s.heap ∧ va_T .byte V (oh_len 17) (fun i => .int (oh_byt 17 i)) (fun q => s.heap.size ≤ q) s s.heap) ∧ (Term.string "OneHeavyLoadModel" 200).eval #[Value.ref b] s none [] s = some (.ref K) := by
  have a1 : ∀ i : Nat, i < 1 → ([4] : List Nat).getD i 0 < 2 ^ 31 := by
    intro i hi
    obtain rfl : i = 0 := by omega
    decide
  have a2 : ∀ i : Nat, i < 1 → (Cond.eq (.length (.field (.string "OneHeavyLoadModel" 200) "java/lang/String" "value" "[B")) (.int (Int32.ofNat (([4] : List Nat).getD i 0)))).before #[Value.ref b] s = true := by
    intro i hi
    obtain rfl : i = 0 := by omega
    exact hs _ (lw_sc2 _ (List.mem_of_getElem? (i := 26) rfl))
  have a3 : ∀ i : Nat, i < 1 → ∀ j : Nat, j < ([4] : List Nat).getD i 0 → (Cond.eq (.elem (.field (.string "OneHeavyLoadModel" 200) "java/lang/String" "value" "[B") (.int (Int32.ofNat j))) (.int (([[114, 111, 97, 100]] : List (List Int32)).getD i [] |>.getD j 0))).before #[Value.ref b] s = true := by
    intro i hi j hj
    obtain rfl : i = 0 := by omega
    have hj : j < 4 := hj
    rcases (show j = 0 ∨ j = 1 ∨ j = 2 ∨ j = 3 by omega) with rfl | rfl | rfl | rfl
    · exact hs _ (lw_sc2 _ (List.mem_of_getElem? (i := 27) rfl))
    · exact hs _ (lw_sc2 _ (List.mem_of_getElem? (i := 28) rfl))
    · exact hs _ (lw_sc2 _ (List.mem_of_getElem? (i := 29) rfl))
    · exact hs _ (lw_sc2 _ (List.mem_of_getElem? (i := 30) rfl))
  obtain ⟨K, V, S, u⟩ := vk_Sof (args := #[Value.ref b]) (s := s) (N := 1) (tm := fun _ => (Term.string "OneHeavyLoadModel" 200)) (len := [4]) (byt := [[114, 111, 97, 100]]) (A := fun q => s.heap.size ≤ q) a1 (fun i hi => hs _ (lw_sc2 _ (List.mem_of_getElem? (i := 23) rfl))) (fun i hi => hs _ (lw_sc2 _ (List.mem_of_getElem? (i := 24) rfl))) (fun i hi => hs _ (lw_sc2 _ (List.mem_of_getElem? (i := 25) rfl))) a2 a3 (fun i j hi hj hne => absurd (show i = j by omega) hne) hnA
  exact ⟨K 0, V 0, S.1 0 (by decide), u 0 (by decide)⟩
set_option maxHeartbeats 4000000 in
set_option maxRecDepth 100000 in
theorem lw_st18 {s : State} {b : Nat} (hs : ∀ x ∈ flatC (Jvm.Cond.and given_1 narrow_1), x.before #[Value.ref b] s = true) (hnA : ∀ a : Nat, a < s.heap.size → ¬ (fun q : Nat => s.heap.size ≤ q) a) : ∃ K V : Nat, (va_O "java/lang/String" K (fun q => s.heap.size ≤ q) s s.heap ∧ va_OF "java/lang/String" "coder" "B" (.int 0) K (fun q => s.heap.size ≤ q) s s.heap ∧ va_OF "java/lang/String" "value" "[B" (.ref V) K (fun q => s.heap.size ≤ q) s s.heap ∧ va_T .byte V (oh_len 18) (fun i => .int (oh_byt 18 i)) (fun q => s.heap.size ≤ q) s s.heap) ∧ (Term.string "OneHeavyLoadModel" 219).eval #[Value.ref b] s none [] s = some (.ref K) := by
  have a1 : ∀ i : Nat, i < 1 → ([5] : List Nat).getD i 0 < 2 ^ 31 := by
    intro i hi
    obtain rfl : i = 0 := by omega
    decide
  have a2 : ∀ i : Nat, i < 1 → (Cond.eq (.length (.field (.string "OneHeavyLoadModel" 219) "java/lang/String" "value" "[B")) (.int (Int32.ofNat (([5] : List Nat).getD i 0)))).before #[Value.ref b] s = true := by
    intro i hi
    obtain rfl : i = 0 := by omega
    exact hs _ (lw_sc2 _ (List.mem_of_getElem? (i := 34) rfl))
  have a3 : ∀ i : Nat, i < 1 → ∀ j : Nat, j < ([5] : List Nat).getD i 0 → (Cond.eq (.elem (.field (.string "OneHeavyLoadModel" 219) "java/lang/String" "value" "[B") (.int (Int32.ofNat j))) (.int (([[109, 105, 108, 101, 115]] : List (List Int32)).getD i [] |>.getD j 0))).before #[Value.ref b] s = true := by
    intro i hi j hj
    obtain rfl : i = 0 := by omega
    have hj : j < 5 := hj
    rcases (show j = 0 ∨ j = 1 ∨ j = 2 ∨ j = 3 ∨ j = 4 by omega) with rfl | rfl | rfl | rfl | rfl
    · exact hs _ (lw_sc2 _ (List.mem_of_getElem? (i := 35) rfl))
    · exact hs _ (lw_sc2 _ (List.mem_of_getElem? (i := 36) rfl))
    · exact hs _ (lw_sc2 _ (List.mem_of_getElem? (i := 37) rfl))
    · exact hs _ (lw_sc2 _ (List.mem_of_getElem? (i := 38) rfl))
    · exact hs _ (lw_sc2 _ (List.mem_of_getElem? (i := 39) rfl))
  obtain ⟨K, V, S, u⟩ := vk_Sof (args := #[Value.ref b]) (s := s) (N := 1) (tm := fun _ => (Term.string "OneHeavyLoadModel" 219)) (len := [5]) (byt := [[109, 105, 108, 101, 115]]) (A := fun q => s.heap.size ≤ q) a1 (fun i hi => hs _ (lw_sc2 _ (List.mem_of_getElem? (i := 31) rfl))) (fun i hi => hs _ (lw_sc2 _ (List.mem_of_getElem? (i := 32) rfl))) (fun i hi => hs _ (lw_sc2 _ (List.mem_of_getElem? (i := 33) rfl))) a2 a3 (fun i j hi hj hne => absurd (show i = j by omega) hne) hnA
  exact ⟨K 0, V 0, S.1 0 (by decide), u 0 (by decide)⟩
set_option maxHeartbeats 4000000 in
set_option maxRecDepth 100000 in
theorem lw_st19 {s : State} {b : Nat} (hs : ∀ x ∈ flatC (Jvm.Cond.and given_1 narrow_1), x.before #[Value.ref b] s = true) (hnA : ∀ a : Nat, a < s.heap.size → ¬ (fun q : Nat => s.heap.size ≤ q) a) : ∃ K V : Nat, (va_O "java/lang/String" K (fun q => s.heap.size ≤ q) s s.heap ∧ va_OF "java/lang/String" "coder" "B" (.int 0) K (fun q => s.heap.size ≤ q) s s.heap ∧ va_OF "java/lang/String" "value" "[B" (.ref V) K (fun q => s.heap.size ≤ q) s s.heap ∧ va_T .byte V (oh_len 19) (fun i => .int (oh_byt 19 i)) (fun q => s.heap.size ≤ q) s s.heap) ∧ (Term.string "OneHeavyLoadModel" 221).eval #[Value.ref b] s none [] s = some (.ref K) := by
  have a1 : ∀ i : Nat, i < 1 → ([4] : List Nat).getD i 0 < 2 ^ 31 := by
    intro i hi
    obtain rfl : i = 0 := by omega
    decide
  have a2 : ∀ i : Nat, i < 1 → (Cond.eq (.length (.field (.string "OneHeavyLoadModel" 221) "java/lang/String" "value" "[B")) (.int (Int32.ofNat (([4] : List Nat).getD i 0)))).before #[Value.ref b] s = true := by
    intro i hi
    obtain rfl : i = 0 := by omega
    exact hs _ (lw_sc2 _ (List.mem_of_getElem? (i := 43) rfl))
  have a3 : ∀ i : Nat, i < 1 → ∀ j : Nat, j < ([4] : List Nat).getD i 0 → (Cond.eq (.elem (.field (.string "OneHeavyLoadModel" 221) "java/lang/String" "value" "[B") (.int (Int32.ofNat j))) (.int (([[114, 105, 115, 101]] : List (List Int32)).getD i [] |>.getD j 0))).before #[Value.ref b] s = true := by
    intro i hi j hj
    obtain rfl : i = 0 := by omega
    have hj : j < 4 := hj
    rcases (show j = 0 ∨ j = 1 ∨ j = 2 ∨ j = 3 by omega) with rfl | rfl | rfl | rfl
    · exact hs _ (lw_sc2 _ (List.mem_of_getElem? (i := 44) rfl))
    · exact hs _ (lw_sc2 _ (List.mem_of_getElem? (i := 45) rfl))
    · exact hs _ (lw_sc2 _ (List.mem_of_getElem? (i := 46) rfl))
    · exact hs _ (lw_sc2 _ (List.mem_of_getElem? (i := 47) rfl))
  obtain ⟨K, V, S, u⟩ := vk_Sof (args := #[Value.ref b]) (s := s) (N := 1) (tm := fun _ => (Term.string "OneHeavyLoadModel" 221)) (len := [4]) (byt := [[114, 105, 115, 101]]) (A := fun q => s.heap.size ≤ q) a1 (fun i hi => hs _ (lw_sc2 _ (List.mem_of_getElem? (i := 40) rfl))) (fun i hi => hs _ (lw_sc2 _ (List.mem_of_getElem? (i := 41) rfl))) (fun i hi => hs _ (lw_sc2 _ (List.mem_of_getElem? (i := 42) rfl))) a2 a3 (fun i j hi hj hne => absurd (show i = j by omega) hne) hnA
  exact ⟨K 0, V 0, S.1 0 (by decide), u 0 (by decide)⟩
set_option maxHeartbeats 4000000 in
set_option maxRecDepth 100000 in
theorem lw_st20 {s : State} {b : Nat} (hs : ∀ x ∈ flatC (Jvm.Cond.and given_1 narrow_1), x.before #[Value.ref b] s = true) (hnA : ∀ a : Nat, a < s.heap.size → ¬ (fun q : Nat => s.heap.size ≤ q) a) : ∃ K V : Nat, (va_O "java/lang/String" K (fun q => s.heap.size ≤ q) s s.heap ∧ va_OF "java/lang/String" "coder" "B" (.int 0) K (fun q => s.heap.size ≤ q) s s.heap ∧ va_OF "java/lang/String" "value" "[B" (.ref V) K (fun q => s.heap.size ≤ q) s s.heap ∧ va_T .byte V (oh_len 20) (fun i => .int (oh_byt 20 i)) (fun q => s.heap.size ≤ q) s s.heap) ∧ (Term.string "OneHeavyLoadModel" 226).eval #[Value.ref b] s none [] s = some (.ref K) := by
  have a1 : ∀ i : Nat, i < 1 → ([4] : List Nat).getD i 0 < 2 ^ 31 := by
    intro i hi
    obtain rfl : i = 0 := by omega
    decide
  have a2 : ∀ i : Nat, i < 1 → (Cond.eq (.length (.field (.string "OneHeavyLoadModel" 226) "java/lang/String" "value" "[B")) (.int (Int32.ofNat (([4] : List Nat).getD i 0)))).before #[Value.ref b] s = true := by
    intro i hi
    obtain rfl : i = 0 := by omega
    exact hs _ (lw_sc2 _ (List.mem_of_getElem? (i := 51) rfl))
  have a3 : ∀ i : Nat, i < 1 → ∀ j : Nat, j < ([4] : List Nat).getD i 0 → (Cond.eq (.elem (.field (.string "OneHeavyLoadModel" 226) "java/lang/String" "value" "[B") (.int (Int32.ofNat j))) (.int (([[116, 117, 114, 110]] : List (List Int32)).getD i [] |>.getD j 0))).before #[Value.ref b] s = true := by
    intro i hi j hj
    obtain rfl : i = 0 := by omega
    have hj : j < 4 := hj
    rcases (show j = 0 ∨ j = 1 ∨ j = 2 ∨ j = 3 by omega) with rfl | rfl | rfl | rfl
    · exact hs _ (lw_sc2 _ (List.mem_of_getElem? (i := 52) rfl))
    · exact hs _ (lw_sc2 _ (List.mem_of_getElem? (i := 53) rfl))
    · exact hs _ (lw_sc2 _ (List.mem_of_getElem? (i := 54) rfl))
    · exact hs _ (lw_sc2 _ (List.mem_of_getElem? (i := 55) rfl))
  obtain ⟨K, V, S, u⟩ := vk_Sof (args := #[Value.ref b]) (s := s) (N := 1) (tm := fun _ => (Term.string "OneHeavyLoadModel" 226)) (len := [4]) (byt := [[116, 117, 114, 110]]) (A := fun q => s.heap.size ≤ q) a1 (fun i hi => hs _ (lw_sc2 _ (List.mem_of_getElem? (i := 48) rfl))) (fun i hi => hs _ (lw_sc2 _ (List.mem_of_getElem? (i := 49) rfl))) (fun i hi => hs _ (lw_sc2 _ (List.mem_of_getElem? (i := 50) rfl))) a2 a3 (fun i j hi hj hne => absurd (show i = j by omega) hne) hnA
  exact ⟨K 0, V 0, S.1 0 (by decide), u 0 (by decide)⟩
set_option maxHeartbeats 4000000 in
set_option maxRecDepth 100000 in
theorem lw_st21 {s : State} {b : Nat} (hs : ∀ x ∈ flatC (Jvm.Cond.and given_1 narrow_1), x.before #[Value.ref b] s = true) (hnA : ∀ a : Nat, a < s.heap.size → ¬ (fun q : Nat => s.heap.size ≤ q) a) : ∃ K V : Nat, (va_O "java/lang/String" K (fun q => s.heap.size ≤ q) s s.heap ∧ va_OF "java/lang/String" "coder" "B" (.int 0) K (fun q => s.heap.size ≤ q) s s.heap ∧ va_OF "java/lang/String" "value" "[B" (.ref V) K (fun q => s.heap.size ≤ q) s s.heap ∧ va_T .byte V (oh_len 21) (fun i => .int (oh_byt 21 i)) (fun q => s.heap.size ≤ q) s s.heap) ∧ (Term.string "OneHeavyLoadModel" 228).eval #[Value.ref b] s none [] s = some (.ref K) := by
  have a1 : ∀ i : Nat, i < 1 → ([6] : List Nat).getD i 0 < 2 ^ 31 := by
    intro i hi
    obtain rfl : i = 0 := by omega
    decide
  have a2 : ∀ i : Nat, i < 1 → (Cond.eq (.length (.field (.string "OneHeavyLoadModel" 228) "java/lang/String" "value" "[B")) (.int (Int32.ofNat (([6] : List Nat).getD i 0)))).before #[Value.ref b] s = true := by
    intro i hi
    obtain rfl : i = 0 := by omega
    exact hs _ (lw_sc2 _ (List.mem_of_getElem? (i := 59) rfl))
  have a3 : ∀ i : Nat, i < 1 → ∀ j : Nat, j < ([6] : List Nat).getD i 0 → (Cond.eq (.elem (.field (.string "OneHeavyLoadModel" 228) "java/lang/String" "value" "[B") (.int (Int32.ofNat j))) (.int (([[112, 97, 114, 105, 115, 104]] : List (List Int32)).getD i [] |>.getD j 0))).before #[Value.ref b] s = true := by
    intro i hi j hj
    obtain rfl : i = 0 := by omega
    have hj : j < 6 := hj
    rcases (show j = 0 ∨ j = 1 ∨ j = 2 ∨ j = 3 ∨ j = 4 ∨ j = 5 by omega) with rfl | rfl | rfl | rfl | rfl | rfl
    · exact hs _ (lw_sc3 _ (List.mem_of_getElem? (i := 0) rfl))
    · exact hs _ (lw_sc3 _ (List.mem_of_getElem? (i := 1) rfl))
    · exact hs _ (lw_sc3 _ (List.mem_of_getElem? (i := 2) rfl))
    · exact hs _ (lw_sc3 _ (List.mem_of_getElem? (i := 3) rfl))
    · exact hs _ (lw_sc3 _ (List.mem_of_getElem? (i := 4) rfl))
    · exact hs _ (lw_sc3 _ (List.mem_of_getElem? (i := 5) rfl))
  obtain ⟨K, V, S, u⟩ := vk_Sof (args := #[Value.ref b]) (s := s) (N := 1) (tm := fun _ => (Term.string "OneHeavyLoadModel" 228)) (len := [6]) (byt := [[112, 97, 114, 105, 115, 104]]) (A := fun q => s.heap.size ≤ q) a1 (fun i hi => hs _ (lw_sc2 _ (List.mem_of_getElem? (i := 56) rfl))) (fun i hi => hs _ (lw_sc2 _ (List.mem_of_getElem? (i := 57) rfl))) (fun i hi => hs _ (lw_sc2 _ (List.mem_of_getElem? (i := 58) rfl))) a2 a3 (fun i j hi hj hne => absurd (show i = j by omega) hne) hnA
  exact ⟨K 0, V 0, S.1 0 (by decide), u 0 (by decide)⟩
set_option maxHeartbeats 4000000 in
set_option maxRecDepth 100000 in
theorem lw_st22 {s : State} {b : Nat} (hs : ∀ x ∈ flatC (Jvm.Cond.and given_1 narrow_1), x.before #[Value.ref b] s = true) (hnA : ∀ a : Nat, a < s.heap.size → ¬ (fun q : Nat => s.heap.size ≤ q) a) : ∃ K V : Nat, (va_O "java/lang/String" K (fun q => s.heap.size ≤ q) s s.heap ∧ va_OF "java/lang/String" "coder" "B" (.int 0) K (fun q => s.heap.size ≤ q) s s.heap ∧ va_OF "java/lang/String" "value" "[B" (.ref V) K (fun q => s.heap.size ≤ q) s s.heap ∧ va_T .byte V (oh_len 22) (fun i => .int (oh_byt 22 i)) (fun q => s.heap.size ≤ q) s s.heap) ∧ (Term.string "OneHeavyLoadModel" 205).eval #[Value.ref b] s none [] s = some (.ref K) := by
  have a1 : ∀ i : Nat, i < 1 → ([6] : List Nat).getD i 0 < 2 ^ 31 := by
    intro i hi
    obtain rfl : i = 0 := by omega
    decide
  have a2 : ∀ i : Nat, i < 1 → (Cond.eq (.length (.field (.string "OneHeavyLoadModel" 205) "java/lang/String" "value" "[B")) (.int (Int32.ofNat (([6] : List Nat).getD i 0)))).before #[Value.ref b] s = true := by
    intro i hi
    obtain rfl : i = 0 := by omega
    exact hs _ (lw_sc3 _ (List.mem_of_getElem? (i := 9) rfl))
  have a3 : ∀ i : Nat, i < 1 → ∀ j : Nat, j < ([6] : List Nat).getD i 0 → (Cond.eq (.elem (.field (.string "OneHeavyLoadModel" 205) "java/lang/String" "value" "[B") (.int (Int32.ofNat j))) (.int (([[98, 114, 105, 100, 103, 101]] : List (List Int32)).getD i [] |>.getD j 0))).before #[Value.ref b] s = true := by
    intro i hi j hj
    obtain rfl : i = 0 := by omega
    have hj : j < 6 := hj
    rcases (show j = 0 ∨ j = 1 ∨ j = 2 ∨ j = 3 ∨ j = 4 ∨ j = 5 by omega) with rfl | rfl | rfl | rfl | rfl | rfl
    · exact hs _ (lw_sc3 _ (List.mem_of_getElem? (i := 10) rfl))
    · exact hs _ (lw_sc3 _ (List.mem_of_getElem? (i := 11) rfl))
    · exact hs _ (lw_sc3 _ (List.mem_of_getElem? (i := 12) rfl))
    · exact hs _ (lw_sc3 _ (List.mem_of_getElem? (i := 13) rfl))
    · exact hs _ (lw_sc3 _ (List.mem_of_getElem? (i := 14) rfl))
    · exact hs _ (lw_sc3 _ (List.mem_of_getElem? (i := 15) rfl))
  obtain ⟨K, V, S, u⟩ := vk_Sof (args := #[Value.ref b]) (s := s) (N := 1) (tm := fun _ => (Term.string "OneHeavyLoadModel" 205)) (len := [6]) (byt := [[98, 114, 105, 100, 103, 101]]) (A := fun q => s.heap.size ≤ q) a1 (fun i hi => hs _ (lw_sc3 _ (List.mem_of_getElem? (i := 6) rfl))) (fun i hi => hs _ (lw_sc3 _ (List.mem_of_getElem? (i := 7) rfl))) (fun i hi => hs _ (lw_sc3 _ (List.mem_of_getElem? (i := 8) rfl))) a2 a3 (fun i j hi hj hne => absurd (show i = j by omega) hne) hnA
  exact ⟨K 0, V 0, S.1 0 (by decide), u 0 (by decide)⟩
set_option maxHeartbeats 4000000 in
set_option maxRecDepth 100000 in
theorem lw_st23 {s : State} {b : Nat} (hs : ∀ x ∈ flatC (Jvm.Cond.and given_1 narrow_1), x.before #[Value.ref b] s = true) (hnA : ∀ a : Nat, a < s.heap.size → ¬ (fun q : Nat => s.heap.size ≤ q) a) : ∃ K V : Nat, (va_O "java/lang/String" K (fun q => s.heap.size ≤ q) s s.heap ∧ va_OF "java/lang/String" "coder" "B" (.int 0) K (fun q => s.heap.size ≤ q) s s.heap ∧ va_OF "java/lang/String" "value" "[B" (.ref V) K (fun q => s.heap.size ≤ q) s s.heap ∧ va_T .byte V (oh_len 23) (fun i => .int (oh_byt 23 i)) (fun q => s.heap.size ≤ q) s s.heap) ∧ (Term.string "OneHeavyLoadModel" 230).eval #[Value.ref b] s none [] s = some (.ref K) := by
  have a1 : ∀ i : Nat, i < 1 → ([4] : List Nat).getD i 0 < 2 ^ 31 := by
    intro i hi
    obtain rfl : i = 0 := by omega
    decide
  have a2 : ∀ i : Nat, i < 1 → (Cond.eq (.length (.field (.string "OneHeavyLoadModel" 230) "java/lang/String" "value" "[B")) (.int (Int32.ofNat (([4] : List Nat).getD i 0)))).before #[Value.ref b] s = true := by
    intro i hi
    obtain rfl : i = 0 := by omega
    exact hs _ (lw_sc3 _ (List.mem_of_getElem? (i := 19) rfl))
  have a3 : ∀ i : Nat, i < 1 → ∀ j : Nat, j < ([4] : List Nat).getD i 0 → (Cond.eq (.elem (.field (.string "OneHeavyLoadModel" 230) "java/lang/String" "value" "[B") (.int (Int32.ofNat j))) (.int (([[107, 105, 110, 100]] : List (List Int32)).getD i [] |>.getD j 0))).before #[Value.ref b] s = true := by
    intro i hi j hj
    obtain rfl : i = 0 := by omega
    have hj : j < 4 := hj
    rcases (show j = 0 ∨ j = 1 ∨ j = 2 ∨ j = 3 by omega) with rfl | rfl | rfl | rfl
    · exact hs _ (lw_sc3 _ (List.mem_of_getElem? (i := 20) rfl))
    · exact hs _ (lw_sc3 _ (List.mem_of_getElem? (i := 21) rfl))
    · exact hs _ (lw_sc3 _ (List.mem_of_getElem? (i := 22) rfl))
    · exact hs _ (lw_sc3 _ (List.mem_of_getElem? (i := 23) rfl))
  obtain ⟨K, V, S, u⟩ := vk_Sof (args := #[Value.ref b]) (s := s) (N := 1) (tm := fun _ => (Term.string "OneHeavyLoadModel" 230)) (len := [4]) (byt := [[107, 105, 110, 100]]) (A := fun q => s.heap.size ≤ q) a1 (fun i hi => hs _ (lw_sc3 _ (List.mem_of_getElem? (i := 16) rfl))) (fun i hi => hs _ (lw_sc3 _ (List.mem_of_getElem? (i := 17) rfl))) (fun i hi => hs _ (lw_sc3 _ (List.mem_of_getElem? (i := 18) rfl))) a2 a3 (fun i j hi hj hne => absurd (show i = j by omega) hne) hnA
  exact ⟨K 0, V 0, S.1 0 (by decide), u 0 (by decide)⟩
set_option maxHeartbeats 4000000 in
set_option maxRecDepth 100000 in
theorem lw_st24 {s : State} {b : Nat} (hs : ∀ x ∈ flatC (Jvm.Cond.and given_1 narrow_1), x.before #[Value.ref b] s = true) (hnA : ∀ a : Nat, a < s.heap.size → ¬ (fun q : Nat => s.heap.size ≤ q) a) : ∃ K V : Nat, (va_O "java/lang/String" K (fun q => s.heap.size ≤ q) s s.heap ∧ va_OF "java/lang/String" "coder" "B" (.int 0) K (fun q => s.heap.size ≤ q) s s.heap ∧ va_OF "java/lang/String" "value" "[B" (.ref V) K (fun q => s.heap.size ≤ q) s s.heap ∧ va_T .byte V (oh_len 24) (fun i => .int (oh_byt 24 i)) (fun q => s.heap.size ≤ q) s s.heap) ∧ (Term.string "OneHeavyLoadModel" 232).eval #[Value.ref b] s none [] s = some (.ref K) := by
  have a1 : ∀ i : Nat, i < 1 → ([4] : List Nat).getD i 0 < 2 ^ 31 := by
    intro i hi
    obtain rfl : i = 0 := by omega
    decide
  have a2 : ∀ i : Nat, i < 1 → (Cond.eq (.length (.field (.string "OneHeavyLoadModel" 232) "java/lang/String" "value" "[B")) (.int (Int32.ofNat (([4] : List Nat).getD i 0)))).before #[Value.ref b] s = true := by
    intro i hi
    obtain rfl : i = 0 := by omega
    exact hs _ (lw_sc3 _ (List.mem_of_getElem? (i := 27) rfl))
  have a3 : ∀ i : Nat, i < 1 → ∀ j : Nat, j < ([4] : List Nat).getD i 0 → (Cond.eq (.elem (.field (.string "OneHeavyLoadModel" 232) "java/lang/String" "value" "[B") (.int (Int32.ofNat j))) (.int (([[115, 112, 97, 110]] : List (List Int32)).getD i [] |>.getD j 0))).before #[Value.ref b] s = true := by
    intro i hi j hj
    obtain rfl : i = 0 := by omega
    have hj : j < 4 := hj
    rcases (show j = 0 ∨ j = 1 ∨ j = 2 ∨ j = 3 by omega) with rfl | rfl | rfl | rfl
    · exact hs _ (lw_sc3 _ (List.mem_of_getElem? (i := 28) rfl))
    · exact hs _ (lw_sc3 _ (List.mem_of_getElem? (i := 29) rfl))
    · exact hs _ (lw_sc3 _ (List.mem_of_getElem? (i := 30) rfl))
    · exact hs _ (lw_sc3 _ (List.mem_of_getElem? (i := 31) rfl))
  obtain ⟨K, V, S, u⟩ := vk_Sof (args := #[Value.ref b]) (s := s) (N := 1) (tm := fun _ => (Term.string "OneHeavyLoadModel" 232)) (len := [4]) (byt := [[115, 112, 97, 110]]) (A := fun q => s.heap.size ≤ q) a1 (fun i hi => hs _ (lw_sc3 _ (List.mem_of_getElem? (i := 24) rfl))) (fun i hi => hs _ (lw_sc3 _ (List.mem_of_getElem? (i := 25) rfl))) (fun i hi => hs _ (lw_sc3 _ (List.mem_of_getElem? (i := 26) rfl))) a2 a3 (fun i j hi hj hne => absurd (show i = j by omega) hne) hnA
  exact ⟨K 0, V 0, S.1 0 (by decide), u 0 (by decide)⟩
set_option maxHeartbeats 4000000 in
set_option maxRecDepth 100000 in
theorem lw_st25 {s : State} {b : Nat} (hs : ∀ x ∈ flatC (Jvm.Cond.and given_1 narrow_1), x.before #[Value.ref b] s = true) (hnA : ∀ a : Nat, a < s.heap.size → ¬ (fun q : Nat => s.heap.size ≤ q) a) : ∃ K V : Nat, (va_O "java/lang/String" K (fun q => s.heap.size ≤ q) s s.heap ∧ va_OF "java/lang/String" "coder" "B" (.int 0) K (fun q => s.heap.size ≤ q) s s.heap ∧ va_OF "java/lang/String" "value" "[B" (.ref V) K (fun q => s.heap.size ≤ q) s s.heap ∧ va_T .byte V (oh_len 25) (fun i => .int (oh_byt 25 i)) (fun q => s.heap.size ≤ q) s s.heap) ∧ (Term.string "OneHeavyLoadModel" 234).eval #[Value.ref b] s none [] s = some (.ref K) := by
  have a1 : ∀ i : Nat, i < 1 → ([4] : List Nat).getD i 0 < 2 ^ 31 := by
    intro i hi
    obtain rfl : i = 0 := by omega
    decide
  have a2 : ∀ i : Nat, i < 1 → (Cond.eq (.length (.field (.string "OneHeavyLoadModel" 234) "java/lang/String" "value" "[B")) (.int (Int32.ofNat (([4] : List Nat).getD i 0)))).before #[Value.ref b] s = true := by
    intro i hi
    obtain rfl : i = 0 := by omega
    exact hs _ (lw_sc3 _ (List.mem_of_getElem? (i := 35) rfl))
  have a3 : ∀ i : Nat, i < 1 → ∀ j : Nat, j < ([4] : List Nat).getD i 0 → (Cond.eq (.elem (.field (.string "OneHeavyLoadModel" 234) "java/lang/String" "value" "[B") (.int (Int32.ofNat j))) (.int (([[97, 120, 108, 101]] : List (List Int32)).getD i [] |>.getD j 0))).before #[Value.ref b] s = true := by
    intro i hi j hj
    obtain rfl : i = 0 := by omega
    have hj : j < 4 := hj
    rcases (show j = 0 ∨ j = 1 ∨ j = 2 ∨ j = 3 by omega) with rfl | rfl | rfl | rfl
    · exact hs _ (lw_sc3 _ (List.mem_of_getElem? (i := 36) rfl))
    · exact hs _ (lw_sc3 _ (List.mem_of_getElem? (i := 37) rfl))
    · exact hs _ (lw_sc3 _ (List.mem_of_getElem? (i := 38) rfl))
    · exact hs _ (lw_sc3 _ (List.mem_of_getElem? (i := 39) rfl))
  obtain ⟨K, V, S, u⟩ := vk_Sof (args := #[Value.ref b]) (s := s) (N := 1) (tm := fun _ => (Term.string "OneHeavyLoadModel" 234)) (len := [4]) (byt := [[97, 120, 108, 101]]) (A := fun q => s.heap.size ≤ q) a1 (fun i hi => hs _ (lw_sc3 _ (List.mem_of_getElem? (i := 32) rfl))) (fun i hi => hs _ (lw_sc3 _ (List.mem_of_getElem? (i := 33) rfl))) (fun i hi => hs _ (lw_sc3 _ (List.mem_of_getElem? (i := 34) rfl))) a2 a3 (fun i j hi hj hne => absurd (show i = j by omega) hne) hnA
  exact ⟨K 0, V 0, S.1 0 (by decide), u 0 (by decide)⟩
set_option maxHeartbeats 4000000 in
set_option maxRecDepth 100000 in
theorem lw_st26 {s : State} {b : Nat} (hs : ∀ x ∈ flatC (Jvm.Cond.and given_1 narrow_1), x.before #[Value.ref b] s = true) (hnA : ∀ a : Nat, a < s.heap.size → ¬ (fun q : Nat => s.heap.size ≤ q) a) : ∃ K V : Nat, (va_O "java/lang/String" K (fun q => s.heap.size ≤ q) s s.heap ∧ va_OF "java/lang/String" "coder" "B" (.int 0) K (fun q => s.heap.size ≤ q) s s.heap ∧ va_OF "java/lang/String" "value" "[B" (.ref V) K (fun q => s.heap.size ≤ q) s s.heap ∧ va_T .byte V (oh_len 26) (fun i => .int (oh_byt 26 i)) (fun q => s.heap.size ≤ q) s s.heap) ∧ (Term.string "OneHeavyLoadModel" 236).eval #[Value.ref b] s none [] s = some (.ref K) := by
  have a1 : ∀ i : Nat, i < 1 → ([3] : List Nat).getD i 0 < 2 ^ 31 := by
    intro i hi
    obtain rfl : i = 0 := by omega
    decide
  have a2 : ∀ i : Nat, i < 1 → (Cond.eq (.length (.field (.string "OneHeavyLoadModel" 236) "java/lang/String" "value" "[B")) (.int (Int32.ofNat (([3] : List Nat).getD i 0)))).before #[Value.ref b] s = true := by
    intro i hi
    obtain rfl : i = 0 := by omega
    exact hs _ (lw_sc3 _ (List.mem_of_getElem? (i := 43) rfl))
  have a3 : ∀ i : Nat, i < 1 → ∀ j : Nat, j < ([3] : List Nat).getD i 0 → (Cond.eq (.elem (.field (.string "OneHeavyLoadModel" 236) "java/lang/String" "value" "[B") (.int (Int32.ofNat j))) (.int (([[97, 108, 108]] : List (List Int32)).getD i [] |>.getD j 0))).before #[Value.ref b] s = true := by
    intro i hi j hj
    obtain rfl : i = 0 := by omega
    have hj : j < 3 := hj
    rcases (show j = 0 ∨ j = 1 ∨ j = 2 by omega) with rfl | rfl | rfl
    · exact hs _ (lw_sc3 _ (List.mem_of_getElem? (i := 44) rfl))
    · exact hs _ (lw_sc3 _ (List.mem_of_getElem? (i := 45) rfl))
    · exact hs _ (lw_sc3 _ (List.mem_of_getElem? (i := 46) rfl))
  obtain ⟨K, V, S, u⟩ := vk_Sof (args := #[Value.ref b]) (s := s) (N := 1) (tm := fun _ => (Term.string "OneHeavyLoadModel" 236)) (len := [3]) (byt := [[97, 108, 108]]) (A := fun q => s.heap.size ≤ q) a1 (fun i hi => hs _ (lw_sc3 _ (List.mem_of_getElem? (i := 40) rfl))) (fun i hi => hs _ (lw_sc3 _ (List.mem_of_getElem? (i := 41) rfl))) (fun i hi => hs _ (lw_sc3 _ (List.mem_of_getElem? (i := 42) rfl))) a2 a3 (fun i j hi hj hne => absurd (show i = j by omega) hne) hnA
  exact ⟨K 0, V 0, S.1 0 (by decide), u 0 (by decide)⟩
set_option maxHeartbeats 4000000 in
set_option maxRecDepth 100000 in
theorem lw_st27 {s : State} {b : Nat} (hs : ∀ x ∈ flatC (Jvm.Cond.and given_1 narrow_1), x.before #[Value.ref b] s = true) (hnA : ∀ a : Nat, a < s.heap.size → ¬ (fun q : Nat => s.heap.size ≤ q) a) : ∃ K V : Nat, (va_O "java/lang/String" K (fun q => s.heap.size ≤ q) s s.heap ∧ va_OF "java/lang/String" "coder" "B" (.int 0) K (fun q => s.heap.size ≤ q) s s.heap ∧ va_OF "java/lang/String" "value" "[B" (.ref V) K (fun q => s.heap.size ≤ q) s s.heap ∧ va_T .byte V (oh_len 27) (fun i => .int (oh_byt 27 i)) (fun q => s.heap.size ≤ q) s s.heap) ∧ (Term.string "OneHeavyLoadModel" 238).eval #[Value.ref b] s none [] s = some (.ref K) := by
  have a1 : ∀ i : Nat, i < 1 → ([4] : List Nat).getD i 0 < 2 ^ 31 := by
    intro i hi
    obtain rfl : i = 0 := by omega
    decide
  have a2 : ∀ i : Nat, i < 1 → (Cond.eq (.length (.field (.string "OneHeavyLoadModel" 238) "java/lang/String" "value" "[B")) (.int (Int32.ofNat (([4] : List Nat).getD i 0)))).before #[Value.ref b] s = true := by
    intro i hi
    obtain rfl : i = 0 := by omega
    exact hs _ (lw_sc3 _ (List.mem_of_getElem? (i := 50) rfl))
  have a3 : ∀ i : Nat, i < 1 → ∀ j : Nat, j < ([4] : List Nat).getD i 0 → (Cond.eq (.elem (.field (.string "OneHeavyLoadModel" 238) "java/lang/String" "value" "[B") (.int (Int32.ofNat j))) (.int (([[112, 114, 111, 112]] : List (List Int32)).getD i [] |>.getD j 0))).before #[Value.ref b] s = true := by
    intro i hi j hj
    obtain rfl : i = 0 := by omega
    have hj : j < 4 := hj
    rcases (show j = 0 ∨ j = 1 ∨ j = 2 ∨ j = 3 by omega) with rfl | rfl | rfl | rfl
    · exact hs _ (lw_sc3 _ (List.mem_of_getElem? (i := 51) rfl))
    · exact hs _ (lw_sc3 _ (List.mem_of_getElem? (i := 52) rfl))
    · exact hs _ (lw_sc3 _ (List.mem_of_getElem? (i := 53) rfl))
    · exact hs _ (lw_sc3 _ (List.mem_of_getElem? (i := 54) rfl))
  obtain ⟨K, V, S, u⟩ := vk_Sof (args := #[Value.ref b]) (s := s) (N := 1) (tm := fun _ => (Term.string "OneHeavyLoadModel" 238)) (len := [4]) (byt := [[112, 114, 111, 112]]) (A := fun q => s.heap.size ≤ q) a1 (fun i hi => hs _ (lw_sc3 _ (List.mem_of_getElem? (i := 47) rfl))) (fun i hi => hs _ (lw_sc3 _ (List.mem_of_getElem? (i := 48) rfl))) (fun i hi => hs _ (lw_sc3 _ (List.mem_of_getElem? (i := 49) rfl))) a2 a3 (fun i j hi hj hne => absurd (show i = j by omega) hne) hnA
  exact ⟨K 0, V 0, S.1 0 (by decide), u 0 (by decide)⟩
set_option maxHeartbeats 4000000 in
set_option maxRecDepth 100000 in
theorem lw_st28 {s : State} {b : Nat} (hs : ∀ x ∈ flatC (Jvm.Cond.and given_1 narrow_1), x.before #[Value.ref b] s = true) (hnA : ∀ a : Nat, a < s.heap.size → ¬ (fun q : Nat => s.heap.size ≤ q) a) : ∃ K V : Nat, (va_O "java/lang/String" K (fun q => s.heap.size ≤ q) s s.heap ∧ va_OF "java/lang/String" "coder" "B" (.int 0) K (fun q => s.heap.size ≤ q) s s.heap ∧ va_OF "java/lang/String" "value" "[B" (.ref V) K (fun q => s.heap.size ≤ q) s s.heap ∧ va_T .byte V (oh_len 28) (fun i => .int (oh_byt 28 i)) (fun q => s.heap.size ≤ q) s s.heap) ∧ (Term.string "OneHeavyLoadModel" 209).eval #[Value.ref b] s none [] s = some (.ref K) := by
  have a1 : ∀ i : Nat, i < 1 → ([6] : List Nat).getD i 0 < 2 ^ 31 := by
    intro i hi
    obtain rfl : i = 0 := by omega
    decide
  have a2 : ∀ i : Nat, i < 1 → (Cond.eq (.length (.field (.string "OneHeavyLoadModel" 209) "java/lang/String" "value" "[B")) (.int (Int32.ofNat (([6] : List Nat).getD i 0)))).before #[Value.ref b] s = true := by
    intro i hi
    obtain rfl : i = 0 := by omega
    exact hs _ (lw_sc3 _ (List.mem_of_getElem? (i := 58) rfl))
  have a3 : ∀ i : Nat, i < 1 → ∀ j : Nat, j < ([6] : List Nat).getD i 0 → (Cond.eq (.elem (.field (.string "OneHeavyLoadModel" 209) "java/lang/String" "value" "[B") (.int (Int32.ofNat j))) (.int (([[119, 97, 103, 103, 111, 110]] : List (List Int32)).getD i [] |>.getD j 0))).before #[Value.ref b] s = true := by
    intro i hi j hj
    obtain rfl : i = 0 := by omega
    have hj : j < 6 := hj
    rcases (show j = 0 ∨ j = 1 ∨ j = 2 ∨ j = 3 ∨ j = 4 ∨ j = 5 by omega) with rfl | rfl | rfl | rfl | rfl | rfl
    · exact hs _ (lw_sc3 _ (List.mem_of_getElem? (i := 59) rfl))
    · exact hs _ (lw_sc4 _ (List.mem_of_getElem? (i := 0) rfl))
    · exact hs _ (lw_sc4 _ (List.mem_of_getElem? (i := 1) rfl))
    · exact hs _ (lw_sc4 _ (List.mem_of_getElem? (i := 2) rfl))
    · exact hs _ (lw_sc4 _ (List.mem_of_getElem? (i := 3) rfl))
    · exact hs _ (lw_sc4 _ (List.mem_of_getElem? (i := 4) rfl))
  obtain ⟨K, V, S, u⟩ := vk_Sof (args := #[Value.ref b]) (s := s) (N := 1) (tm := fun _ => (Term.string "OneHeavyLoadModel" 209)) (len := [6]) (byt := [[119, 97, 103, 103, 111, 110]]) (A := fun q => s.heap.size ≤ q) a1 (fun i hi => hs _ (lw_sc3 _ (List.mem_of_getElem? (i := 55) rfl))) (fun i hi => hs _ (lw_sc3 _ (List.mem_of_getElem? (i := 56) rfl))) (fun i hi => hs _ (lw_sc3 _ (List.mem_of_getElem? (i := 57) rfl))) a2 a3 (fun i j hi hj hne => absurd (show i = j by omega) hne) hnA
  exact ⟨K 0, V 0, S.1 0 (by decide), u 0 (by decide)⟩
set_option maxHeartbeats 4000000 in
set_option maxRecDepth 100000 in
theorem lw_st29 {s : State} {b : Nat} (hs : ∀ x ∈ flatC (Jvm.Cond.and given_1 narrow_1), x.before #[Value.ref b] s = true) (hnA : ∀ a : Nat, a < s.heap.size → ¬ (fun q : Nat => s.heap.size ≤ q) a) : ∃ K V : Nat, (va_O "java/lang/String" K (fun q => s.heap.size ≤ q) s s.heap ∧ va_OF "java/lang/String" "coder" "B" (.int 0) K (fun q => s.heap.size ≤ q) s s.heap ∧ va_OF "java/lang/String" "value" "[B" (.ref V) K (fun q => s.heap.size ≤ q) s s.heap ∧ va_T .byte V (oh_len 29) (fun i => .int (oh_byt 29 i)) (fun q => s.heap.size ≤ q) s s.heap) ∧ (Term.string "OneHeavyLoadModel" 210).eval #[Value.ref b] s none [] s = some (.ref K) := by
  have a1 : ∀ i : Nat, i < 1 → ([5] : List Nat).getD i 0 < 2 ^ 31 := by
    intro i hi
    obtain rfl : i = 0 := by omega
    decide
  have a2 : ∀ i : Nat, i < 1 → (Cond.eq (.length (.field (.string "OneHeavyLoadModel" 210) "java/lang/String" "value" "[B")) (.int (Int32.ofNat (([5] : List Nat).getD i 0)))).before #[Value.ref b] s = true := by
    intro i hi
    obtain rfl : i = 0 := by omega
    exact hs _ (lw_sc4 _ (List.mem_of_getElem? (i := 8) rfl))
  have a3 : ∀ i : Nat, i < 1 → ∀ j : Nat, j < ([5] : List Nat).getD i 0 → (Cond.eq (.elem (.field (.string "OneHeavyLoadModel" 210) "java/lang/String" "value" "[B") (.int (Int32.ofNat j))) (.int (([[115, 112, 97, 99, 101]] : List (List Int32)).getD i [] |>.getD j 0))).before #[Value.ref b] s = true := by
    intro i hi j hj
    obtain rfl : i = 0 := by omega
    have hj : j < 5 := hj
    rcases (show j = 0 ∨ j = 1 ∨ j = 2 ∨ j = 3 ∨ j = 4 by omega) with rfl | rfl | rfl | rfl | rfl
    · exact hs _ (lw_sc4 _ (List.mem_of_getElem? (i := 9) rfl))
    · exact hs _ (lw_sc4 _ (List.mem_of_getElem? (i := 10) rfl))
    · exact hs _ (lw_sc4 _ (List.mem_of_getElem? (i := 11) rfl))
    · exact hs _ (lw_sc4 _ (List.mem_of_getElem? (i := 12) rfl))
    · exact hs _ (lw_sc4 _ (List.mem_of_getElem? (i := 13) rfl))
  obtain ⟨K, V, S, u⟩ := vk_Sof (args := #[Value.ref b]) (s := s) (N := 1) (tm := fun _ => (Term.string "OneHeavyLoadModel" 210)) (len := [5]) (byt := [[115, 112, 97, 99, 101]]) (A := fun q => s.heap.size ≤ q) a1 (fun i hi => hs _ (lw_sc4 _ (List.mem_of_getElem? (i := 5) rfl))) (fun i hi => hs _ (lw_sc4 _ (List.mem_of_getElem? (i := 6) rfl))) (fun i hi => hs _ (lw_sc4 _ (List.mem_of_getElem? (i := 7) rfl))) a2 a3 (fun i j hi hj hne => absurd (show i = j by omega) hne) hnA
  exact ⟨K 0, V 0, S.1 0 (by decide), u 0 (by decide)⟩
set_option maxHeartbeats 4000000 in
set_option maxRecDepth 100000 in
theorem lw_st30 {s : State} {b : Nat} (hs : ∀ x ∈ flatC (Jvm.Cond.and given_1 narrow_1), x.before #[Value.ref b] s = true) (hnA : ∀ a : Nat, a < s.heap.size → ¬ (fun q : Nat => s.heap.size ≤ q) a) : ∃ K V : Nat, (va_O "java/lang/String" K (fun q => s.heap.size ≤ q) s s.heap ∧ va_OF "java/lang/String" "coder" "B" (.int 0) K (fun q => s.heap.size ≤ q) s s.heap ∧ va_OF "java/lang/String" "value" "[B" (.ref V) K (fun q => s.heap.size ≤ q) s s.heap ∧ va_T .byte V (oh_len 30) (fun i => .int (oh_byt 30 i)) (fun q => s.heap.size ≤ q) s s.heap) ∧ (Term.string "OneHeavyLoadModel" 212).eval #[Value.ref b] s none [] s = some (.ref K) := by
  have a1 : ∀ i : Nat, i < 1 → ([4] : List Nat).getD i 0 < 2 ^ 31 := by
    intro i hi
    obtain rfl : i = 0 := by omega
    decide
  have a2 : ∀ i : Nat, i < 1 → (Cond.eq (.length (.field (.string "OneHeavyLoadModel" 212) "java/lang/String" "value" "[B")) (.int (Int32.ofNat (([4] : List Nat).getD i 0)))).before #[Value.ref b] s = true := by
    intro i hi
    obtain rfl : i = 0 := by omega
    exact hs _ (lw_sc4 _ (List.mem_of_getElem? (i := 17) rfl))
  have a3 : ∀ i : Nat, i < 1 → ∀ j : Nat, j < ([4] : List Nat).getD i 0 → (Cond.eq (.elem (.field (.string "OneHeavyLoadModel" 212) "java/lang/String" "value" "[B") (.int (Int32.ofNat j))) (.int (([[116, 97, 114, 101]] : List (List Int32)).getD i [] |>.getD j 0))).before #[Value.ref b] s = true := by
    intro i hi j hj
    obtain rfl : i = 0 := by omega
    have hj : j < 4 := hj
    rcases (show j = 0 ∨ j = 1 ∨ j = 2 ∨ j = 3 by omega) with rfl | rfl | rfl | rfl
    · exact hs _ (lw_sc4 _ (List.mem_of_getElem? (i := 18) rfl))
    · exact hs _ (lw_sc4 _ (List.mem_of_getElem? (i := 19) rfl))
    · exact hs _ (lw_sc4 _ (List.mem_of_getElem? (i := 20) rfl))
    · exact hs _ (lw_sc4 _ (List.mem_of_getElem? (i := 21) rfl))
  obtain ⟨K, V, S, u⟩ := vk_Sof (args := #[Value.ref b]) (s := s) (N := 1) (tm := fun _ => (Term.string "OneHeavyLoadModel" 212)) (len := [4]) (byt := [[116, 97, 114, 101]]) (A := fun q => s.heap.size ≤ q) a1 (fun i hi => hs _ (lw_sc4 _ (List.mem_of_getElem? (i := 14) rfl))) (fun i hi => hs _ (lw_sc4 _ (List.mem_of_getElem? (i := 15) rfl))) (fun i hi => hs _ (lw_sc4 _ (List.mem_of_getElem? (i := 16) rfl))) a2 a3 (fun i j hi hj hne => absurd (show i = j by omega) hne) hnA
  exact ⟨K 0, V 0, S.1 0 (by decide), u 0 (by decide)⟩
set_option maxHeartbeats 4000000 in
set_option maxRecDepth 100000 in
theorem lw_st31 {s : State} {b : Nat} (hs : ∀ x ∈ flatC (Jvm.Cond.and given_1 narrow_1), x.before #[Value.ref b] s = true) (hnA : ∀ a : Nat, a < s.heap.size → ¬ (fun q : Nat => s.heap.size ≤ q) a) : ∃ K V : Nat, (va_O "java/lang/String" K (fun q => s.heap.size ≤ q) s s.heap ∧ va_OF "java/lang/String" "coder" "B" (.int 0) K (fun q => s.heap.size ≤ q) s s.heap ∧ va_OF "java/lang/String" "value" "[B" (.ref V) K (fun q => s.heap.size ≤ q) s s.heap ∧ va_T .byte V (oh_len 31) (fun i => .int (oh_byt 31 i)) (fun q => s.heap.size ≤ q) s s.heap) ∧ (Term.string "OneHeavyLoadModel" 214).eval #[Value.ref b] s none [] s = some (.ref K) := by
  have a1 : ∀ i : Nat, i < 1 → ([4] : List Nat).getD i 0 < 2 ^ 31 := by
    intro i hi
    obtain rfl : i = 0 := by omega
    decide
  have a2 : ∀ i : Nat, i < 1 → (Cond.eq (.length (.field (.string "OneHeavyLoadModel" 214) "java/lang/String" "value" "[B")) (.int (Int32.ofNat (([4] : List Nat).getD i 0)))).before #[Value.ref b] s = true := by
    intro i hi
    obtain rfl : i = 0 := by omega
    exact hs _ (lw_sc4 _ (List.mem_of_getElem? (i := 25) rfl))
  have a3 : ∀ i : Nat, i < 1 → ∀ j : Nat, j < ([4] : List Nat).getD i 0 → (Cond.eq (.elem (.field (.string "OneHeavyLoadModel" 214) "java/lang/String" "value" "[B") (.int (Int32.ofNat j))) (.int (([[112, 97, 114, 116]] : List (List Int32)).getD i [] |>.getD j 0))).before #[Value.ref b] s = true := by
    intro i hi j hj
    obtain rfl : i = 0 := by omega
    have hj : j < 4 := hj
    rcases (show j = 0 ∨ j = 1 ∨ j = 2 ∨ j = 3 by omega) with rfl | rfl | rfl | rfl
    · exact hs _ (lw_sc4 _ (List.mem_of_getElem? (i := 26) rfl))
    · exact hs _ (lw_sc4 _ (List.mem_of_getElem? (i := 27) rfl))
    · exact hs _ (lw_sc4 _ (List.mem_of_getElem? (i := 28) rfl))
    · exact hs _ (lw_sc4 _ (List.mem_of_getElem? (i := 29) rfl))
  obtain ⟨K, V, S, u⟩ := vk_Sof (args := #[Value.ref b]) (s := s) (N := 1) (tm := fun _ => (Term.string "OneHeavyLoadModel" 214)) (len := [4]) (byt := [[112, 97, 114, 116]]) (A := fun q => s.heap.size ≤ q) a1 (fun i hi => hs _ (lw_sc4 _ (List.mem_of_getElem? (i := 22) rfl))) (fun i hi => hs _ (lw_sc4 _ (List.mem_of_getElem? (i := 23) rfl))) (fun i hi => hs _ (lw_sc4 _ (List.mem_of_getElem? (i := 24) rfl))) a2 a3 (fun i j hi hj hne => absurd (show i = j by omega) hne) hnA
  exact ⟨K 0, V 0, S.1 0 (by decide), u 0 (by decide)⟩
set_option maxHeartbeats 4000000 in
set_option maxRecDepth 100000 in
theorem lw_st32 {s : State} {b : Nat} (hs : ∀ x ∈ flatC (Jvm.Cond.and given_1 narrow_1), x.before #[Value.ref b] s = true) (hnA : ∀ a : Nat, a < s.heap.size → ¬ (fun q : Nat => s.heap.size ≤ q) a) : ∃ K V : Nat, (va_O "java/lang/String" K (fun q => s.heap.size ≤ q) s s.heap ∧ va_OF "java/lang/String" "coder" "B" (.int 0) K (fun q => s.heap.size ≤ q) s s.heap ∧ va_OF "java/lang/String" "value" "[B" (.ref V) K (fun q => s.heap.size ≤ q) s s.heap ∧ va_T .byte V (oh_len 32) (fun i => .int (oh_byt 32 i)) (fun q => s.heap.size ≤ q) s s.heap) ∧ (Term.string "OneHeavyLoadModel" 215).eval #[Value.ref b] s none [] s = some (.ref K) := by
  have a1 : ∀ i : Nat, i < 1 → ([4] : List Nat).getD i 0 < 2 ^ 31 := by
    intro i hi
    obtain rfl : i = 0 := by omega
    decide
  have a2 : ∀ i : Nat, i < 1 → (Cond.eq (.length (.field (.string "OneHeavyLoadModel" 215) "java/lang/String" "value" "[B")) (.int (Int32.ofNat (([4] : List Nat).getD i 0)))).before #[Value.ref b] s = true := by
    intro i hi
    obtain rfl : i = 0 := by omega
    exact hs _ (lw_sc4 _ (List.mem_of_getElem? (i := 33) rfl))
  have a3 : ∀ i : Nat, i < 1 → ∀ j : Nat, j < ([4] : List Nat).getD i 0 → (Cond.eq (.elem (.field (.string "OneHeavyLoadModel" 215) "java/lang/String" "value" "[B") (.int (Int32.ofNat j))) (.int (([[108, 111, 97, 100]] : List (List Int32)).getD i [] |>.getD j 0))).before #[Value.ref b] s = true := by
    intro i hi j hj
    obtain rfl : i = 0 := by omega
    have hj : j < 4 := hj
    rcases (show j = 0 ∨ j = 1 ∨ j = 2 ∨ j = 3 by omega) with rfl | rfl | rfl | rfl
    · exact hs _ (lw_sc4 _ (List.mem_of_getElem? (i := 34) rfl))
    · exact hs _ (lw_sc4 _ (List.mem_of_getElem? (i := 35) rfl))
    · exact hs _ (lw_sc4 _ (List.mem_of_getElem? (i := 36) rfl))
    · exact hs _ (lw_sc4 _ (List.mem_of_getElem? (i := 37) rfl))
  obtain ⟨K, V, S, u⟩ := vk_Sof (args := #[Value.ref b]) (s := s) (N := 1) (tm := fun _ => (Term.string "OneHeavyLoadModel" 215)) (len := [4]) (byt := [[108, 111, 97, 100]]) (A := fun q => s.heap.size ≤ q) a1 (fun i hi => hs _ (lw_sc4 _ (List.mem_of_getElem? (i := 30) rfl))) (fun i hi => hs _ (lw_sc4 _ (List.mem_of_getElem? (i := 31) rfl))) (fun i hi => hs _ (lw_sc4 _ (List.mem_of_getElem? (i := 32) rfl))) a2 a3 (fun i j hi hj hne => absurd (show i = j by omega) hne) hnA
  exact ⟨K 0, V 0, S.1 0 (by decide), u 0 (by decide)⟩
set_option maxHeartbeats 4000000 in
set_option maxRecDepth 100000 in
theorem lw_st33 {s : State} {b : Nat} (hs : ∀ x ∈ flatC (Jvm.Cond.and given_1 narrow_1), x.before #[Value.ref b] s = true) (hnA : ∀ a : Nat, a < s.heap.size → ¬ (fun q : Nat => s.heap.size ≤ q) a) : ∃ K V : Nat, (va_O "java/lang/String" K (fun q => s.heap.size ≤ q) s s.heap ∧ va_OF "java/lang/String" "coder" "B" (.int 0) K (fun q => s.heap.size ≤ q) s s.heap ∧ va_OF "java/lang/String" "value" "[B" (.ref V) K (fun q => s.heap.size ≤ q) s s.heap ∧ va_T .byte V (oh_len 33) (fun i => .int (oh_byt 33 i)) (fun q => s.heap.size ≤ q) s s.heap) ∧ (Term.string "OneHeavyLoadModel" 217).eval #[Value.ref b] s none [] s = some (.ref K) := by
  have a1 : ∀ i : Nat, i < 1 → ([4] : List Nat).getD i 0 < 2 ^ 31 := by
    intro i hi
    obtain rfl : i = 0 := by omega
    decide
  have a2 : ∀ i : Nat, i < 1 → (Cond.eq (.length (.field (.string "OneHeavyLoadModel" 217) "java/lang/String" "value" "[B")) (.int (Int32.ofNat (([4] : List Nat).getD i 0)))).before #[Value.ref b] s = true := by
    intro i hi
    obtain rfl : i = 0 := by omega
    exact hs _ (lw_sc4 _ (List.mem_of_getElem? (i := 41) rfl))
  have a3 : ∀ i : Nat, i < 1 → ∀ j : Nat, j < ([4] : List Nat).getD i 0 → (Cond.eq (.elem (.field (.string "OneHeavyLoadModel" 217) "java/lang/String" "value" "[B") (.int (Int32.ofNat j))) (.int (([[109, 105, 108, 101]] : List (List Int32)).getD i [] |>.getD j 0))).before #[Value.ref b] s = true := by
    intro i hi j hj
    obtain rfl : i = 0 := by omega
    have hj : j < 4 := hj
    rcases (show j = 0 ∨ j = 1 ∨ j = 2 ∨ j = 3 by omega) with rfl | rfl | rfl | rfl
    · exact hs _ (lw_sc4 _ (List.mem_of_getElem? (i := 42) rfl))
    · exact hs _ (lw_sc4 _ (List.mem_of_getElem? (i := 43) rfl))
    · exact hs _ (lw_sc4 _ (List.mem_of_getElem? (i := 44) rfl))
    · exact hs _ (lw_sc4 _ (List.mem_of_getElem? (i := 45) rfl))
  obtain ⟨K, V, S, u⟩ := vk_Sof (args := #[Value.ref b]) (s := s) (N := 1) (tm := fun _ => (Term.string "OneHeavyLoadModel" 217)) (len := [4]) (byt := [[109, 105, 108, 101]]) (A := fun q => s.heap.size ≤ q) a1 (fun i hi => hs _ (lw_sc4 _ (List.mem_of_getElem? (i := 38) rfl))) (fun i hi => hs _ (lw_sc4 _ (List.mem_of_getElem? (i := 39) rfl))) (fun i hi => hs _ (lw_sc4 _ (List.mem_of_getElem? (i := 40) rfl))) a2 a3 (fun i j hi hj hne => absurd (show i = j by omega) hne) hnA
  exact ⟨K 0, V 0, S.1 0 (by decide), u 0 (by decide)⟩
set_option maxRecDepth 100000 in
set_option maxHeartbeats 4000000 in
theorem lw_ec0 : ∀ x ∈ ([Cond.arrayOf (Term.static "OneHeavyLoad" "ROOM" "[I") .int, Cond.eq (.length (Term.static "OneHeavyLoad" "ROOM" "[I")) (.int (Int32.ofNat 4)), Cond.eq (.elem (Term.static "OneHeavyLoad" "ROOM" "[I") (.int (Int32.ofNat 0))) (.int 24), Cond.eq (.elem (Term.static "OneHeavyLoad" "ROOM" "[I") (.int (Int32.ofNat 1))) (.int 16), Cond.eq (.elem (Term.static "OneHeavyLoad" "ROOM" "[I") (.int (Int32.ofNat 2))) (.int 5), Cond.eq (.elem (Term.static "OneHeavyLoad" "ROOM" "[I") (.int (Int32.ofNat 3))) (.int 5), Cond.arrayOf (Term.static "OneHeavyLoad" "TAKEN_FOR" "[I") .int, Cond.eq (.length (Term.static "OneHeavyLoad" "TAKEN_FOR" "[I")) (.int (Int32.ofNat 6)), Cond.eq (.elem (Term.static "OneHeavyLoad" "TAKEN_FOR" "[I") (.int (Int32.ofNat 0))) (.int 1), Cond.eq (.elem (Term.static "OneHeavyLoad" "TAKEN_FOR" "[I") (.int (Int32.ofNat 1))) (.int 3), Cond.eq (.elem (Term.static "OneHeavyLoad" "TAKEN_FOR" "[I") (.int (Int32.ofNat 2))) (.int 7), Cond.eq (.elem (Term.static "OneHeavyLoad" "TAKEN_FOR" "[I") (.int (Int32.ofNat 3))) (.int 9), Cond.eq (.elem (Term.static "OneHeavyLoad" "TAKEN_FOR" "[I") (.int (Int32.ofNat 4))) (.int 17), Cond.eq (.elem (Term.static "OneHeavyLoad" "TAKEN_FOR" "[I") (.int (Int32.ofNat 5))) (.int 49), Cond.arrayOf (Term.static "OneHeavyLoad" "MAX_SETTING" "[I") .int, Cond.eq (.length (Term.static "OneHeavyLoad" "MAX_SETTING" "[I")) (.int (Int32.ofNat 3)), Cond.eq (.elem (Term.static "OneHeavyLoad" "MAX_SETTING" "[I") (.int (Int32.ofNat 0))) (.int 900), Cond.eq (.elem (Term.static "OneHeavyLoad" "MAX_SETTING" "[I") (.int (Int32.ofNat 1))) (.int 99), Cond.eq (.elem (Term.static "OneHeavyLoad" "MAX_SETTING" "[I") (.int (Int32.ofNat 2))) (.int 1), Cond.eq (Term.static "java/lang/String" "COMPACT_STRINGS" "Z") (.int 1), Cond.isRef (Term.static "jdk/internal/util/Preconditions" "SIOOBE_FORMATTER" "Ljava/util/function/BiFunction;")] : List Cond), x ∈ flatC (Jvm.Cond.and given_1 narrow_1) := ph_inn (gs := [5, 0, 0, 0, 0, 0, 1, 0, 0, 0, 0, 0, 0, 0, 1, 0, 0, 0, 0, 0, 0]) (by decide +kernel)
set_option maxRecDepth 100000 in
set_option maxHeartbeats 4000000 in
theorem lw_xc0 : ∀ x ∈ ([(Jvm.Cond.fieldLinkNest "OneHeavyLoad$Land" (9 : Nat) "OneHeavyLoad" "ROOM" "[I" "OneHeavyLoad"), (Jvm.Cond.laysStatic "OneHeavyLoad" "ROOM" "[I"), (Jvm.Cond.methodLinkNest "OneHeavyLoad$Ways" (17 : Nat) ({ cls := "OneHeavyLoad$Pack", name := "<init>", desc := "()V" } : Jvm.MethodName) "OneHeavyLoad"), (Jvm.Cond.fieldLinkNest "OneHeavyLoad$Ways" (22 : Nat) "OneHeavyLoad" "ROOM" "[I" "OneHeavyLoad"), (Jvm.Cond.fieldLinkNest "OneHeavyLoad$Reader" (19 : Nat) "OneHeavyLoad" "ROOM" "[I" "OneHeavyLoad"), (Jvm.Cond.methodLinkNest "OneHeavyLoad$Shelves" (36 : Nat) ({ cls := "OneHeavyLoad", name := "within", desc := "(III)Z" } : Jvm.MethodName) "OneHeavyLoad"), (Jvm.Cond.fieldLinkNest "OneHeavyLoad$Land" (57 : Nat) "OneHeavyLoad" "TAKEN_FOR" "[I" "OneHeavyLoad"), (Jvm.Cond.laysStatic "OneHeavyLoad" "TAKEN_FOR" "[I"), (Jvm.Cond.laysStatic "OneHeavyLoad" "MAX_SETTING" "[I"), (Jvm.Cond.stringRef "OneHeavyLoad$Reader" (61 : Nat) "road"), (Jvm.Cond.laysStatic "java/lang/String" "COMPACT_STRINGS" "Z"), (Jvm.Cond.laysStatic "jdk/internal/util/Preconditions" "SIOOBE_FORMATTER" "Ljava/util/function/BiFunction;"), (Jvm.Cond.methodLinkNest "OneHeavyLoad$Tape" (58 : Nat) ({ cls := "OneHeavyLoad", name := "within", desc := "(III)Z" } : Jvm.MethodName) "OneHeavyLoad"), (Jvm.Cond.stringRef "OneHeavyLoad$Reader" (117 : Nat) "miles"), (Jvm.Cond.stringRef "OneHeavyLoad$Reader" (123 : Nat) "rise"), (Jvm.Cond.stringRef "OneHeavyLoad$Reader" (129 : Nat) "turn"), (Jvm.Cond.stringRef "OneHeavyLoad$Reader" (131 : Nat) "parish"), (Jvm.Cond.stringRef "OneHeavyLoad$Reader" (70 : Nat) "bridge"), (Jvm.Cond.stringRef "OneHeavyLoad$Reader" (137 : Nat) "kind"), (Jvm.Cond.stringRef "OneHeavyLoad$Reader" (139 : Nat) "span"), (Jvm.Cond.stringRef "OneHeavyLoad$Reader" (141 : Nat) "axle"), (Jvm.Cond.stringRef "OneHeavyLoad$Reader" (143 : Nat) "all"), (Jvm.Cond.stringRef "OneHeavyLoad$Reader" (145 : Nat) "prop"), (Jvm.Cond.stringRef "OneHeavyLoad$Reader" (75 : Nat) "waggon"), (Jvm.Cond.stringRef "OneHeavyLoad$Reader" (155 : Nat) "space"), (Jvm.Cond.stringRef "OneHeavyLoad$Reader" (157 : Nat) "tare"), (Jvm.Cond.stringRef "OneHeavyLoad$Reader" (80 : Nat) "part"), (Jvm.Cond.stringRef "OneHeavyLoad$Reader" (85 : Nat) "load"), (Jvm.Cond.fieldLinkNest "OneHeavyLoad$Reader" (166 : Nat) "OneHeavyLoad" "MAX_SETTING" "[I" "OneHeavyLoad"), (Jvm.Cond.stringRef "OneHeavyLoad$Reader" (94 : Nat) "mile"), (Jvm.Cond.methodLinkNest "OneHeavyLoad$Pack" (43 : Nat) ({ cls := "OneHeavyLoad", name := "roundedUp", desc := "(II)I" } : Jvm.MethodName) "OneHeavyLoad"), (Jvm.Cond.methodLinkNest "OneHeavyLoad$Pack" (52 : Nat) ({ cls := "OneHeavyLoad", name := "cut", desc := "(II)I" } : Jvm.MethodName) "OneHeavyLoad"), (Jvm.Cond.methodLinkNest "OneHeavyLoad$Ways" (75 : Nat) ({ cls := "OneHeavyLoad", name := "roundedUp", desc := "(II)I" } : Jvm.MethodName) "OneHeavyLoad"), (Jvm.Cond.arrayOver (Jvm.ClassFile.FieldType.array Jvm.ClassFile.FieldType.long)), (Jvm.Cond.arrayOver (Jvm.ClassFile.FieldType.array Jvm.ClassFile.FieldType.int)), (Jvm.Cond.stringRef "OneHeavyLoadModel" (200 : Nat) "road"), (Jvm.Cond.stringRef "OneHeavyLoadModel" (219 : Nat) "miles"), (Jvm.Cond.stringRef "OneHeavyLoadModel" (221 : Nat) "rise"), (Jvm.Cond.stringRef "OneHeavyLoadModel" (226 : Nat) "turn"), (Jvm.Cond.stringRef "OneHeavyLoadModel" (228 : Nat) "parish"), (Jvm.Cond.stringRef "OneHeavyLoadModel" (205 : Nat) "bridge"), (Jvm.Cond.stringRef "OneHeavyLoadModel" (230 : Nat) "kind"), (Jvm.Cond.stringRef "OneHeavyLoadModel" (232 : Nat) "span"), (Jvm.Cond.stringRef "OneHeavyLoadModel" (234 : Nat) "axle"), (Jvm.Cond.stringRef "OneHeavyLoadModel" (236 : Nat) "all"), (Jvm.Cond.stringRef "OneHeavyLoadModel" (238 : Nat) "prop"), (Jvm.Cond.stringRef "OneHeavyLoadModel" (209 : Nat) "waggon"), (Jvm.Cond.stringRef "OneHeavyLoadModel" (210 : Nat) "space"), (Jvm.Cond.stringRef "OneHeavyLoadModel" (212 : Nat) "tare"), (Jvm.Cond.stringRef "OneHeavyLoadModel" (214 : Nat) "part"), (Jvm.Cond.stringRef "OneHeavyLoadModel" (215 : Nat) "load"), (Jvm.Cond.stringRef "OneHeavyLoadModel" (217 : Nat) "mile")] : List Cond), x ∈ lw_tbl := ph_inn (gs := [95, 0, 44, 24, 77, 112, 24, 0, 85, 46, 13, 15, 48, 2, 9, 8, 0, 2, 4, 0, 0, 0, 0, 2, 4, 0, 1, 5, 4, 0, 62, 10, 43, 198, 1, 241, 18, 4, 4, 0, 0, 4, 0, 0, 0, 0, 0, 0, 0, 0, 0, 0]) (by decide +kernel)
set_option maxHeartbeats 4000000 in
set_option maxRecDepth 100000 in
/-- what the launch gives -/
theorem lw_env {p : Program} {s : State} {m : MethodId} {meth : Method} {c : Code} {b L : Nat} {xs : Nat → Int32} (C0 : lw_At p s m meth c b L xs) : ∃ (D : va_G) (E G : Nat → _), va_K D vwCl (oh_ty E) s ∧ oh_G G (fun q => s.heap.size ≤ q) s := by
  obtain ⟨hx, hb, hr, hml, hown, hts, hX, hbl, hlocks, hgv⟩ := C0
  have htg : ∀ w ∈ oh_t, w.before #[Value.ref b] s = true := fun w h => hts w (List.mem_filter.mp h).1
  have hs := flat_of_before _ hgv
  have hnA : ∀ a : Nat, a < s.heap.size → ¬ (fun q : Nat => s.heap.size ≤ q) a := fun a h => Nat.not_le.mpr h
  obtain ⟨c0, iS0, hKn0⟩ := u_known (C := RX0) (T := TX0) (N := 8) (n := 8) htg ig_0 (htg _ q_90)
  obtain ⟨c1, iS1, hKn1⟩ := u_known (C := RX1) (T := TX1) (N := 5) (n := 5) htg ig_1 (htg _ q_140)
  obtain ⟨c2, iS2, hKn2⟩ := u_known (C := RX2) (T := TX2) (N := 4) (n := 4) htg ig_2 (htg _ q_239)
  obtain ⟨c3, iS3, hKn3⟩ := u_known (C := RX3) (T := TX3) (N := 3) (n := 3) htg ig_3 (htg _ q_193)
  obtain ⟨c4, iS4, hKn4⟩ := u_known (C := RX4) (T := TX4) (N := 6) (n := 6) htg ig_4 (htg _ q_212)
  obtain ⟨c5, iS5, hKn5⟩ := u_known (C := RX5) (T := TX5) (N := 7) (n := 7) htg ig_5 (htg _ q_134)
  obtain ⟨c6, iS6, hKn6⟩ := u_known (C := RX6) (T := TX6) (N := 9) (n := 9) htg ig_6 (htg _ q_82)
  obtain ⟨c7, iS7, hKn7⟩ := u_known (C := RX7) (T := TX7) (N := 29) (n := 29) htg ig_7 (htg _ q_964)
  obtain ⟨e0, k0, m0, f0, g0, h0⟩ := Cond.arrayClass_spec (htg _ q_132)
  obtain ⟨e1, k1, m1, f1, g1, h1⟩ := Cond.arrayClass_spec (htg _ q_210)
  have ao2 : (Cond.arrayOver (.array .int)).before #[Value.ref b] s = true := hts _ (lw_xc0 _ (List.mem_of_getElem? (i := 34) rfl))
  obtain ⟨m2, e2, k2, n2, o2, g2, h2, f2⟩ := Jvm.Stand.arrayOver_specB ao2
  have ao3 : (Cond.arrayOver (.array .long)).before #[Value.ref b] s = true := hts _ (lw_xc0 _ (List.mem_of_getElem? (i := 33) rfl))
  obtain ⟨m3, e3, k3, n3, o3, g3, h3, f3⟩ := Jvm.Stand.arrayOver_specB ao3
  have E0_0 := hs (Cond.eq (.elem (Term.static "OneHeavyLoad" "ROOM" "[I") (.int (Int32.ofNat 0))) (.int 24)) (lw_ec0 _ (List.mem_of_getElem? (i := 2) rfl))
  have E0_1 := hs (Cond.eq (.elem (Term.static "OneHeavyLoad" "ROOM" "[I") (.int (Int32.ofNat 1))) (.int 16)) (lw_ec0 _ (List.mem_of_getElem? (i := 3) rfl))
  have E0_2 := hs (Cond.eq (.elem (Term.static "OneHeavyLoad" "ROOM" "[I") (.int (Int32.ofNat 2))) (.int 5)) (lw_ec0 _ (List.mem_of_getElem? (i := 4) rfl))
  have E0_3 := hs (Cond.eq (.elem (Term.static "OneHeavyLoad" "ROOM" "[I") (.int (Int32.ofNat 3))) (.int 5)) (lw_ec0 _ (List.mem_of_getElem? (i := 5) rfl))
  obtain ⟨t0, v0, T0⟩ := va_Tof (tm := (Term.static "OneHeavyLoad" "ROOM" "[I")) (ty := .int) (N := 4) (f := fun j => .int (oh_room j)) (A := fun q => s.heap.size ≤ q) (by decide) (hs _ (lw_ec0 _ (List.mem_of_getElem? (i := 0) rfl))) (va_eqt (z := Int32.ofNat 4) (hs _ (lw_ec0 _ (List.mem_of_getElem? (i := 1) rfl)))) (by intro j hj; rcases (show j = 0 ∨ j = 1 ∨ j = 2 ∨ j = 3 by omega) with rfl | rfl | rfl | rfl; exact va_eqt E0_0; exact va_eqt E0_1; exact va_eqt E0_2; exact va_eqt E0_3) hnA
  have Z0 := va_Zref (A := fun q => s.heap.size ≤ q) (hts _ (lw_xc0 _ (List.mem_of_getElem? (i := 1) rfl))) (htg _ q_66) v0 hnA
  have E1_0 := hs (Cond.eq (.elem (Term.static "OneHeavyLoad" "MAX_SETTING" "[I") (.int (Int32.ofNat 0))) (.int 900)) (lw_ec0 _ (List.mem_of_getElem? (i := 16) rfl))
  have E1_1 := hs (Cond.eq (.elem (Term.static "OneHeavyLoad" "MAX_SETTING" "[I") (.int (Int32.ofNat 1))) (.int 99)) (lw_ec0 _ (List.mem_of_getElem? (i := 17) rfl))
  have E1_2 := hs (Cond.eq (.elem (Term.static "OneHeavyLoad" "MAX_SETTING" "[I") (.int (Int32.ofNat 2))) (.int 1)) (lw_ec0 _ (List.mem_of_getElem? (i := 18) rfl))
  obtain ⟨t1, v1, T1⟩ := va_Tof (tm := (Term.static "OneHeavyLoad" "MAX_SETTING" "[I")) (ty := .int) (N := 3) (f := fun j => .int (oh_maxs j)) (A := fun q => s.heap.size ≤ q) (by decide) (hs _ (lw_ec0 _ (List.mem_of_getElem? (i := 14) rfl))) (va_eqt (z := Int32.ofNat 3) (hs _ (lw_ec0 _ (List.mem_of_getElem? (i := 15) rfl)))) (by intro j hj; rcases (show j = 0 ∨ j = 1 ∨ j = 2 by omega) with rfl | rfl | rfl; exact va_eqt E1_0; exact va_eqt E1_1; exact va_eqt E1_2) hnA
  have Z1 := va_Zref (A := fun q => s.heap.size ≤ q) (hts _ (lw_xc0 _ (List.mem_of_getElem? (i := 8) rfl))) (htg _ q_66) v1 hnA
  have E2_0 := hs (Cond.eq (.elem (Term.static "OneHeavyLoad" "TAKEN_FOR" "[I") (.int (Int32.ofNat 0))) (.int 1)) (lw_ec0 _ (List.mem_of_getElem? (i := 8) rfl))
  have E2_1 := hs (Cond.eq (.elem (Term.static "OneHeavyLoad" "TAKEN_FOR" "[I") (.int (Int32.ofNat 1))) (.int 3)) (lw_ec0 _ (List.mem_of_getElem? (i := 9) rfl))
  have E2_2 := hs (Cond.eq (.elem (Term.static "OneHeavyLoad" "TAKEN_FOR" "[I") (.int (Int32.ofNat 2))) (.int 7)) (lw_ec0 _ (List.mem_of_getElem? (i := 10) rfl))
  have E2_3 := hs (Cond.eq (.elem (Term.static "OneHeavyLoad" "TAKEN_FOR" "[I") (.int (Int32.ofNat 3))) (.int 9)) (lw_ec0 _ (List.mem_of_getElem? (i := 11) rfl))
  have E2_4 := hs (Cond.eq (.elem (Term.static "OneHeavyLoad" "TAKEN_FOR" "[I") (.int (Int32.ofNat 4))) (.int 17)) (lw_ec0 _ (List.mem_of_getElem? (i := 12) rfl))
  have E2_5 := hs (Cond.eq (.elem (Term.static "OneHeavyLoad" "TAKEN_FOR" "[I") (.int (Int32.ofNat 5))) (.int 49)) (lw_ec0 _ (List.mem_of_getElem? (i := 13) rfl))
  obtain ⟨t2, v2, T2⟩ := va_Tof (tm := (Term.static "OneHeavyLoad" "TAKEN_FOR" "[I")) (ty := .int) (N := 6) (f := fun j => .int (oh_tak j)) (A := fun q => s.heap.size ≤ q) (by decide) (hs _ (lw_ec0 _ (List.mem_of_getElem? (i := 6) rfl))) (va_eqt (z := Int32.ofNat 6) (hs _ (lw_ec0 _ (List.mem_of_getElem? (i := 7) rfl)))) (by intro j hj; rcases (show j = 0 ∨ j = 1 ∨ j = 2 ∨ j = 3 ∨ j = 4 ∨ j = 5 by omega) with rfl | rfl | rfl | rfl | rfl | rfl; exact va_eqt E2_0; exact va_eqt E2_1; exact va_eqt E2_2; exact va_eqt E2_3; exact va_eqt E2_4; exact va_eqt E2_5) hnA
  have Z2 := va_Zref (A := fun q => s.heap.size ≤ q) (hts _ (lw_xc0 _ (List.mem_of_getElem? (i := 7) rfl))) (htg _ q_66) v2 hnA
  obtain ⟨K0, V0, S0, u0⟩ := lw_st0 hs hnA
  obtain ⟨K1, V1, S1, u1⟩ := lw_st1 hs hnA
  obtain ⟨K2, V2, S2, u2⟩ := lw_st2 hs hnA
  obtain ⟨K3, V3, S3, u3⟩ := lw_st3 hs hnA
  obtain ⟨K4, V4, S4, u4⟩ := lw_st4 hs hnA
  obtain ⟨K5, V5, S5, u5⟩ := lw_st5 hs hnA
  obtain ⟨K6, V6, S6, u6⟩ := lw_st6 hs hnA
  obtain ⟨K7, V7, S7, u7⟩ := lw_st7 hs hnA
  obtain ⟨K8, V8, S8, u8⟩ := lw_st8 hs hnA
  obtain ⟨K9, V9, S9, u9⟩ := lw_st9 hs hnA
  obtain ⟨K10, V10, S10, u10⟩ := lw_st10 hs hnA
  obtain ⟨K11, V11, S11, u11⟩ := lw_st11 hs hnA
  obtain ⟨K12, V12, S12, u12⟩ := lw_st12 hs hnA
  obtain ⟨K13, V13, S13, u13⟩ := lw_st13 hs hnA
  obtain ⟨K14, V14, S14, u14⟩ := lw_st14 hs hnA
  obtain ⟨K15, V15, S15, u15⟩ := lw_st15 hs hnA
  obtain ⟨K16, V16, S16, u16⟩ := lw_st16 hs hnA
  obtain ⟨K17, V17, S17, u17⟩ := lw_st17 hs hnA
  obtain ⟨K18, V18, S18, u18⟩ := lw_st18 hs hnA
  obtain ⟨K19, V19, S19, u19⟩ := lw_st19 hs hnA
  obtain ⟨K20, V20, S20, u20⟩ := lw_st20 hs hnA
  obtain ⟨K21, V21, S21, u21⟩ := lw_st21 hs hnA
  obtain ⟨K22, V22, S22, u22⟩ := lw_st22 hs hnA
  obtain ⟨K23, V23, S23, u23⟩ := lw_st23 hs hnA
  obtain ⟨K24, V24, S24, u24⟩ := lw_st24 hs hnA
  obtain ⟨K25, V25, S25, u25⟩ := lw_st25 hs hnA
  obtain ⟨K26, V26, S26, u26⟩ := lw_st26 hs hnA
  obtain ⟨K27, V27, S27, u27⟩ := lw_st27 hs hnA
  obtain ⟨K28, V28, S28, u28⟩ := lw_st28 hs hnA
  obtain ⟨K29, V29, S29, u29⟩ := lw_st29 hs hnA
  obtain ⟨K30, V30, S30, u30⟩ := lw_st30 hs hnA
  obtain ⟨K31, V31, S31, u31⟩ := lw_st31 hs hnA
  obtain ⟨K32, V32, S32, u32⟩ := lw_st32 hs hnA
  obtain ⟨K33, V33, S33, u33⟩ := lw_st33 hs hnA
  have Zc := va_Zof (C := "java/lang/String") (n := "COMPACT_STRINGS") (d := "Z") (v := .int 1) (A := fun q => s.heap.size ≤ q) (hts _ (lw_xc0 _ (List.mem_of_getElem? (i := 10) rfl))) (htg _ q_75) (va_eqt (hs _ (lw_ec0 _ (List.mem_of_getElem? (i := 19) rfl)))) hnA
  have Zq := va_Zqof (C := "jdk/internal/util/Preconditions") (n := "SIOOBE_FORMATTER") (d := "Ljava/util/function/BiFunction;") (A := fun q => s.heap.size ≤ q) (hts _ (lw_xc0 _ (List.mem_of_getElem? (i := 11) rfl))) (htg _ q_77) (hs _ (lw_ec0 _ (List.mem_of_getElem? (i := 20) rfl))) hnA
  refine ⟨(fun k => if k = 0 then c0 else if k = 1 then c1 else if k = 2 then c2 else if k = 3 then c3 else if k = 4 then c4 else if k = 5 then c5 else if k = 6 then c6 else c7, fun k => if k = 0 then iS0 else if k = 1 then iS1 else if k = 2 then iS2 else if k = 3 then iS3 else if k = 4 then iS4 else if k = 5 then iS5 else if k = 6 then iS6 else iS7), (fun i => if i = 0 then e0 else if i = 1 then e1 else if i = 2 then e2 else e3), (fun i => ([t0, t1, t2, K0, K1, K2, K3, K4, K5, K6, K7, K8, K9, K10, K11, K12, K13, K14, K15, K16, K17, K18, K19, K20, K21, K22, K23, K24, K25, K26, K27, K28, K29, K30, K31, K32, K33, 0, 0, 0, V0, V1, V2, V3, V4, V5, V6, V7, V8, V9, V10, V11, V12, V13, V14, V15, V16, V17, V18, V19, V20, V21, V22, V23, V24, V25, V26, V27, V28, V29, V30, V31, V32, V33] : List Nat).getD i 0), ⟨?_, ?_⟩, ?_⟩
  · intro k q hq
    match k, hq with
    | 0, hq => cases hq; exact hKn0
    | 1, hq => cases hq; exact hKn1
    | 2, hq => cases hq; exact hKn2
    | 3, hq => cases hq; exact hKn3
    | 4, hq => cases hq; exact hKn4
    | 5, hq => cases hq; exact hKn5
    | 6, hq => cases hq; exact hKn6
    | 7, hq => cases hq; exact hKn7
    | k + 8, hq => simp [vwCl] at hq
  · intro k q hq
    match k, hq with
    | 0, hq => cases hq; exact ⟨fun N z => ⟨fun q hq => (by cases hq), k0, g0, m0, h0⟩, f0⟩
    | 1, hq => cases hq; exact ⟨fun N z => ⟨fun q hq => (by cases hq), k1, g1, m1, h1⟩, f1⟩
    | 2, hq => cases hq; exact ⟨fun N z => ⟨fun q hq => (by cases hq), k2, g2, m2, h2⟩, f2⟩
    | 3, hq => cases hq; exact ⟨fun N z => ⟨fun q hq => (by cases hq), k3, g3, m3, h3⟩, f3⟩
    | k + 4, hq => simp [oh_ty] at hq
  · refine ⟨List.forall_mem_cons.mpr ⟨va_Nw.of rfl (hts _ (lw_xc0 _ (List.mem_of_getElem? (i := 2) rfl))), List.forall_mem_cons.mpr ⟨va_Nw.of rfl (hts _ (lw_xc0 _ (List.mem_of_getElem? (i := 5) rfl))), List.forall_mem_cons.mpr ⟨va_Nw.of rfl (hts _ (lw_xc0 _ (List.mem_of_getElem? (i := 12) rfl))), List.forall_mem_cons.mpr ⟨va_Nw.of rfl (hts _ (lw_xc0 _ (List.mem_of_getElem? (i := 30) rfl))), List.forall_mem_cons.mpr ⟨va_Nw.of rfl (hts _ (lw_xc0 _ (List.mem_of_getElem? (i := 31) rfl))), List.forall_mem_cons.mpr ⟨va_Nw.of rfl (hts _ (lw_xc0 _ (List.mem_of_getElem? (i := 32) rfl))), fun _ h => absurd h List.not_mem_nil⟩⟩⟩⟩⟩⟩, List.forall_mem_cons.mpr ⟨va_Nw.of rfl (hts _ (lw_xc0 _ (List.mem_of_getElem? (i := 0) rfl))), List.forall_mem_cons.mpr ⟨va_Nw.of rfl (hts _ (lw_xc0 _ (List.mem_of_getElem? (i := 3) rfl))), List.forall_mem_cons.mpr ⟨va_Nw.of rfl (hts _ (lw_xc0 _ (List.mem_of_getElem? (i := 4) rfl))), List.forall_mem_cons.mpr ⟨va_Nw.of rfl (hts _ (lw_xc0 _ (List.mem_of_getElem? (i := 6) rfl))), List.forall_mem_cons.mpr ⟨va_Nw.of rfl (hts _ (lw_xc0 _ (List.mem_of_getElem? (i := 28) rfl))), fun _ h => absurd h List.not_mem_nil⟩⟩⟩⟩⟩, List.forall_mem_cons.mpr ⟨vk_R.of (hts _ (lw_xc0 _ (List.mem_of_getElem? (i := 9) rfl))) u0, List.forall_mem_cons.mpr ⟨vk_R.of (hts _ (lw_xc0 _ (List.mem_of_getElem? (i := 13) rfl))) u1, List.forall_mem_cons.mpr ⟨vk_R.of (hts _ (lw_xc0 _ (List.mem_of_getElem? (i := 14) rfl))) u2, List.forall_mem_cons.mpr ⟨vk_R.of (hts _ (lw_xc0 _ (List.mem_of_getElem? (i := 15) rfl))) u3, List.forall_mem_cons.mpr ⟨vk_R.of (hts _ (lw_xc0 _ (List.mem_of_getElem? (i := 16) rfl))) u4, List.forall_mem_cons.mpr ⟨vk_R.of (hts _ (lw_xc0 _ (List.mem_of_getElem? (i := 17) rfl))) u5, List.forall_mem_cons.mpr ⟨vk_R.of (hts _ (lw_xc0 _ (List.mem_of_getElem? (i := 18) rfl))) u6, List.forall_mem_cons.mpr ⟨vk_R.of (hts _ (lw_xc0 _ (List.mem_of_getElem? (i := 19) rfl))) u7, List.forall_mem_cons.mpr ⟨vk_R.of (hts _ (lw_xc0 _ (List.mem_of_getElem? (i := 20) rfl))) u8, List.forall_mem_cons.mpr ⟨vk_R.of (hts _ (lw_xc0 _ (List.mem_of_getElem? (i := 21) rfl))) u9, List.forall_mem_cons.mpr ⟨vk_R.of (hts _ (lw_xc0 _ (List.mem_of_getElem? (i := 22) rfl))) u10, List.forall_mem_cons.mpr ⟨vk_R.of (hts _ (lw_xc0 _ (List.mem_of_getElem? (i := 23) rfl))) u11, List.forall_mem_cons.mpr ⟨vk_R.of (hts _ (lw_xc0 _ (List.mem_of_getElem? (i := 24) rfl))) u12, List.forall_mem_cons.mpr ⟨vk_R.of (hts _ (lw_xc0 _ (List.mem_of_getElem? (i := 25) rfl))) u13, List.forall_mem_cons.mpr ⟨vk_R.of (hts _ (lw_xc0 _ (List.mem_of_getElem? (i := 26) rfl))) u14, List.forall_mem_cons.mpr ⟨vk_R.of (hts _ (lw_xc0 _ (List.mem_of_getElem? (i := 27) rfl))) u15, List.forall_mem_cons.mpr ⟨vk_R.of (hts _ (lw_xc0 _ (List.mem_of_getElem? (i := 29) rfl))) u16, List.forall_mem_cons.mpr ⟨vk_R.of (hts _ (lw_xc0 _ (List.mem_of_getElem? (i := 35) rfl))) u17, List.forall_mem_cons.mpr ⟨vk_R.of (hts _ (lw_xc0 _ (List.mem_of_getElem? (i := 36) rfl))) u18, List.forall_mem_cons.mpr ⟨vk_R.of (hts _ (lw_xc0 _ (List.mem_of_getElem? (i := 37) rfl))) u19, List.forall_mem_cons.mpr ⟨vk_R.of (hts _ (lw_xc0 _ (List.mem_of_getElem? (i := 38) rfl))) u20, List.forall_mem_cons.mpr ⟨vk_R.of (hts _ (lw_xc0 _ (List.mem_of_getElem? (i := 39) rfl))) u21, List.forall_mem_cons.mpr ⟨vk_R.of (hts _ (lw_xc0 _ (List.mem_of_getElem? (i := 40) rfl))) u22, List.forall_mem_cons.mpr ⟨vk_R.of (hts _ (lw_xc0 _ (List.mem_of_getElem? (i := 41) rfl))) u23, List.forall_mem_cons.mpr ⟨vk_R.of (hts _ (lw_xc0 _ (List.mem_of_getElem? (i := 42) rfl))) u24, List.forall_mem_cons.mpr ⟨vk_R.of (hts _ (lw_xc0 _ (List.mem_of_getElem? (i := 43) rfl))) u25, List.forall_mem_cons.mpr ⟨vk_R.of (hts _ (lw_xc0 _ (List.mem_of_getElem? (i := 44) rfl))) u26, List.forall_mem_cons.mpr ⟨vk_R.of (hts _ (lw_xc0 _ (List.mem_of_getElem? (i := 45) rfl))) u27, List.forall_mem_cons.mpr ⟨vk_R.of (hts _ (lw_xc0 _ (List.mem_of_getElem? (i := 46) rfl))) u28, List.forall_mem_cons.mpr ⟨vk_R.of (hts _ (lw_xc0 _ (List.mem_of_getElem? (i := 47) rfl))) u29, List.forall_mem_cons.mpr ⟨vk_R.of (hts _ (lw_xc0 _ (List.mem_of_getElem? (i := 48) rfl))) u30, List.forall_mem_cons.mpr ⟨vk_R.of (hts _ (lw_xc0 _ (List.mem_of_getElem? (i := 49) rfl))) u31, List.forall_mem_cons.mpr ⟨vk_R.of (hts _ (lw_xc0 _ (List.mem_of_getElem? (i := 50) rfl))) u32, List.forall_mem_cons.mpr ⟨vk_R.of (hts _ (lw_xc0 _ (List.mem_of_getElem? (i := 51) rfl))) u33, fun _ h => absurd h List.not_mem_nil⟩⟩⟩⟩⟩⟩⟩⟩⟩⟩⟩⟩⟩⟩⟩⟩⟩⟩⟩⟩⟩⟩⟩⟩⟩⟩⟩⟩⟩⟩⟩⟩⟩⟩, ⟨Z0, T0⟩, ⟨Z1, T1⟩, ⟨Z2, T2⟩, ao2, ao3, Zc, Zq, fun j hj => ?_⟩
    rcases (show j = 0 ∨ j = 1 ∨ j = 2 ∨ j = 3 ∨ j = 4 ∨ j = 5 ∨ j = 6 ∨ j = 7 ∨ j = 8 ∨ j = 9 ∨ j = 10 ∨ j = 11 ∨ j = 12 ∨ j = 13 ∨ j = 14 ∨ j = 15 ∨ j = 16 ∨ j = 17 ∨ j = 18 ∨ j = 19 ∨ j = 20 ∨ j = 21 ∨ j = 22 ∨ j = 23 ∨ j = 24 ∨ j = 25 ∨ j = 26 ∨ j = 27 ∨ j = 28 ∨ j = 29 ∨ j = 30 ∨ j = 31 ∨ j = 32 ∨ j = 33 by omega) with rfl | rfl | rfl | rfl | rfl | rfl | rfl | rfl | rfl | rfl | rfl | rfl | rfl | rfl | rfl | rfl | rfl | rfl | rfl | rfl | rfl | rfl | rfl | rfl | rfl | rfl | rfl | rfl | rfl | rfl | rfl | rfl | rfl | rfl
    · exact S0
    · exact S1
    · exact S2
    · exact S3
    · exact S4
    · exact S5
    · exact S6
    · exact S7
    · exact S8
    · exact S9
    · exact S10
    · exact S11
    · exact S12
    · exact S13
    · exact S14
    · exact S15
    · exact S16
    · exact S17
    · exact S18
    · exact S19
    · exact S20
    · exact S21
    · exact S22
    · exact S23
    · exact S24
    · exact S25
    · exact S26
    · exact S27
    · exact S28
    · exact S29
    · exact S30
    · exact S31
    · exact S32
    · exact S33
theorem pdX6_init : yX6_init.cls ≠ "java/lang/invoke/MethodHandle" ∧ yX6_init.cls ≠ "java/lang/invoke/VarHandle" ∧ (parseMethodDescriptor yX6_init.desc).map (fun d => d.parameters.length) = some 0 := by decide +kernel
set_option maxHeartbeats 4000000 in
set_option maxRecDepth 100000 in
/-- THE LAW, from its entry -/
theorem whole_start {p : Program} {e : Env} {s : State} {m : MethodId} {below : List Frame} {meth : Method} {c : Code} (l : Launch) {b L : Nat} {xs : Nat → Int32} (hL : L ≤ 4096) (C0 : lw_At p s m meth c b L xs) : W p l e room_1 s m #[Value.ref b] below meth c s.heap [] 0 0 (lw_Z below #[Value.ref b] s) (entryFrame m ([Value.ref b] : List Value).toArray 4) := by
  obtain ⟨D, E, G, hK, hG⟩ := lw_env C0
  obtain ⟨hx, hb, hr, hml, hown, hts, hX, hbl, hlocks, hgv⟩ := id C0
  have hown : s.vm.findClass RL = some m.cls := hown
  have htg : ∀ w ∈ oh_t, w.before #[Value.ref b] s = true := fun w h => hts w (List.mem_filter.mp h).1
  obtain ⟨A, hAe⟩ : ∃ A : Nat → Prop, A = fun q => s.heap.size ≤ q := ⟨_, rfl⟩
  rw [← hAe] at hG
  have hA : ∀ q, s.heap.size ≤ q → A q := fun q h => by rw [hAe]; exact h
  have hS : va_S A s.heap s.heap [] := va_S.rf
  have hP : va_P D vwCl [] s.heap := fun k q h => by simp at h
  have hD : va_D A [] := ⟨fun i j p q h => by simp at h, fun k q h => by simp at h⟩
  have hl := lv_entry ([.ref b]) (n := 4) (Nat.le_of_ble_eq_true rfl)
  rw [lg_entry_eq]
  generalize (lg_sl ([.ref b]) ++ List.replicate (4 - (lg_sl ([.ref b])).length) Slot.unset).toArray = ls at hl ⊢
  have hl : lv_has ls 4 [(0, .ref b)] := hl
  refine va_new (ci := 6) (fs := [.null, .null, .int 0, .null, .null, .null, .null, .null, .null]) (C := RX6) (T := TX6) (N := 9) hx hb htg ig_6 tyX6 tyX6_ok hown (htg _ q_81) (htg _ q_82) (htg _ q_66) hK hP hD hS hA rfl oh_df6 (show 1 ≤ 600000 from Nat.le_of_ble_eq_true rfl) (show 9 ≤ 7302250 from Nat.le_of_ble_eq_true rfl) dL_law_0 (fun q0 H hP hD hS => ?_)
  have hP : va_P D vwCl [(q0, .inr (6, [.null, .null, .int 0, .null, .null, .null, .null, .null, .null]))] H := hP
  have hD : va_D A [(q0, .inr (6, [.null, .null, .int 0, .null, .null, .null, .null, .null, .null]))] := hD
  refine W.widen (k := 1) (n := 9) (Nat.le_refl _) (Nat.le_refl _) ?_
  refine lv_dup hx hb dL_law_3 rfl ?_
  refine oh_mI (As := []) (rest := [.ref q0]) (wr := []) ⟨hx, hb, hml, hown, htg⟩ (c_X6_init l D E G H.size q0) (cwI 0 htg (oh_gW q_85) rfl rfl rfl (htg _ q_66) (htg _ q_83) (htg _ q_84) rfl pdX6_init ⟨Nat.le_of_ble_eq_true rfl, Nat.le_of_ble_eq_true rfl⟩) hK hP hD hG hS hA [0] [] rfl rfl (by decide) (by decide) (by decide) rfl hl.1 rfl (Nat.le_of_ble_eq_true rfl) dL_law_4 ⟨show 35 ≤ 600000 from Nat.le_of_ble_eq_true rfl, show 1477 ≤ 7302250 from Nat.le_of_ble_eq_true rfl⟩ (fun u H locs hw hP hD hS => ?_)
  obtain ⟨q5, q9_1, q23_1, q37_1, q50_1, q63_1, q70_1, q93_1, q16, q9_2, q23_2, q37_2, q50_2, q63_2, q70_2, q93_2, q32, q10_3, q26_3, q37_3, q48_3, q56_3, q63_3, q47, q7_4, q15_4, q24_4, q58, q8_5, q69, q19_6, q26_6, q89, q96⟩ := u
  refine W.widen (k := 35) (n := 1477) (Nat.le_refl _) (Nat.le_refl _) ?_
  refine lv_astore_n (lv' := [(1, .ref q0), (0, .ref b)]) hx hb dL_law_7 rfl hl (by decide) rfl (fun ls hl => ?_)
  have hP := hP.sub (ws' := oh_W 35 (fun k => ([q0, q5, q16, q32, q47, q58, q69, q89, q96, q10_3, q9_1, q23_1, q37_1, q50_1, q63_1, q70_1, q93_1, q9_2, q23_2, q37_2, q50_2, q63_2, q70_2, q93_2, q26_3, q37_3, q48_3, q56_3, q63_3, q7_4, q15_4, q24_4, q8_5, q19_6, q26_6] : List Nat).getD k 0) (cx0 E (fun k => ([q0, q5, q16, q32, q47, q58, q69, q89, q96, q10_3, q9_1, q23_1, q37_1, q50_1, q63_1, q70_1, q93_1, q9_2, q23_2, q37_2, q50_2, q63_2, q70_2, q93_2, q26_3, q37_3, q48_3, q56_3, q63_3, q7_4, q15_4, q24_4, q8_5, q19_6, q26_6] : List Nat).getD k 0))) [0, 1, 9, 17, 24, 28, 30, 33, 34, 18, 2, 3, 4, 5, 6, 7, 8, 10, 11, 12, 13, 14, 15, 16, 19, 20, 21, 22, 23, 25, 26, 27, 29, 31, 32] rfl
  have hD := hD.sub (ws' := oh_W 35 (fun k => ([q0, q5, q16, q32, q47, q58, q69, q89, q96, q10_3, q9_1, q23_1, q37_1, q50_1, q63_1, q70_1, q93_1, q9_2, q23_2, q37_2, q50_2, q63_2, q70_2, q93_2, q26_3, q37_3, q48_3, q56_3, q63_3, q7_4, q15_4, q24_4, q8_5, q19_6, q26_6] : List Nat).getD k 0) (cx0 E (fun k => ([q0, q5, q16, q32, q47, q58, q69, q89, q96, q10_3, q9_1, q23_1, q37_1, q50_1, q63_1, q70_1, q93_1, q9_2, q23_2, q37_2, q50_2, q63_2, q70_2, q93_2, q26_3, q37_3, q48_3, q56_3, q63_3, q7_4, q15_4, q24_4, q8_5, q19_6, q26_6] : List Nat).getD k 0))) [0, 1, 9, 17, 24, 28, 30, 33, 34, 18, 2, 3, 4, 5, 6, 7, 8, 10, 11, 12, 13, 14, 15, 16, 19, 20, 21, 22, 23, 25, 26, 27, 29, 31, 32] (by decide) rfl
  obtain ⟨a, ea⟩ : ∃ z, z = (fun k => ([q0, q5, q16, q32, q47, q58, q69, q89, q96, q10_3, q9_1, q23_1, q37_1, q50_1, q63_1, q70_1, q93_1, q9_2, q23_2, q37_2, q50_2, q63_2, q70_2, q93_2, q26_3, q37_3, q48_3, q56_3, q63_3, q7_4, q15_4, q24_4, q8_5, q19_6, q26_6] : List Nat).getD k 0) := ⟨_, rfl⟩
  rw [← ea] at hP hD
  have e0 : q0 = a 0 := by rw [ea]; rfl
  rw [e0] at hl
  refine va_new (ci := 7) (fs := [.null, .null, .null, .null, .null, .null, .null, .int 0, .null, .int 0, .null, .int 0, .null, .int 0, .null, .int 0, .null, .null, .null, .int 0, .null, .int 0, .int 0, .int 0, .long 0, .int 0, .int 0, .null, .int 0]) (C := RX7) (T := TX7) (N := 29) hx hb htg ig_7 tyX7 tyX7_ok hown (htg _ q_963) (htg _ q_964) (htg _ q_73) hK hP hD hS hA rfl oh_df7 (show 36 ≤ 600000 from Nat.le_of_ble_eq_true rfl) (show 1506 ≤ 7302250 from Nat.le_of_ble_eq_true rfl) dL_law_8 (fun w0 H hP hD hS => ?_)
  refine W.widen (k := 36) (n := 1506) (Nat.le_refl _) (Nat.le_refl _) ?_
  refine lv_dup hx hb dL_law_11 rfl ?_
  refine oh_mI (As := []) (rest := [.ref w0]) (wr := oh_W 35 a (cx0 E a)) (wc := [(w0, .inr (7, [.null, .null, .null, .null, .null, .null, .null, .int 0, .null, .int 0, .null, .int 0, .null, .int 0, .null, .int 0, .null, .null, .null, .int 0, .null, .int 0, .int 0, .int 0, .long 0, .int 0, .int 0, .null, .int 0]))]) ⟨hx, hb, hml, hown, htg⟩ (c_X7_init l D E G H.size w0) (cwI 0 htg (oh_gW q_967) rfl rfl rfl (htg _ q_73) (htg _ q_965) (htg _ q_966) rfl pdX7_init ⟨Nat.le_of_ble_eq_true rfl, Nat.le_of_ble_eq_true rfl⟩) hK hP hD hG hS hA [35] (List.range (oh_W 35 a (cx0 E a)).length) oh_lst (oh_hdp _ _) (by decide) (oh_nd1 _ List.nodup_range) (fun i hi => by rw [oh_Wlen, List.mem_range] at hi; intro h9; rw [List.mem_singleton] at h9; omega) rfl hl.1 rfl (Nat.le_of_ble_eq_true rfl) dL_law_12 ⟨show 109 ≤ 600000 from Nat.le_of_ble_eq_true rfl, show 2593 ≤ 7302250 from Nat.le_of_ble_eq_true rfl⟩ (fun u H locs hw hP hD hS => ?_)
  obtain ⟨q7, q15, q23, q33, q43, q51, q60, q68, q78, q90, q100, q110, q119, q140, q148, r33, r78, r90, r100, r110⟩ := u
  refine W.widen (k := 109) (n := 2593) (Nat.le_refl _) (Nat.le_refl _) ?_
  have hP := lw_m1 (P := fun w => va_P D vwCl w H) (w := oh_W 35 a (cx0 E a)) (E := E) (x := (fun i => ([w0, q7, q15, q23, q33, q43, q51, q60, q68, q78, q90, q100, q110, q119, q140, q148] : List Nat).getD i 0)) (r1 := r33) (r2 := r78) (r3 := r90) (r4 := r100) (r5 := r110) hP
  have hD := lw_m1 (P := fun w => va_D A w) (w := oh_W 35 a (cx0 E a)) (E := E) (x := (fun i => ([w0, q7, q15, q23, q33, q43, q51, q60, q68, q78, q90, q100, q110, q119, q140, q148] : List Nat).getD i 0)) (r1 := r33) (r2 := r78) (r3 := r90) (r4 := r100) (r5 := r110) hD
  obtain ⟨ma, em⟩ : ∃ z, z = (bm0 (fun i => ([w0, q7, q15, q23, q33, q43, q51, q60, q68, q78, q90, q100, q110, q119, q140, q148] : List Nat).getD i 0) r33 r78 r90 r100 r110) := ⟨_, rfl⟩
  have ew : w0 = ma 0 := by rw [em]; rfl
  rw [← em] at hP hD
  refine lv_astore_n (lv' := [(2, .ref w0), (1, .ref (a 0)), (0, .ref b)]) hx hb dL_law_15 rfl hl (by decide) rfl (fun ls hl => ?_)
  refine lv_iconst (v := 0) hx hb dL_law_16 (by decide) ?_
  refine lv_istore_n (lv' := [(3, .int 0), (2, .ref w0), (1, .ref (a 0)), (0, .ref b)]) hx hb dL_law_17 rfl hl (by decide) rfl (fun ls hl => ?_)
  rw [ew] at hl
  exact lw_18 l C0 hL hAe hK hG (L - 0) 0 ma (cx0 E a) (cm0 E ma) 74 109 2593 H locs ls rfl (Nat.zero_le _) (TyX0 E a) (TyM0 E ma) (RelM0 E ma) (Or.inl ⟨rfl, rfl⟩) rfl ⟨fun _ => rfl, fun _ => rfl⟩ rfl ⟨A00, T00, absX00 E a, absM00 E ma, ok_00, absTX00 E a, absTM00 E ma, _, absHX00 E a, absHM00 E ma, shN00⟩ (Or.inl rfl) (by decide) (by decide) hP hD hS (by rw [nI_0]; exact hl)
