set_option maxRecDepth 100000 in
set_option maxHeartbeats 4000000 in
theorem lw_sc0 : ∀ x ∈ ([Cond.exactly (Term.string "OneHeavyLoad$Reader" 61) "java/lang/String", Cond.eq (.field (Term.string "OneHeavyLoad$Reader" 61) "java/lang/String" "coder" "B") (.int 0), Cond.arrayOf (.field (Term.string "OneHeavyLoad$Reader" 61) "java/lang/String" "value" "[B") .byte, Cond.eq (.length (.field (Term.string "OneHeavyLoad$Reader" 61) "java/lang/String" "value" "[B")) (.int (Int32.ofNat 4)), Cond.eq (.elem (.field (Term.string "OneHeavyLoad$Reader" 61) "java/lang/String" "value" "[B") (.int (Int32.ofNat 0))) (.int 114), Cond.eq (.elem (.field (Term.string "OneHeavyLoad$Reader" 61) "java/lang/String" "value" "[B") (.int (Int32.ofNat 1))) (.int 111), Cond.eq (.elem (.field (Term.string "OneHeavyLoad$Reader" 61) "java/lang/String" "value" "[B") (.int (Int32.ofNat 2))) (.int 97), Cond.eq (.elem (.field (Term.string "OneHeavyLoad$Reader" 61) "java/lang/String" "value" "[B") (.int (Int32.ofNat 3))) (.int 100), Cond.exactly (Term.string "OneHeavyLoad$Reader" 117) "java/lang/String", Cond.eq (.field (Term.string "OneHeavyLoad$Reader" 117) "java/lang/String" "coder" "B") (.int 0), Cond.arrayOf (.field (Term.string "OneHeavyLoad$Reader" 117) "java/lang/String" "value" "[B") .byte, Cond.eq (.length (.field (Term.string "OneHeavyLoad$Reader" 117) "java/lang/String" "value" "[B")) (.int (Int32.ofNat 5)), Cond.eq (.elem (.field (Term.string "OneHeavyLoad$Reader" 117) "java/lang/String" "value" "[B") (.int (Int32.ofNat 0))) (.int 109), Cond.eq (.elem (.field (Term.string "OneHeavyLoad$Reader" 117) "java/lang/String" "value" "[B") (.int (Int32.ofNat 1))) (.int 105), Cond.eq (.elem (.field (Term.string "OneHeavyLoad$Reader" 117) "java/lang/String" "value" "[B") (.int (Int32.ofNat 2))) (.int 108), Cond.eq (.elem (.field (Term.string "OneHeavyLoad$Reader" 117) "java/lang/String" "value" "[B") (.int (Int32.ofNat 3))) (.int 101), Cond.eq (.elem (.field (Term.string "OneHeavyLoad$Reader" 117) "java/lang/String" "value" "[B") (.int (Int32.ofNat 4))) (.int 115), Cond.exactly (Term.string "OneHeavyLoad$Reader" 123) "java/lang/String", Cond.eq (.field (Term.string "OneHeavyLoad$Reader" 123) "java/lang/String" "coder" "B") (.int 0), Cond.arrayOf (.field (Term.string "OneHeavyLoad$Reader" 123) "java/lang/String" "value" "[B") .byte, Cond.eq (.length (.field (Term.string "OneHeavyLoad$Reader" 123) "java/lang/String" "value" "[B")) (.int (Int32.ofNat 4)), Cond.eq (.elem (.field (Term.string "OneHeavyLoad$Reader" 123) "java/lang/String" "value" "[B") (.int (Int32.ofNat 0))) (.int 114), Cond.eq (.elem (.field (Term.string "OneHeavyLoad$Reader" 123) "java/lang/String" "value" "[B") (.int (Int32.ofNat 1))) (.int 105), Cond.eq (.elem (.field (Term.string "OneHeavyLoad$Reader" 123) "java/lang/String" "value" "[B") (.int (Int32.ofNat 2))) (.int 115), Cond.eq (.elem (.field (Term.string "OneHeavyLoad$Reader" 123) "java/lang/String" "value" "[B") (.int (Int32.ofNat 3))) (.int 101), Cond.exactly (Term.string "OneHeavyLoad$Reader" 129) "java/lang/String", Cond.eq (.field (Term.string "OneHeavyLoad$Reader" 129) "java/lang/String" "coder" "B") (.int 0), Cond.arrayOf (.field (Term.string "OneHeavyLoad$Reader" 129) "java/lang/String" "value" "[B") .byte, Cond.eq (.length (.field (Term.string "OneHeavyLoad$Reader" 129) "java/lang/String" "value" "[B")) (.int (Int32.ofNat 4)), Cond.eq (.elem (.field (Term.string "OneHeavyLoad$Reader" 129) "java/lang/String" "value" "[B") (.int (Int32.ofNat 0))) (.int 116), Cond.eq (.elem (.field (Term.string "OneHeavyLoad$Reader" 129) "java/lang/String" "value" "[B") (.int (Int32.ofNat 1))) (.int 117), Cond.eq (.elem (.field (Term.string "OneHeavyLoad$Reader" 129) "java/lang/String" "value" "[B") (.int (Int32.ofNat 2))) (.int 114), Cond.eq (.elem (.field (Term.string "OneHeavyLoad$Reader" 129) "java/lang/String" "value" "[B") (.int (Int32.ofNat 3))) (.int 110), Cond.exactly (Term.string "OneHeavyLoad$Reader" 131) "java/lang/String", Cond.eq (.field (Term.string "OneHeavyLoad$Reader" 131) "java/lang/String" "coder" "B") (.int 0), Cond.arrayOf (.field (Term.string "OneHeavyLoad$Reader" 131) "java/lang/String" "value" "[B") .byte, Cond.eq (.length (.field (Term.string "OneHeavyLoad$Reader" 131) "java/lang/String" "value" "[B")) (.int (Int32.ofNat 6)), Cond.eq (.elem (.field (Term.string "OneHeavyLoad$Reader" 131) "java/lang/String" "value" "[B") (.int (Int32.ofNat 0))) (.int 112), Cond.eq (.elem (.field (Term.string "OneHeavyLoad$Reader" 131) "java/lang/String" "value" "[B") (.int (Int32.ofNat 1))) (.int 97), Cond.eq (.elem (.field (Term.string "OneHeavyLoad$Reader" 131) "java/lang/String" "value" "[B") (.int (Int32.ofNat 2))) (.int 114), Cond.eq (.elem (.field (Term.string "OneHeavyLoad$Reader" 131) "java/lang/String" "value" "[B") (.int (Int32.ofNat 3))) (.int 105), Cond.eq (.elem (.field (Term.string "OneHeavyLoad$Reader" 131) "java/lang/String" "value" "[B") (.int (Int32.ofNat 4))) (.int 115), Cond.eq (.elem (.field (Term.string "OneHeavyLoad$Reader" 131) "java/lang/String" "value" "[B") (.int (Int32.ofNat 5))) (.int 104)] : List Cond), x ∈ flatC (Jvm.Cond.and given_1 narrow_1) := by decide +kernel
set_option maxRecDepth 100000 in
set_option maxHeartbeats 4000000 in
theorem lw_sc1 : ∀ x ∈ ([Cond.exactly (Term.string "OneHeavyLoad$Reader" 70) "java/lang/String", Cond.eq (.field (Term.string "OneHeavyLoad$Reader" 70) "java/lang/String" "coder" "B") (.int 0), Cond.arrayOf (.field (Term.string "OneHeavyLoad$Reader" 70) "java/lang/String" "value" "[B") .byte, Cond.eq (.length (.field (Term.string "OneHeavyLoad$Reader" 70) "java/lang/String" "value" "[B")) (.int (Int32.ofNat 6)), Cond.eq (.elem (.field (Term.string "OneHeavyLoad$Reader" 70) "java/lang/String" "value" "[B") (.int (Int32.ofNat 0))) (.int 98), Cond.eq (.elem (.field (Term.string "OneHeavyLoad$Reader" 70) "java/lang/String" "value" "[B") (.int (Int32.ofNat 1))) (.int 114), Cond.eq (.elem (.field (Term.string "OneHeavyLoad$Reader" 70) "java/lang/String" "value" "[B") (.int (Int32.ofNat 2))) (.int 105), Cond.eq (.elem (.field (Term.string "OneHeavyLoad$Reader" 70) "java/lang/String" "value" "[B") (.int (Int32.ofNat 3))) (.int 100), Cond.eq (.elem (.field (Term.string "OneHeavyLoad$Reader" 70) "java/lang/String" "value" "[B") (.int (Int32.ofNat 4))) (.int 103), Cond.eq (.elem (.field (Term.string "OneHeavyLoad$Reader" 70) "java/lang/String" "value" "[B") (.int (Int32.ofNat 5))) (.int 101), Cond.exactly (Term.string "OneHeavyLoad$Reader" 137) "java/lang/String", Cond.eq (.field (Term.string "OneHeavyLoad$Reader" 137) "java/lang/String" "coder" "B") (.int 0), Cond.arrayOf (.field (Term.string "OneHeavyLoad$Reader" 137) "java/lang/String" "value" "[B") .byte, Cond.eq (.length (.field (Term.string "OneHeavyLoad$Reader" 137) "java/lang/String" "value" "[B")) (.int (Int32.ofNat 4)), Cond.eq (.elem (.field (Term.string "OneHeavyLoad$Reader" 137) "java/lang/String" "value" "[B") (.int (Int32.ofNat 0))) (.int 107), Cond.eq (.elem (.field (Term.string "OneHeavyLoad$Reader" 137) "java/lang/String" "value" "[B") (.int (Int32.ofNat 1))) (.int 105), Cond.eq (.elem (.field (Term.string "OneHeavyLoad$Reader" 137) "java/lang/String" "value" "[B") (.int (Int32.ofNat 2))) (.int 110), Cond.eq (.elem (.field (Term.string "OneHeavyLoad$Reader" 137) "java/lang/String" "value" "[B") (.int (Int32.ofNat 3))) (.int 100), Cond.exactly (Term.string "OneHeavyLoad$Reader" 139) "java/lang/String", Cond.eq (.field (Term.string "OneHeavyLoad$Reader" 139) "java/lang/String" "coder" "B") (.int 0), Cond.arrayOf (.field (Term.string "OneHeavyLoad$Reader" 139) "java/lang/String" "value" "[B") .byte, Cond.eq (.length (.field (Term.string "OneHeavyLoad$Reader" 139) "java/lang/String" "value" "[B")) (.int (Int32.ofNat 4)), Cond.eq (.elem (.field (Term.string "OneHeavyLoad$Reader" 139) "java/lang/String" "value" "[B") (.int (Int32.ofNat 0))) (.int 115), Cond.eq (.elem (.field (Term.string "OneHeavyLoad$Reader" 139) "java/lang/String" "value" "[B") (.int (Int32.ofNat 1))) (.int 112), Cond.eq (.elem (.field (Term.string "OneHeavyLoad$Reader" 139) "java/lang/String" "value" "[B") (.int (Int32.ofNat 2))) (.int 97), Cond.eq (.elem (.field (Term.string "OneHeavyLoad$Reader" 139) "java/lang/String" "value" "[B") (.int (Int32.ofNat 3))) (.int 110), Cond.exactly (Term.string "OneHeavyLoad$Reader" 141) "java/lang/String", Cond.eq (.field (Term.string "OneHeavyLoad$Reader" 141) "java/lang/String" "coder" "B") (.int 0), Cond.arrayOf (.field (Term.string "OneHeavyLoad$Reader" 141) "java/lang/String" "value" "[B") .byte, Cond.eq (.length (.field (Term.string "OneHeavyLoad$Reader" 141) "java/lang/String" "value" "[B")) (.int (Int32.ofNat 4)), Cond.eq (.elem (.field (Term.string "OneHeavyLoad$Reader" 141) "java/lang/String" "value" "[B") (.int (Int32.ofNat 0))) (.int 97), Cond.eq (.elem (.field (Term.string "OneHeavyLoad$Reader" 141) "java/lang/String" "value" "[B") (.int (Int32.ofNat 1))) (.int 120), Cond.eq (.elem (.field (Term.string "OneHeavyLoad$Reader" 141) "java/lang/String" "value" "[B") (.int (Int32.ofNat 2))) (.int 108), Cond.eq (.elem (.field (Term.string "OneHeavyLoad$Reader" 141) "java/lang/String" "value" "[B") (.int (Int32.ofNat 3))) (.int 101), Cond.exactly (Term.string "OneHeavyLoad$Reader" 143) "java/lang/String", Cond.eq (.field (Term.string "OneHeavyLoad$Reader" 143) "java/lang/String" "coder" "B") (.int 0), Cond.arrayOf (.field (Term.string "OneHeavyLoad$Reader" 143) "java/lang/String" "value" "[B") .byte, Cond.eq (.length (.field (Term.string "OneHeavyLoad$Reader" 143) "java/lang/String" "value" "[B")) (.int (Int32.ofNat 3)), Cond.eq (.elem (.field (Term.string "OneHeavyLoad$Reader" 143) "java/lang/String" "value" "[B") (.int (Int32.ofNat 0))) (.int 97), Cond.eq (.elem (.field (Term.string "OneHeavyLoad$Reader" 143) "java/lang/String" "value" "[B") (.int (Int32.ofNat 1))) (.int 108), Cond.eq (.elem (.field (Term.string "OneHeavyLoad$Reader" 143) "java/lang/String" "value" "[B") (.int (Int32.ofNat 2))) (.int 108)] : List Cond), x ∈ flatC (Jvm.Cond.and given_1 narrow_1) := by decide +kernel
set_option maxRecDepth 100000 in
set_option maxHeartbeats 4000000 in
theorem lw_sc2 : ∀ x ∈ ([Cond.exactly (Term.string "OneHeavyLoad$Reader" 145) "java/lang/String", Cond.eq (.field (Term.string "OneHeavyLoad$Reader" 145) "java/lang/String" "coder" "B") (.int 0), Cond.arrayOf (.field (Term.string "OneHeavyLoad$Reader" 145) "java/lang/String" "value" "[B") .byte, Cond.eq (.length (.field (Term.string "OneHeavyLoad$Reader" 145) "java/lang/String" "value" "[B")) (.int (Int32.ofNat 4)), Cond.eq (.elem (.field (Term.string "OneHeavyLoad$Reader" 145) "java/lang/String" "value" "[B") (.int (Int32.ofNat 0))) (.int 112), Cond.eq (.elem (.field (Term.string "OneHeavyLoad$Reader" 145) "java/lang/String" "value" "[B") (.int (Int32.ofNat 1))) (.int 114), Cond.eq (.elem (.field (Term.string "OneHeavyLoad$Reader" 145) "java/lang/String" "value" "[B") (.int (Int32.ofNat 2))) (.int 111), Cond.eq (.elem (.field (Term.string "OneHeavyLoad$Reader" 145) "java/lang/String" "value" "[B") (.int (Int32.ofNat 3))) (.int 112), Cond.exactly (Term.string "OneHeavyLoad$Reader" 75) "java/lang/String", Cond.eq (.field (Term.string "OneHeavyLoad$Reader" 75) "java/lang/String" "coder" "B") (.int 0), Cond.arrayOf (.field (Term.string "OneHeavyLoad$Reader" 75) "java/lang/String" "value" "[B") .byte, Cond.eq (.length (.field (Term.string "OneHeavyLoad$Reader" 75) "java/lang/String" "value" "[B")) (.int (Int32.ofNat 6)), Cond.eq (.elem (.field (Term.string "OneHeavyLoad$Reader" 75) "java/lang/String" "value" "[B") (.int (Int32.ofNat 0))) (.int 119), Cond.eq (.elem (.field (Term.string "OneHeavyLoad$Reader" 75) "java/lang/String" "value" "[B") (.int (Int32.ofNat 1))) (.int 97), Cond.eq (.elem (.field (Term.string "OneHeavyLoad$Reader" 75) "java/lang/String" "value" "[B") (.int (Int32.ofNat 2))) (.int 103), Cond.eq (.elem (.field (Term.string "OneHeavyLoad$Reader" 75) "java/lang/String" "value" "[B") (.int (Int32.ofNat 3))) (.int 103), Cond.eq (.elem (.field (Term.string "OneHeavyLoad$Reader" 75) "java/lang/String" "value" "[B") (.int (Int32.ofNat 4))) (.int 111), Cond.eq (.elem (.field (Term.string "OneHeavyLoad$Reader" 75) "java/lang/String" "value" "[B") (.int (Int32.ofNat 5))) (.int 110), Cond.exactly (Term.string "OneHeavyLoad$Reader" 155) "java/lang/String", Cond.eq (.field (Term.string "OneHeavyLoad$Reader" 155) "java/lang/String" "coder" "B") (.int 0), Cond.arrayOf (.field (Term.string "OneHeavyLoad$Reader" 155) "java/lang/String" "value" "[B") .byte, Cond.eq (.length (.field (Term.string "OneHeavyLoad$Reader" 155) "java/lang/String" "value" "[B")) (.int (Int32.ofNat 5)), Cond.eq (.elem (.field (Term.string "OneHeavyLoad$Reader" 155) "java/lang/String" "value" "[B") (.int (Int32.ofNat 0))) (.int 115), Cond.eq (.elem (.field (Term.string "OneHeavyLoad$Reader" 155) "java/lang/String" "value" "[B") (.int (Int32.ofNat 1))) (.int 112), Cond.eq (.elem (.field (Term.string "OneHeavyLoad$Reader" 155) "java/lang/String" "value" "[B") (.int (Int32.ofNat 2))) (.int 97), Cond.eq (.elem (.field (Term.string "OneHeavyLoad$Reader" 155) "java/lang/String" "value" "[B") (.int (Int32.ofNat 3))) (.int 99), Cond.eq (.elem (.field (Term.string "OneHeavyLoad$Reader" 155) "java/lang/String" "value" "[B") (.int (Int32.ofNat 4))) (.int 101), Cond.exactly (Term.string "OneHeavyLoad$Reader" 157) "java/lang/String", Cond.eq (.field (Term.string "OneHeavyLoad$Reader" 157) "java/lang/String" "coder" "B") (.int 0), Cond.arrayOf (.field (Term.string "OneHeavyLoad$Reader" 157) "java/lang/String" "value" "[B") .byte, Cond.eq (.length (.field (Term.string "OneHeavyLoad$Reader" 157) "java/lang/String" "value" "[B")) (.int (Int32.ofNat 4)), Cond.eq (.elem (.field (Term.string "OneHeavyLoad$Reader" 157) "java/lang/String" "value" "[B") (.int (Int32.ofNat 0))) (.int 116), Cond.eq (.elem (.field (Term.string "OneHeavyLoad$Reader" 157) "java/lang/String" "value" "[B") (.int (Int32.ofNat 1))) (.int 97), Cond.eq (.elem (.field (Term.string "OneHeavyLoad$Reader" 157) "java/lang/String" "value" "[B") (.int (Int32.ofNat 2))) (.int 114), Cond.eq (.elem (.field (Term.string "OneHeavyLoad$Reader" 157) "java/lang/String" "value" "[B") (.int (Int32.ofNat 3))) (.int 101), Cond.exactly (Term.string "OneHeavyLoad$Reader" 80) "java/lang/String", Cond.eq (.field (Term.string "OneHeavyLoad$Reader" 80) "java/lang/String" "coder" "B") (.int 0), Cond.arrayOf (.field (Term.string "OneHeavyLoad$Reader" 80) "java/lang/String" "value" "[B") .byte, Cond.eq (.length (.field (Term.string "OneHeavyLoad$Reader" 80) "java/lang/String" "value" "[B")) (.int (Int32.ofNat 4)), Cond.eq (.elem (.field (Term.string "OneHeavyLoad$Reader" 80) "java/lang/String" "value" "[B") (.int (Int32.ofNat 0))) (.int 112), Cond.eq (.elem (.field (Term.string "OneHeavyLoad$Reader" 80) "java/lang/String" "value" "[B") (.int (Int32.ofNat 1))) (.int 97), Cond.eq (.elem (.field (Term.string "OneHeavyLoad$Reader" 80) "java/lang/String" "value" "[B") (.int (Int32.ofNat 2))) (.int 114), Cond.eq (.elem (.field (Term.string "OneHeavyLoad$Reader" 80) "java/lang/String" "value" "[B") (.int (Int32.ofNat 3))) (.int 116)] : List Cond), x ∈ flatC (Jvm.Cond.and given_1 narrow_1) := by decide +kernel
set_option maxRecDepth 100000 in
set_option maxHeartbeats 4000000 in
theorem lw_sc3 : ∀ x ∈ ([Cond.exactly (Term.string "OneHeavyLoad$Reader" 85) "java/lang/String", Cond.eq (.field (Term.string "OneHeavyLoad$Reader" 85) "java/lang/String" "coder" "B") (.int 0), Cond.arrayOf (.field (Term.string "OneHeavyLoad$Reader" 85) "java/lang/String" "value" "[B") .byte, Cond.eq (.length (.field (Term.string "OneHeavyLoad$Reader" 85) "java/lang/String" "value" "[B")) (.int (Int32.ofNat 4)), Cond.eq (.elem (.field (Term.string "OneHeavyLoad$Reader" 85) "java/lang/String" "value" "[B") (.int (Int32.ofNat 0))) (.int 108), Cond.eq (.elem (.field (Term.string "OneHeavyLoad$Reader" 85) "java/lang/String" "value" "[B") (.int (Int32.ofNat 1))) (.int 111), Cond.eq (.elem (.field (Term.string "OneHeavyLoad$Reader" 85) "java/lang/String" "value" "[B") (.int (Int32.ofNat 2))) (.int 97), Cond.eq (.elem (.field (Term.string "OneHeavyLoad$Reader" 85) "java/lang/String" "value" "[B") (.int (Int32.ofNat 3))) (.int 100), Cond.exactly (Term.string "OneHeavyLoad$Reader" 94) "java/lang/String", Cond.eq (.field (Term.string "OneHeavyLoad$Reader" 94) "java/lang/String" "coder" "B") (.int 0), Cond.arrayOf (.field (Term.string "OneHeavyLoad$Reader" 94) "java/lang/String" "value" "[B") .byte, Cond.eq (.length (.field (Term.string "OneHeavyLoad$Reader" 94) "java/lang/String" "value" "[B")) (.int (Int32.ofNat 4)), Cond.eq (.elem (.field (Term.string "OneHeavyLoad$Reader" 94) "java/lang/String" "value" "[B") (.int (Int32.ofNat 0))) (.int 109), Cond.eq (.elem (.field (Term.string "OneHeavyLoad$Reader" 94) "java/lang/String" "value" "[B") (.int (Int32.ofNat 1))) (.int 105), Cond.eq (.elem (.field (Term.string "OneHeavyLoad$Reader" 94) "java/lang/String" "value" "[B") (.int (Int32.ofNat 2))) (.int 108), Cond.eq (.elem (.field (Term.string "OneHeavyLoad$Reader" 94) "java/lang/String" "value" "[B") (.int (Int32.ofNat 3))) (.int 101), Cond.exactly (Term.string "OneHeavyLoadModel" 200) "java/lang/String", Cond.eq (.field (Term.string "OneHeavyLoadModel" 200) "java/lang/String" "coder" "B") (.int 0), Cond.arrayOf (.field (Term.string "OneHeavyLoadModel" 200) "java/lang/String" "value" "[B") .byte, Cond.eq (.length (.field (Term.string "OneHeavyLoadModel" 200) "java/lang/String" "value" "[B")) (.int (Int32.ofNat 4)), Cond.eq (.elem (.field (Term.string "OneHeavyLoadModel" 200) "java/lang/String" "value" "[B") (.int (Int32.ofNat 0))) (.int 114), Cond.eq (.elem (.field (Term.string "OneHeavyLoadModel" 200) "java/lang/String" "value" "[B") (.int (Int32.ofNat 1))) (.int 111), Cond.eq (.elem (.field (Term.string "OneHeavyLoadModel" 200) "java/lang/String" "value" "[B") (.int (Int32.ofNat 2))) (.int 97), Cond.eq (.elem (.field (Term.string "OneHeavyLoadModel" 200) "java/lang/String" "value" "[B") (.int (Int32.ofNat 3))) (.int 100), Cond.exactly (Term.string "OneHeavyLoadModel" 219) "java/lang/String", Cond.eq (.field (Term.string "OneHeavyLoadModel" 219) "java/lang/String" "coder" "B") (.int 0), Cond.arrayOf (.field (Term.string "OneHeavyLoadModel" 219) "java/lang/String" "value" "[B") .byte, Cond.eq (.length (.field (Term.string "OneHeavyLoadModel" 219) "java/lang/String" "value" "[B")) (.int (Int32.ofNat 5)), Cond.eq (.elem (.field (Term.string "OneHeavyLoadModel" 219) "java/lang/String" "value" "[B") (.int (Int32.ofNat 0))) (.int 109), Cond.eq (.elem (.field (Term.string "OneHeavyLoadModel" 219) "java/lang/String" "value" "[B") (.int (Int32.ofNat 1))) (.int 105), Cond.eq (.elem (.field (Term.string "OneHeavyLoadModel" 219) "java/lang/String" "value" "[B") (.int (Int32.ofNat 2))) (.int 108), Cond.eq (.elem (.field (Term.string "OneHeavyLoadModel" 219) "java/lang/String" "value" "[B") (.int (Int32.ofNat 3))) (.int 101), Cond.eq (.elem (.field (Term.string "OneHeavyLoadModel" 219) "java/lang/String" "value" "[B") (.int (Int32.ofNat 4))) (.int 115), Cond.exactly (Term.string "OneHeavyLoadModel" 221) "java/lang/String", Cond.eq (.field (Term.string "OneHeavyLoadModel" 221) "java/lang/String" "coder" "B") (.int 0), Cond.arrayOf (.field (Term.string "OneHeavyLoadModel" 221) "java/lang/String" "value" "[B") .byte, Cond.eq (.length (.field (Term.string "OneHeavyLoadModel" 221) "java/lang/String" "value" "[B")) (.int (Int32.ofNat 4)), Cond.eq (.elem (.field (Term.string "OneHeavyLoadModel" 221) "java/lang/String" "value" "[B") (.int (Int32.ofNat 0))) (.int 114), Cond.eq (.elem (.field (Term.string "OneHeavyLoadModel" 221) "java/lang/String" "value" "[B") (.int (Int32.ofNat 1))) (.int 105), Cond.eq (.elem (.field (Term.string "OneHeavyLoadModel" 221) "java/lang/String" "value" "[B") (.int (Int32.ofNat 2))) (.int 115), Cond.eq (.elem (.field (Term.string "OneHeavyLoadModel" 221) "java/lang/String" "value" "[B") (.int (Int32.ofNat 3))) (.int 101)] : List Cond), x ∈ flatC (Jvm.Cond.and given_1 narrow_1) := by decide +kernel
set_option maxRecDepth 100000 in
set_option maxHeartbeats 4000000 in
theorem lw_sc4 : ∀ x ∈ ([Cond.exactly (Term.string "OneHeavyLoadModel" 226) "java/lang/String", Cond.eq (.field (Term.string "OneHeavyLoadModel" 226) "java/lang/String" "coder" "B") (.int 0), Cond.arrayOf (.field (Term.string "OneHeavyLoadModel" 226) "java/lang/String" "value" "[B") .byte, Cond.eq (.length (.field (Term.string "OneHeavyLoadModel" 226) "java/lang/String" "value" "[B")) (.int (Int32.ofNat 4)), Cond.eq (.elem (.field (Term.string "OneHeavyLoadModel" 226) "java/lang/String" "value" "[B") (.int (Int32.ofNat 0))) (.int 116), Cond.eq (.elem (.field (Term.string "OneHeavyLoadModel" 226) "java/lang/String" "value" "[B") (.int (Int32.ofNat 1))) (.int 117), Cond.eq (.elem (.field (Term.string "OneHeavyLoadModel" 226) "java/lang/String" "value" "[B") (.int (Int32.ofNat 2))) (.int 114), Cond.eq (.elem (.field (Term.string "OneHeavyLoadModel" 226) "java/lang/String" "value" "[B") (.int (Int32.ofNat 3))) (.int 110), Cond.exactly (Term.string "OneHeavyLoadModel" 228) "java/lang/String", Cond.eq (.field (Term.string "OneHeavyLoadModel" 228) "java/lang/String" "coder" "B") (.int 0), Cond.arrayOf (.field (Term.string "OneHeavyLoadModel" 228) "java/lang/String" "value" "[B") .byte, Cond.eq (.length (.field (Term.string "OneHeavyLoadModel" 228) "java/lang/String" "value" "[B")) (.int (Int32.ofNat 6)), Cond.eq (.elem (.field (Term.string "OneHeavyLoadModel" 228) "java/lang/String" "value" "[B") (.int (Int32.ofNat 0))) (.int 112), Cond.eq (.elem (.field (Term.string "OneHeavyLoadModel" 228) "java/lang/String" "value" "[B") (.int (Int32.ofNat 1))) (.int 97), Cond.eq (.elem (.field (Term.string "OneHeavyLoadModel" 228) "java/lang/String" "value" "[B") (.int (Int32.ofNat 2))) (.int 114), Cond.eq (.elem (.field (Term.string "OneHeavyLoadModel" 228) "java/lang/String" "value" "[B") (.int (Int32.ofNat 3))) (.int 105), Cond.eq (.elem (.field (Term.string "OneHeavyLoadModel" 228) "java/lang/String" "value" "[B") (.int (Int32.ofNat 4))) (.int 115), Cond.eq (.elem (.field (Term.string "OneHeavyLoadModel" 228) "java/lang/String" "value" "[B") (.int (Int32.ofNat 5))) (.int 104), Cond.exactly (Term.string "OneHeavyLoadModel" 205) "java/lang/String", Cond.eq (.field (Term.string "OneHeavyLoadModel" 205) "java/lang/String" "coder" "B") (.int 0), Cond.arrayOf (.field (Term.string "OneHeavyLoadModel" 205) "java/lang/String" "value" "[B") .byte, Cond.eq (.length (.field (Term.string "OneHeavyLoadModel" 205) "java/lang/String" "value" "[B")) (.int (Int32.ofNat 6)), Cond.eq (.elem (.field (Term.string "OneHeavyLoadModel" 205) "java/lang/String" "value" "[B") (.int (Int32.ofNat 0))) (.int 98), Cond.eq (.elem (.field (Term.string "OneHeavyLoadModel" 205) "java/lang/String" "value" "[B") (.int (Int32.ofNat 1))) (.int 114), Cond.eq (.elem (.field (Term.string "OneHeavyLoadModel" 205) "java/lang/String" "value" "[B") (.int (Int32.ofNat 2))) (.int 105), Cond.eq (.elem (.field (Term.string "OneHeavyLoadModel" 205) "java/lang/String" "value" "[B") (.int (Int32.ofNat 3))) (.int 100), Cond.eq (.elem (.field (Term.string "OneHeavyLoadModel" 205) "java/lang/String" "value" "[B") (.int (Int32.ofNat 4))) (.int 103), Cond.eq (.elem (.field (Term.string "OneHeavyLoadModel" 205) "java/lang/String" "value" "[B") (.int (Int32.ofNat 5))) (.int 101), Cond.exactly (Term.string "OneHeavyLoadModel" 230) "java/lang/String", Cond.eq (.field (Term.string "OneHeavyLoadModel" 230) "java/lang/String" "coder" "B") (.int 0), Cond.arrayOf (.field (Term.string "OneHeavyLoadModel" 230) "java/lang/String" "value" "[B") .byte, Cond.eq (.length (.field (Term.string "OneHeavyLoadModel" 230) "java/lang/String" "value" "[B")) (.int (Int32.ofNat 4)), Cond.eq (.elem (.field (Term.string "OneHeavyLoadModel" 230) "java/lang/String" "value" "[B") (.int (Int32.ofNat 0))) (.int 107), Cond.eq (.elem (.field (Term.string "OneHeavyLoadModel" 230) "java/lang/String" "value" "[B") (.int (Int32.ofNat 1))) (.int 105), Cond.eq (.elem (.field (Term.string "OneHeavyLoadModel" 230) "java/lang/String" "value" "[B") (.int (Int32.ofNat 2))) (.int 110), Cond.eq (.elem (.field (Term.string "OneHeavyLoadModel" 230) "java/lang/String" "value" "[B") (.int (Int32.ofNat 3))) (.int 100), Cond.exactly (Term.string "OneHeavyLoadModel" 232) "java/lang/String", Cond.eq (.field (Term.string "OneHeavyLoadModel" 232) "java/lang/String" "coder" "B") (.int 0), Cond.arrayOf (.field (Term.string "OneHeavyLoadModel" 232) "java/lang/String" "value" "[B") .byte, Cond.eq (.length (.field (Term.string "OneHeavyLoadModel" 232) "java/lang/String" "value" "[B")) (.int (Int32.ofNat 4)), Cond.eq (.elem (.field (Term.string "OneHeavyLoadModel" 232) "java/lang/String" "value" "[B") (.int (Int32.ofNat 0))) (.int 115), Cond.eq (.elem (.field (Term.string "OneHeavyLoadModel" 232) "java/lang/String" "value" "[B") (.int (Int32.ofNat 1))) (.int 112), Cond.eq (.elem (.field (Term.string "OneHeavyLoadModel" 232) "java/lang/String" "value" "[B") (.int (Int32.ofNat 2))) (.int 97), Cond.eq (.elem (.field (Term.string "OneHeavyLoadModel" 232) "java/lang/String" "value" "[B") (.int (Int32.ofNat 3))) (.int 110)] : List Cond), x ∈ flatC (Jvm.Cond.and given_1 narrow_1) := by decide +kernel
set_option maxRecDepth 100000 in
set_option maxHeartbeats 4000000 in
theorem lw_sc5 : ∀ x ∈ ([Cond.exactly (Term.string "OneHeavyLoadModel" 234) "java/lang/String", Cond.eq (.field (Term.string "OneHeavyLoadModel" 234) "java/lang/String" "coder" "B") (.int 0), Cond.arrayOf (.field (Term.string "OneHeavyLoadModel" 234) "java/lang/String" "value" "[B") .byte, Cond.eq (.length (.field (Term.string "OneHeavyLoadModel" 234) "java/lang/String" "value" "[B")) (.int (Int32.ofNat 4)), Cond.eq (.elem (.field (Term.string "OneHeavyLoadModel" 234) "java/lang/String" "value" "[B") (.int (Int32.ofNat 0))) (.int 97), Cond.eq (.elem (.field (Term.string "OneHeavyLoadModel" 234) "java/lang/String" "value" "[B") (.int (Int32.ofNat 1))) (.int 120), Cond.eq (.elem (.field (Term.string "OneHeavyLoadModel" 234) "java/lang/String" "value" "[B") (.int (Int32.ofNat 2))) (.int 108), Cond.eq (.elem (.field (Term.string "OneHeavyLoadModel" 234) "java/lang/String" "value" "[B") (.int (Int32.ofNat 3))) (.int 101), Cond.exactly (Term.string "OneHeavyLoadModel" 236) "java/lang/String", Cond.eq (.field (Term.string "OneHeavyLoadModel" 236) "java/lang/String" "coder" "B") (.int 0), Cond.arrayOf (.field (Term.string "OneHeavyLoadModel" 236) "java/lang/String" "value" "[B") .byte, Cond.eq (.length (.field (Term.string "OneHeavyLoadModel" 236) "java/lang/String" "value" "[B")) (.int (Int32.ofNat 3)), Cond.eq (.elem (.field (Term.string "OneHeavyLoadModel" 236) "java/lang/String" "value" "[B") (.int (Int32.ofNat 0))) (.int 97), Cond.eq (.elem (.field (Term.string "OneHeavyLoadModel" 236) "java/lang/String" "value" "[B") (.int (Int32.ofNat 1))) (.int 108), Cond.eq (.elem (.field (Term.string "OneHeavyLoadModel" 236) "java/lang/String" "value" "[B") (.int (Int32.ofNat 2))) (.int 108), Cond.exactly (Term.string "OneHeavyLoadModel" 238) "java/lang/String", Cond.eq (.field (Term.string "OneHeavyLoadModel" 238) "java/lang/String" "coder" "B") (.int 0), Cond.arrayOf (.field (Term.string "OneHeavyLoadModel" 238) "java/lang/String" "value" "[B") .byte, Cond.eq (.length (.field (Term.string "OneHeavyLoadModel" 238) "java/lang/String" "value" "[B")) (.int (Int32.ofNat 4)), Cond.eq (.elem (.field (Term.string "OneHeavyLoadModel" 238) "java/lang/String" "value" "[B") (.int (Int32.ofNat 0))) (.int 112), Cond.eq (.elem (.field (Term.string "OneHeavyLoadModel" 238) "java/lang/String" "value" "[B") (.int (Int32.ofNat 1))) (.int 114), Cond.eq (.elem (.field (Term.string "OneHeavyLoadModel" 238) "java/lang/String" "value" "[B") (.int (Int32.ofNat 2))) (.int 111), Cond.eq (.elem (.field (Term.string "OneHeavyLoadModel" 238) "java/lang/String" "value" "[B") (.int (Int32.ofNat 3))) (.int 112), Cond.exactly (Term.string "OneHeavyLoadModel" 209) "java/lang/String", Cond.eq (.field (Term.string "OneHeavyLoadModel" 209) "java/lang/String" "coder" "B") (.int 0), Cond.arrayOf (.field (Term.string "OneHeavyLoadModel" 209) "java/lang/String" "value" "[B") .byte, Cond.eq (.length (.field (Term.string "OneHeavyLoadModel" 209) "java/lang/String" "value" "[B")) (.int (Int32.ofNat 6)), Cond.eq (.elem (.field (Term.string "OneHeavyLoadModel" 209) "java/lang/String" "value" "[B") (.int (Int32.ofNat 0))) (.int 119), Cond.eq (.elem (.field (Term.string "OneHeavyLoadModel" 209) "java/lang/String" "value" "[B") (.int (Int32.ofNat 1))) (.int 97), Cond.eq (.elem (.field (Term.string "OneHeavyLoadModel" 209) "java/lang/String" "value" "[B") (.int (Int32.ofNat 2))) (.int 103), Cond.eq (.elem (.field (Term.string "OneHeavyLoadModel" 209) "java/lang/String" "value" "[B") (.int (Int32.ofNat 3))) (.int 103), Cond.eq (.elem (.field (Term.string "OneHeavyLoadModel" 209) "java/lang/String" "value" "[B") (.int (Int32.ofNat 4))) (.int 111), Cond.eq (.elem (.field (Term.string "OneHeavyLoadModel" 209) "java/lang/String" "value" "[B") (.int (Int32.ofNat 5))) (.int 110), Cond.exactly (Term.string "OneHeavyLoadModel" 210) "java/lang/String", Cond.eq (.field (Term.string "OneHeavyLoadModel" 210) "java/lang/String" "coder" "B") (.int 0), Cond.arrayOf (.field (Term.string "OneHeavyLoadModel" 210) "java/lang/String" "value" "[B") .byte, Cond.eq (.length (.field (Term.string "OneHeavyLoadModel" 210) "java/lang/String" "value" "[B")) (.int (Int32.ofNat 5)), Cond.eq (.elem (.field (Term.string "OneHeavyLoadModel" 210) "java/lang/String" "value" "[B") (.int (Int32.ofNat 0))) (.int 115), Cond.eq (.elem (.field (Term.string "OneHeavyLoadModel" 210) "java/lang/String" "value" "[B") (.int (Int32.ofNat 1))) (.int 112), Cond.eq (.elem (.field (Term.string "OneHeavyLoadModel" 210) "java/lang/String" "value" "[B") (.int (Int32.ofNat 2))) (.int 97), Cond.eq (.elem (.field (Term.string "OneHeavyLoadModel" 210) "java/lang/String" "value" "[B") (.int (Int32.ofNat 3))) (.int 99), Cond.eq (.elem (.field (Term.string "OneHeavyLoadModel" 210) "java/lang/String" "value" "[B") (.int (Int32.ofNat 4))) (.int 101)] : List Cond), x ∈ flatC (Jvm.Cond.and given_1 narrow_1) := by decide +kernel
set_option maxRecDepth 100000 in
set_option maxHeartbeats 4000000 in
theorem lw_sc6 : ∀ x ∈ ([Cond.exactly (Term.string "OneHeavyLoadModel" 212) "java/lang/String", Cond.eq (.field (Term.string "OneHeavyLoadModel" 212) "java/lang/String" "coder" "B") (.int 0), Cond.arrayOf (.field (Term.string "OneHeavyLoadModel" 212) "java/lang/String" "value" "[B") .byte, Cond.eq (.length (.field (Term.string "OneHeavyLoadModel" 212) "java/lang/String" "value" "[B")) (.int (Int32.ofNat 4)), Cond.eq (.elem (.field (Term.string "OneHeavyLoadModel" 212) "java/lang/String" "value" "[B") (.int (Int32.ofNat 0))) (.int 116), Cond.eq (.elem (.field (Term.string "OneHeavyLoadModel" 212) "java/lang/String" "value" "[B") (.int (Int32.ofNat 1))) (.int 97), Cond.eq (.elem (.field (Term.string "OneHeavyLoadModel" 212) "java/lang/String" "value" "[B") (.int (Int32.ofNat 2))) (.int 114), Cond.eq (.elem (.field (Term.string "OneHeavyLoadModel" 212) "java/lang/String" "value" "[B") (.int (Int32.ofNat 3))) (.int 101), Cond.exactly (Term.string "OneHeavyLoadModel" 214) "java/lang/String", Cond.eq (.field (Term.string "OneHeavyLoadModel" 214) "java/lang/String" "coder" "B") (.int 0), Cond.arrayOf (.field (Term.string "OneHeavyLoadModel" 214) "java/lang/String" "value" "[B") .byte, Cond.eq (.length (.field (Term.string "OneHeavyLoadModel" 214) "java/lang/String" "value" "[B")) (.int (Int32.ofNat 4)), Cond.eq (.elem (.field (Term.string "OneHeavyLoadModel" 214) "java/lang/String" "value" "[B") (.int (Int32.ofNat 0))) (.int 112), Cond.eq (.elem (.field (Term.string "OneHeavyLoadModel" 214) "java/lang/String" "value" "[B") (.int (Int32.ofNat 1))) (.int 97), Cond.eq (.elem (.field (Term.string "OneHeavyLoadModel" 214) "java/lang/String" "value" "[B") (.int (Int32.ofNat 2))) (.int 114), Cond.eq (.elem (.field (Term.string "OneHeavyLoadModel" 214) "java/lang/String" "value" "[B") (.int (Int32.ofNat 3))) (.int 116), Cond.exactly (Term.string "OneHeavyLoadModel" 215) "java/lang/String", Cond.eq (.field (Term.string "OneHeavyLoadModel" 215) "java/lang/String" "coder" "B") (.int 0), Cond.arrayOf (.field (Term.string "OneHeavyLoadModel" 215) "java/lang/String" "value" "[B") .byte, Cond.eq (.length (.field (Term.string "OneHeavyLoadModel" 215) "java/lang/String" "value" "[B")) (.int (Int32.ofNat 4)), Cond.eq (.elem (.field (Term.string "OneHeavyLoadModel" 215) "java/lang/String" "value" "[B") (.int (Int32.ofNat 0))) (.int 108), Cond.eq (.elem (.field (Term.string "OneHeavyLoadModel" 215) "java/lang/String" "value" "[B") (.int (Int32.ofNat 1))) (.int 111), Cond.eq (.elem (.field (Term.string "OneHeavyLoadModel" 215) "java/lang/String" "value" "[B") (.int (Int32.ofNat 2))) (.int 97), Cond.eq (.elem (.field (Term.string "OneHeavyLoadModel" 215) "java/lang/String" "value" "[B") (.int (Int32.ofNat 3))) (.int 100), Cond.exactly (Term.string "OneHeavyLoadModel" 217) "java/lang/String", Cond.eq (.field (Term.string "OneHeavyLoadModel" 217) "java/lang/String" "coder" "B") (.int 0), Cond.arrayOf (.field (Term.string "OneHeavyLoadModel" 217) "java/lang/String" "value" "[B") .byte, Cond.eq (.length (.field (Term.string "OneHeavyLoadModel" 217) "java/lang/String" "value" "[B")) (.int (Int32.ofNat 4)), Cond.eq (.elem (.field (Term.string "OneHeavyLoadModel" 217) "java/lang/String" "value" "[B") (.int (Int32.ofNat 0))) (.int 109), Cond.eq (.elem (.field (Term.string "OneHeavyLoadModel" 217) "java/lang/String" "value" "[B") (.int (Int32.ofNat 1))) (.int 105), Cond.eq (.elem (.field (Term.string "OneHeavyLoadModel" 217) "java/lang/String" "value" "[B") (.int (Int32.ofNat 2))) (.int 108), Cond.eq (.elem (.field (Term.string "OneHeavyLoadModel" 217) "java/lang/String" "value" "[B") (.int (Int32.ofNat 3))) (.int 101)] : List Cond), x ∈ flatC (Jvm.Cond.and given_1 narrow_1) := by decide +kernel
set_option maxHeartbeats 4000000 in
set_option maxRecDepth 100000 in
theorem lw_st0 {s : State} {b : Nat} (hs : ∀ x ∈ flatC (Jvm.Cond.and given_1 narrow_1), x.before #[Value.ref b] s = true) (hnA : ∀ a : Nat, a < s.heap.size → ¬ (fun q : Nat => s.heap.size ≤ q) a) : ∃ K V : Nat, (va_O "java/lang/String" K (fun q => s.heap.size ≤ q) s s.heap ∧ va_OF "java/lang/String" "coder" "B" (.int 0) K (fun q => s.heap.size ≤ q) s s.heap ∧ va_OF "java/lang/String" "value" "[B" (.ref V) K (fun q => s.heap.size ≤ q) s s.heap ∧ va_T .byte V (oh_len 0) (fun i => .int (oh_byt 0 i)) (fun q => s.heap.size ≤ q) s s.heap) ∧ (Term.string "OneHeavyLoad$Reader" 61).eval #[Value.ref b] s none [] s = some (.ref K) := by
  have a1 : ∀ i : Nat, i < 1 → ([4] : List Nat).getD i 0 < 2 ^ 31 := by
    intro i hi
    obtain rfl : i = 0 := by omega
    decide
  have a2 : ∀ i : Nat, i < 1 → (Cond.eq (.length (.field (.string "OneHeavyLoad$Reader" 61) "java/lang/String" "value" "[B")) (.int (Int32.ofNat (([4] : List Nat).getD i 0)))).before #[Value.ref b] s = true := by
    intro i hi
    obtain rfl : i = 0 := by omega
    exact hs _ (lw_sc0 _ (List.mem_of_getElem? (i := 3) rfl))
  have a3 : ∀ i : Nat, i < 1 → ∀ j : Nat, j < ([4] : List Nat).getD i 0 → (Cond.eq (.elem (.field (.string "OneHeavyLoad$Reader" 61) "java/lang/String" "value" "[B") (.int (Int32.ofNat j))) (.int (([[114, 111, 97, 100]] : List (List Int32)).getD i [] |>.getD j 0))).before #[Value.ref b] s = true := by
    intro i hi j hj
    obtain rfl : i = 0 := by omega
    have hj : j < 4 := hj
    rcases (show j = 0 ∨ j = 1 ∨ j = 2 ∨ j = 3 by omega) with rfl | rfl | rfl | rfl
    · exact hs _ (lw_sc0 _ (List.mem_of_getElem? (i := 4) rfl))
    · exact hs _ (lw_sc0 _ (List.mem_of_getElem? (i := 5) rfl))
    · exact hs _ (lw_sc0 _ (List.mem_of_getElem? (i := 6) rfl))
    · exact hs _ (lw_sc0 _ (List.mem_of_getElem? (i := 7) rfl))
  obtain ⟨K, V, S, u⟩ := vk_Sof (args := #[Value.ref b]) (s := s) (N := 1) (tm := fun _ => (Term.string "OneHeavyLoad$Reader" 61)) (len := [4]) (byt := [[114, 111, 97, 100]]) (A := fun q => s.heap.size ≤ q) a1 (fun i hi => hs _ (lw_sc0 _ (List.mem_of_getElem? (i := 0) rfl))) (fun i hi => hs _ (lw_sc0 _ (List.mem_of_getElem? (i := 1) rfl))) (fun i hi => hs _ (lw_sc0 _ (List.mem_of_getElem? (i := 2) rfl))) a2 a3 (fun i j hi hj hne => absurd (show i = j by omega) hne) hnA
  exact ⟨K 0, V 0, S.1 0 (by decide), u 0 (by decide)⟩
set_option maxHeartbeats 4000000 in
set_option maxRecDepth 100000 in
theorem lw_st1 {s : State} {b : Nat} (hs : ∀ x ∈ flatC (Jvm.Cond.and given_1 narrow_1), x.before #[Value.ref b] s = true) (hnA : ∀ a : Nat, a < s.heap.size → ¬ (fun q : Nat => s.heap.size ≤ q) a) : ∃ K V : Nat, (va_O "java/lang/String" K (fun q => s.heap.size ≤ q) s s.heap ∧ va_OF "java/lang/String" "coder" "B" (.int 0) K (fun q => s.heap.size ≤ q) s s.heap ∧ va_OF "java/lang/String" "value" "[B" (.ref V) K (fun q => s.heap.size ≤ q) s s.heap ∧ va_T .byte V (oh_len 1) (fun i => .int (oh_byt 1 i)) (fun q => s.heap.size ≤ q) s s.heap) ∧ (Term.string "OneHeavyLoad$Reader" 117).eval #[Value.ref b] s none [] s = some (.ref K) := by
  have a1 : ∀ i : Nat, i < 1 → ([5] : List Nat).getD i 0 < 2 ^ 31 := by
    intro i hi
    obtain rfl : i = 0 := by omega
    decide
  have a2 : ∀ i : Nat, i < 1 → (Cond.eq (.length (.field (.string "OneHeavyLoad$Reader" 117) "java/lang/String" "value" "[B")) (.int (Int32.ofNat (([5] : List Nat).getD i 0)))).before #[Value.ref b] s = true := by
    intro i hi
    obtain rfl : i = 0 := by omega
    exact hs _ (lw_sc0 _ (List.mem_of_getElem? (i := 11) rfl))
  have a3 : ∀ i : Nat, i < 1 → ∀ j : Nat, j < ([5] : List Nat).getD i 0 → (Cond.eq (.elem (.field (.string "OneHeavyLoad$Reader" 117) "java/lang/String" "value" "[B") (.int (Int32.ofNat j))) (.int (([[109, 105, 108, 101, 115]] : List (List Int32)).getD i [] |>.getD j 0))).before #[Value.ref b] s = true := by
    intro i hi j hj
    obtain rfl : i = 0 := by omega
    have hj : j < 5 := hj
    rcases (show j = 0 ∨ j = 1 ∨ j = 2 ∨ j = 3 ∨ j = 4 by omega) with rfl | rfl | rfl | rfl | rfl
    · exact hs _ (lw_sc0 _ (List.mem_of_getElem? (i := 12) rfl))
    · exact hs _ (lw_sc0 _ (List.mem_of_getElem? (i := 13) rfl))
    · exact hs _ (lw_sc0 _ (List.mem_of_getElem? (i := 14) rfl))
    · exact hs _ (lw_sc0 _ (List.mem_of_getElem? (i := 15) rfl))
    · exact hs _ (lw_sc0 _ (List.mem_of_getElem? (i := 16) rfl))
  obtain ⟨K, V, S, u⟩ := vk_Sof (args := #[Value.ref b]) (s := s) (N := 1) (tm := fun _ => (Term.string "OneHeavyLoad$Reader" 117)) (len := [5]) (byt := [[109, 105, 108, 101, 115]]) (A := fun q => s.heap.size ≤ q) a1 (fun i hi => hs _ (lw_sc0 _ (List.mem_of_getElem? (i := 8) rfl))) (fun i hi => hs _ (lw_sc0 _ (List.mem_of_getElem? (i := 9) rfl))) (fun i hi => hs _ (lw_sc0 _ (List.mem_of_getElem? (i := 10) rfl))) a2 a3 (fun i j hi hj hne => absurd (show i = j by omega) hne) hnA
  exact ⟨K 0, V 0, S.1 0 (by decide), u 0 (by decide)⟩
set_option maxHeartbeats 4000000 in
set_option maxRecDepth 100000 in
theorem lw_st2 {s : State} {b : Nat} (hs : ∀ x ∈ flatC (Jvm.Cond.and given_1 narrow_1), x.before #[Value.ref b] s = true) (hnA : ∀ a : Nat, a < s.heap.size → ¬ (fun q : Nat => s.heap.size ≤ q) a) : ∃ K V : Nat, (va_O "java/lang/String" K (fun q => s.heap.size ≤ q) s s.heap ∧ va_OF "java/lang/String" "coder" "B" (.int 0) K (fun q => s.heap.size ≤ q) s s.heap ∧ va_OF "java/lang/String" "value" "[B" (.ref V) K (fun q => s.heap.size ≤ q) s s.heap ∧ va_T .byte V (oh_len 2) (fun i => .int (oh_byt 2 i)) (fun q => s.heap.size ≤ q) s s.heap) ∧ (Term.string "OneHeavyLoad$Reader" 123).eval #[Value.ref b] s none [] s = some (.ref K) := by
  have a1 : ∀ i : Nat, i < 1 → ([4] : List Nat).getD i 0 < 2 ^ 31 := by
    intro i hi
    obtain rfl : i = 0 := by omega
    decide
  have a2 : ∀ i : Nat, i < 1 → (Cond.eq (.length (.field (.string "OneHeavyLoad$Reader" 123) "java/lang/String" "value" "[B")) (.int (Int32.ofNat (([4] : List Nat).getD i 0)))).before #[Value.ref b] s = true := by
    intro i hi
    obtain rfl : i = 0 := by omega
    exact hs _ (lw_sc0 _ (List.mem_of_getElem? (i := 20) rfl))
  have a3 : ∀ i : Nat, i < 1 → ∀ j : Nat, j < ([4] : List Nat).getD i 0 → (Cond.eq (.elem (.field (.string "OneHeavyLoad$Reader" 123) "java/lang/String" "value" "[B") (.int (Int32.ofNat j))) (.int (([[114, 105, 115, 101]] : List (List Int32)).getD i [] |>.getD j 0))).before #[Value.ref b] s = true := by
    intro i hi j hj
    obtain rfl : i = 0 := by omega
    have hj : j < 4 := hj
    rcases (show j = 0 ∨ j = 1 ∨ j = 2 ∨ j = 3 by omega) with rfl | rfl | rfl | rfl
    · exact hs _ (lw_sc0 _ (List.mem_of_getElem? (i := 21) rfl))
    · exact hs _ (lw_sc0 _ (List.mem_of_getElem? (i := 22) rfl))
    · exact hs _ (lw_sc0 _ (List.mem_of_getElem? (i := 23) rfl))
    · exact hs _ (lw_sc0 _ (List.mem_of_getElem? (i := 24) rfl))
  obtain ⟨K, V, S, u⟩ := vk_Sof (args := #[Value.ref b]) (s := s) (N := 1) (tm := fun _ => (Term.string "OneHeavyLoad$Reader" 123)) (len := [4]) (byt := [[114, 105, 115, 101]]) (A := fun q => s.heap.size ≤ q) a1 (fun i hi => hs _ (lw_sc0 _ (List.mem_of_getElem? (i := 17) rfl))) (fun i hi => hs _ (lw_sc0 _ (List.mem_of_getElem? (i := 18) rfl))) (fun i hi => hs _ (lw_sc0 _ (List.mem_of_getElem? (i := 19) rfl))) a2 a3 (fun i j hi hj hne => absurd (show i = j by omega) hne) hnA
  exact ⟨K 0, V 0, S.1 0 (by decide), u 0 (by decide)⟩
set_option maxHeartbeats 4000000 in
set_option maxRecDepth 100000 in
theorem lw_st3 {s : State} {b : Nat} (hs : ∀ x ∈ flatC (Jvm.Cond.and given_1 narrow_1), x.before #[Value.ref b] s = true) (hnA : ∀ a : Nat, a < s.heap.size → ¬ (fun q : Nat => s.heap.size ≤ q) a) : ∃ K V : Nat, (va_O "java/lang/String" K (fun q => s.heap.size ≤ q) s s.heap ∧ va_OF "java/lang/String" "coder" "B" (.int 0) K (fun q => s.heap.size ≤ q) s s.heap ∧ va_OF "java/lang/String" "value" "[B" (.ref V) K (fun q => s.heap.size ≤ q) s s.heap ∧ va_T .byte V (oh_len 3) (fun i => .int (oh_byt 3 i)) (fun q => s.heap.size ≤ q) s s.heap) ∧ (Term.string "OneHeavyLoad$Reader" 129).eval #[Value.ref b] s none [] s = some (.ref K) := by
  have a1 : ∀ i : Nat, i < 1 → ([4] : List Nat).getD i 0 < 2 ^ 31 := by
    intro i hi
    obtain rfl : i = 0 := by omega
    decide
  have a2 : ∀ i : Nat, i < 1 → (Cond.eq (.length (.field (.string "OneHeavyLoad$Reader" 129) "java/lang/String" "value" "[B")) (.int (Int32.ofNat (([4] : List Nat).getD i 0)))).before #[Value.ref b] s = true := by
    intro i hi
    obtain rfl : i = 0 := by omega
    exact hs _ (lw_sc0 _ (List.mem_of_getElem? (i := 28) rfl))
  have a3 : ∀ i : Nat, i < 1 → ∀ j : Nat, j < ([4] : List Nat).getD i 0 → (Cond.eq (.elem (.field (.string "OneHeavyLoad$Reader" 129) "java/lang/String" "value" "[B") (.int (Int32.ofNat j))) (.int (([[116, 117, 114, 110]] : List (List Int32)).getD i [] |>.getD j 0))).before #[Value.ref b] s = true := by
    intro i hi j hj
    obtain rfl : i = 0 := by omega
    have hj : j < 4 := hj
    rcases (show j = 0 ∨ j = 1 ∨ j = 2 ∨ j = 3 by omega) with rfl | rfl | rfl | rfl
    · exact hs _ (lw_sc0 _ (List.mem_of_getElem? (i := 29) rfl))
    · exact hs _ (lw_sc0 _ (List.mem_of_getElem? (i := 30) rfl))
    · exact hs _ (lw_sc0 _ (List.mem_of_getElem? (i := 31) rfl))
    · exact hs _ (lw_sc0 _ (List.mem_of_getElem? (i := 32) rfl))
  obtain ⟨K, V, S, u⟩ := vk_Sof (args := #[Value.ref b]) (s := s) (N := 1) (tm := fun _ => (Term.string "OneHeavyLoad$Reader" 129)) (len := [4]) (byt := [[116, 117, 114, 110]]) (A := fun q => s.heap.size ≤ q) a1 (fun i hi => hs _ (lw_sc0 _ (List.mem_of_getElem? (i := 25) rfl))) (fun i hi => hs _ (lw_sc0 _ (List.mem_of_getElem? (i := 26) rfl))) (fun i hi => hs _ (lw_sc0 _ (List.mem_of_getElem? (i := 27) rfl))) a2 a3 (fun i j hi hj hne => absurd (show i = j by omega) hne) hnA
  exact ⟨K 0, V 0, S.1 0 (by decide), u 0 (by decide)⟩
set_option maxHeartbeats 4000000 in
set_option maxRecDepth 100000 in
theorem lw_st4 {s : State} {b : Nat} (hs : ∀ x ∈ flatC (Jvm.Cond.and given_1 narrow_1), x.before #[Value.ref b] s = true) (hnA : ∀ a : Nat, a < s.heap.size → ¬ (fun q : Nat => s.heap.size ≤ q) a) : ∃ K V : Nat, (va_O "java/lang/String" K (fun q => s.heap.size ≤ q) s s.heap ∧ va_OF "java/lang/String" "coder" "B" (.int 0) K (fun q => s.heap.size ≤ q) s s.heap ∧ va_OF "java/lang/String" "value" "[B" (.ref V) K (fun q => s.heap.size ≤ q) s s.heap ∧ va_T .byte V (oh_len 4) (fun i => .int (oh_byt 4 i)) (fun q => s.heap.size ≤ q) s s.heap) ∧ (Term.string "OneHeavyLoad$Reader" 131).eval #[Value.ref b] s none [] s = some (.ref K) := by
  have a1 : ∀ i : Nat, i < 1 → ([6] : List Nat).getD i 0 < 2 ^ 31 := by
    intro i hi
    obtain rfl : i = 0 := by omega
    decide
  have a2 : ∀ i : Nat, i < 1 → (Cond.eq (.length (.field (.string "OneHeavyLoad$Reader" 131) "java/lang/String" "value" "[B")) (.int (Int32.ofNat (([6] : List Nat).getD i 0)))).before #[Value.ref b] s = true := by
    intro i hi
    obtain rfl : i = 0 := by omega
    exact hs _ (lw_sc0 _ (List.mem_of_getElem? (i := 36) rfl))
  have a3 : ∀ i : Nat, i < 1 → ∀ j : Nat, j < ([6] : List Nat).getD i 0 → (Cond.eq (.elem (.field (.string "OneHeavyLoad$Reader" 131) "java/lang/String" "value" "[B") (.int (Int32.ofNat j))) (.int (([[112, 97, 114, 105, 115, 104]] : List (List Int32)).getD i [] |>.getD j 0))).before #[Value.ref b] s = true := by
    intro i hi j hj
    obtain rfl : i = 0 := by omega
    have hj : j < 6 := hj
    rcases (show j = 0 ∨ j = 1 ∨ j = 2 ∨ j = 3 ∨ j = 4 ∨ j = 5 by omega) with rfl | rfl | rfl | rfl | rfl | rfl
    · exact hs _ (lw_sc0 _ (List.mem_of_getElem? (i := 37) rfl))
    · exact hs _ (lw_sc0 _ (List.mem_of_getElem? (i := 38) rfl))
    · exact hs _ (lw_sc0 _ (List.mem_of_getElem? (i := 39) rfl))
    · exact hs _ (lw_sc0 _ (List.mem_of_getElem? (i := 40) rfl))
    · exact hs _ (lw_sc0 _ (List.mem_of_getElem? (i := 41) rfl))
    · exact hs _ (lw_sc0 _ (List.mem_of_getElem? (i := 42) rfl))
  obtain ⟨K, V, S, u⟩ := vk_Sof (args := #[Value.ref b]) (s := s) (N := 1) (tm := fun _ => (Term.string "OneHeavyLoad$Reader" 131)) (len := [6]) (byt := [[112, 97, 114, 105, 115, 104]]) (A := fun q => s.heap.size ≤ q) a1 (fun i hi => hs _ (lw_sc0 _ (List.mem_of_getElem? (i := 33) rfl))) (fun i hi => hs _ (lw_sc0 _ (List.mem_of_getElem? (i := 34) rfl))) (fun i hi => hs _ (lw_sc0 _ (List.mem_of_getElem? (i := 35) rfl))) a2 a3 (fun i j hi hj hne => absurd (show i = j by omega) hne) hnA
  exact ⟨K 0, V 0, S.1 0 (by decide), u 0 (by decide)⟩
set_option maxHeartbeats 4000000 in
set_option maxRecDepth 100000 in
theorem lw_st5 {s : State} {b : Nat} (hs : ∀ x ∈ flatC (Jvm.Cond.and given_1 narrow_1), x.before #[Value.ref b] s = true) (hnA : ∀ a : Nat, a < s.heap.size → ¬ (fun q : Nat => s.heap.size ≤ q) a) : ∃ K V : Nat, (va_O "java/lang/String" K (fun q => s.heap.size ≤ q) s s.heap ∧ va_OF "java/lang/String" "coder" "B" (.int 0) K (fun q => s.heap.size ≤ q) s s.heap ∧ va_OF "java/lang/String" "value" "[B" (.ref V) K (fun q => s.heap.size ≤ q) s s.heap ∧ va_T .byte V (oh_len 5) (fun i => .int (oh_byt 5 i)) (fun q => s.heap.size ≤ q) s s.heap) ∧ (Term.string "OneHeavyLoad$Reader" 70).eval #[Value.ref b] s none [] s = some (.ref K) := by
  have a1 : ∀ i : Nat, i < 1 → ([6] : List Nat).getD i 0 < 2 ^ 31 := by
    intro i hi
    obtain rfl : i = 0 := by omega
    decide
  have a2 : ∀ i : Nat, i < 1 → (Cond.eq (.length (.field (.string "OneHeavyLoad$Reader" 70) "java/lang/String" "value" "[B")) (.int (Int32.ofNat (([6] : List Nat).getD i 0)))).before #[Value.ref b] s = true := by
    intro i hi
    obtain rfl : i = 0 := by omega
    exact hs _ (lw_sc1 _ (List.mem_of_getElem? (i := 3) rfl))
  have a3 : ∀ i : Nat, i < 1 → ∀ j : Nat, j < ([6] : List Nat).getD i 0 → (Cond.eq (.elem (.field (.string "OneHeavyLoad$Reader" 70) "java/lang/String" "value" "[B") (.int (Int32.ofNat j))) (.int (([[98, 114, 105, 100, 103, 101]] : List (List Int32)).getD i [] |>.getD j 0))).before #[Value.ref b] s = true := by
    intro i hi j hj
    obtain rfl : i = 0 := by omega
    have hj : j < 6 := hj
    rcases (show j = 0 ∨ j = 1 ∨ j = 2 ∨ j = 3 ∨ j = 4 ∨ j = 5 by omega) with rfl | rfl | rfl | rfl | rfl | rfl
    · exact hs _ (lw_sc1 _ (List.mem_of_getElem? (i := 4) rfl))
    · exact hs _ (lw_sc1 _ (List.mem_of_getElem? (i := 5) rfl))
    · exact hs _ (lw_sc1 _ (List.mem_of_getElem? (i := 6) rfl))
    · exact hs _ (lw_sc1 _ (List.mem_of_getElem? (i := 7) rfl))
    · exact hs _ (lw_sc1 _ (List.mem_of_getElem? (i := 8) rfl))
    · exact hs _ (lw_sc1 _ (List.mem_of_getElem? (i := 9) rfl))
  obtain ⟨K, V, S, u⟩ := vk_Sof (args := #[Value.ref b]) (s := s) (N := 1) (tm := fun _ => (Term.string "OneHeavyLoad$Reader" 70)) (len := [6]) (byt := [[98, 114, 105, 100, 103, 101]]) (A := fun q => s.heap.size ≤ q) a1 (fun i hi => hs _ (lw_sc1 _ (List.mem_of_getElem? (i := 0) rfl))) (fun i hi => hs _ (lw_sc1 _ (List.mem_of_getElem? (i := 1) rfl))) (fun i hi => hs _ (lw_sc1 _ (List.mem_of_getElem? (i := 2) rfl))) a2 a3 (fun i j hi hj hne => absurd (show i = j by omega) hne) hnA
  exact ⟨K 0, V 0, S.1 0 (by decide), u 0 (by decide)⟩
set_option maxHeartbeats 4000000 in
set_option maxRecDepth 100000 in
theorem lw_st6 {s : State} {b : Nat} (hs : ∀ x ∈ flatC (Jvm.Cond.and given_1 narrow_1), x.before #[Value.ref b] s = true) (hnA : ∀ a : Nat, a < s.heap.size → ¬ (fun q : Nat => s.heap.size ≤ q) a) : ∃ K V : Nat, (va_O "java/lang/String" K (fun q => s.heap.size ≤ q) s s.heap ∧ va_OF "java/lang/String" "coder" "B" (.int 0) K (fun q => s.heap.size ≤ q) s s.heap ∧ va_OF "java/lang/String" "value" "[B" (.ref V) K (fun q => s.heap.size ≤ q) s s.heap ∧ va_T .byte V (oh_len 6) (fun i => .int (oh_byt 6 i)) (fun q => s.heap.size ≤ q) s s.heap) ∧ (Term.string "OneHeavyLoad$Reader" 137).eval #[Value.ref b] s none [] s = some (.ref K) := by
  have a1 : ∀ i : Nat, i < 1 → ([4] : List Nat).getD i 0 < 2 ^ 31 := by
    intro i hi
    obtain rfl : i = 0 := by omega
    decide
  have a2 : ∀ i : Nat, i < 1 → (Cond.eq (.length (.field (.string "OneHeavyLoad$Reader" 137) "java/lang/String" "value" "[B")) (.int (Int32.ofNat (([4] : List Nat).getD i 0)))).before #[Value.ref b] s = true := by
    intro i hi
    obtain rfl : i = 0 := by omega
    exact hs _ (lw_sc1 _ (List.mem_of_getElem? (i := 13) rfl))
  have a3 : ∀ i : Nat, i < 1 → ∀ j : Nat, j < ([4] : List Nat).getD i 0 → (Cond.eq (.elem (.field (.string "OneHeavyLoad$Reader" 137) "java/lang/String" "value" "[B") (.int (Int32.ofNat j))) (.int (([[107, 105, 110, 100]] : List (List Int32)).getD i [] |>.getD j 0))).before #[Value.ref b] s = true := by
    intro i hi j hj
    obtain rfl : i = 0 := by omega
    have hj : j < 4 := hj
    rcases (show j = 0 ∨ j = 1 ∨ j = 2 ∨ j = 3 by omega) with rfl | rfl | rfl | rfl
    · exact hs _ (lw_sc1 _ (List.mem_of_getElem? (i := 14) rfl))
    · exact hs _ (lw_sc1 _ (List.mem_of_getElem? (i := 15) rfl))
    · exact hs _ (lw_sc1 _ (List.mem_of_getElem? (i := 16) rfl))
    · exact hs _ (lw_sc1 _ (List.mem_of_getElem? (i := 17) rfl))
  obtain ⟨K, V, S, u⟩ := vk_Sof (args := #[Value.ref b]) (s := s) (N := 1) (tm := fun _ => (Term.string "OneHeavyLoad$Reader" 137)) (len := [4]) (byt := [[107, 105, 110, 100]]) (A := fun q => s.heap.size ≤ q) a1 (fun i hi => hs _ (lw_sc1 _ (List.mem_of_getElem? (i := 10) rfl))) (fun i hi => hs _ (lw_sc1 _ (List.mem_of_getElem? (i := 11) rfl))) (fun i hi => hs _ (lw_sc1 _ (List.mem_of_getElem? (i := 12) rfl))) a2 a3 (fun i j hi hj hne => absurd (show i = j by omega) hne) hnA
  exact ⟨K 0, V 0, S.1 0 (by decide), u 0 (by decide)⟩
set_option maxHeartbeats 4000000 in
set_option maxRecDepth 100000 in
theorem lw_st7 {s : State} {b : Nat} (hs : ∀ x ∈ flatC (Jvm.Cond.and given_1 narrow_1), x.before #[Value.ref b] s = true) (hnA : ∀ a : Nat, a < s.heap.size → ¬ (fun q : Nat => s.heap.size ≤ q) a) : ∃ K V : Nat, (va_O "java/lang/String" K (fun q => s.heap.size ≤ q) s s.heap ∧ va_OF "java/lang/String" "coder" "B" (.int 0) K (fun q => s.heap.size ≤ q) s s.heap ∧ va_OF "java/lang/String" "value" "[B" (.ref V) K (fun q => s.heap.size ≤ q) s s.heap ∧ va_T .byte V (oh_len 7) (fun i => .int (oh_byt 7 i)) (fun q => s.heap.size ≤ q) s s.heap) ∧ (Term.string "OneHeavyLoad$Reader" 139).eval #[Value.ref b] s none [] s = some (.ref K) := by
  have a1 : ∀ i : Nat, i < 1 → ([4] : List Nat).getD i 0 < 2 ^ 31 := by
    intro i hi
    obtain rfl : i = 0 := by omega
    decide
  have a2 : ∀ i : Nat, i < 1 → (Cond.eq (.length (.field (.string "OneHeavyLoad$Reader" 139) "java/lang/String" "value" "[B")) (.int (Int32.ofNat (([4] : List Nat).getD i 0)))).before #[Value.ref b] s = true := by
    intro i hi
    obtain rfl : i = 0 := by omega
    exact hs _ (lw_sc1 _ (List.mem_of_getElem? (i := 21) rfl))
  have a3 : ∀ i : Nat, i < 1 → ∀ j : Nat, j < ([4] : List Nat).getD i 0 → (Cond.eq (.elem (.field (.string "OneHeavyLoad$Reader" 139) "java/lang/String" "value" "[B") (.int (Int32.ofNat j))) (.int (([[115, 112, 97, 110]] : List (List Int32)).getD i [] |>.getD j 0))).before #[Value.ref b] s = true := by
    intro i hi j hj
    obtain rfl : i = 0 := by omega
    have hj : j < 4 := hj
    rcases (show j = 0 ∨ j = 1 ∨ j = 2 ∨ j = 3 by omega) with rfl | rfl | rfl | rfl
    · exact hs _ (lw_sc1 _ (List.mem_of_getElem? (i := 22) rfl))
    · exact hs _ (lw_sc1 _ (List.mem_of_getElem? (i := 23) rfl))
    · exact hs _ (lw_sc1 _ (List.mem_of_getElem? (i := 24) rfl))
    · exact hs _ (lw_sc1 _ (List.mem_of_getElem? (i := 25) rfl))
  obtain ⟨K, V, S, u⟩ := vk_Sof (args := #[Value.ref b]) (s := s) (N := 1) (tm := fun _ => (Term.string "OneHeavyLoad$Reader" 139)) (len := [4]) (byt := [[115, 112, 97, 110]]) (A := fun q => s.heap.size ≤ q) a1 (fun i hi => hs _ (lw_sc1 _ (List.mem_of_getElem? (i := 18) rfl))) (fun i hi => hs _ (lw_sc1 _ (List.mem_of_getElem? (i := 19) rfl))) (fun i hi => hs _ (lw_sc1 _ (List.mem_of_getElem? (i := 20) rfl))) a2 a3 (fun i j hi hj hne => absurd (show i = j by omega) hne) hnA
  exact ⟨K 0, V 0, S.1 0 (by decide), u 0 (by decide)⟩
set_option maxHeartbeats 4000000 in
set_option maxRecDepth 100000 in
theorem lw_st8 {s : State} {b : Nat} (hs : ∀ x ∈ flatC (Jvm.Cond.and given_1 narrow_1), x.before #[Value.ref b] s = true) (hnA : ∀ a : Nat, a < s.heap.size → ¬ (fun q : Nat => s.heap.size ≤ q) a) : ∃ K V : Nat, (va_O "java/lang/String" K (fun q => s.heap.size ≤ q) s s.heap ∧ va_OF "java/lang/String" "coder" "B" (.int 0) K (fun q => s.heap.size ≤ q) s s.heap ∧ va_OF "java/lang/String" "value" "[B" (.ref V) K (fun q => s.heap.size ≤ q) s s.heap ∧ va_T .byte V (oh_len 8) (fun i => .int (oh_byt 8 i)) (fun q => s.heap.size ≤ q) s s.heap) ∧ (Term.string "OneHeavyLoad$Reader" 141).eval #[Value.ref b] s none [] s = some (.ref K) := by
  have a1 : ∀ i : Nat, i < 1 → ([4] : List Nat).getD i 0 < 2 ^ 31 := by
    intro i hi
    obtain rfl : i = 0 := by omega
    decide
  have a2 : ∀ i : Nat, i < 1 → (Cond.eq (.length (.field (.string "OneHeavyLoad$Reader" 141) "java/lang/String" "value" "[B")) (.int (Int32.ofNat (([4] : List Nat).getD i 0)))).before #[Value.ref b] s = true := by
    intro i hi
    obtain rfl : i = 0 := by omega
    exact hs _ (lw_sc1 _ (List.mem_of_getElem? (i := 29) rfl))
  have a3 : ∀ i : Nat, i < 1 → ∀ j : Nat, j < ([4] : List Nat).getD i 0 → (Cond.eq (.elem (.field (.string "OneHeavyLoad$Reader" 141) "java/lang/String" "value" "[B") (.int (Int32.ofNat j))) (.int (([[97, 120, 108, 101]] : List (List Int32)).getD i [] |>.getD j 0))).before #[Value.ref b] s = true := by
    intro i hi j hj
    obtain rfl : i = 0 := by omega
    have hj : j < 4 := hj
    rcases (show j = 0 ∨ j = 1 ∨ j = 2 ∨ j = 3 by omega) with rfl | rfl | rfl | rfl
    · exact hs _ (lw_sc1 _ (List.mem_of_getElem? (i := 30) rfl))
    · exact hs _ (lw_sc1 _ (List.mem_of_getElem? (i := 31) rfl))
    · exact hs _ (lw_sc1 _ (List.mem_of_getElem? (i := 32) rfl))
    · exact hs _ (lw_sc1 _ (List.mem_of_getElem? (i := 33) rfl))
  obtain ⟨K, V, S, u⟩ := vk_Sof (args := #[Value.ref b]) (s := s) (N := 1) (tm := fun _ => (Term.string "OneHeavyLoad$Reader" 141)) (len := [4]) (byt := [[97, 120, 108, 101]]) (A := fun q => s.heap.size ≤ q) a1 (fun i hi => hs _ (lw_sc1 _ (List.mem_of_getElem? (i := 26) rfl))) (fun i hi => hs _ (lw_sc1 _ (List.mem_of_getElem? (i := 27) rfl))) (fun i hi => hs _ (lw_sc1 _ (List.mem_of_getElem? (i := 28) rfl))) a2 a3 (fun i j hi hj hne => absurd (show i = j by omega) hne) hnA
  exact ⟨K 0, V 0, S.1 0 (by decide), u 0 (by decide)⟩
set_option maxHeartbeats 4000000 in
set_option maxRecDepth 100000 in
theorem lw_st9 {s : State} {b : Nat} (hs : ∀ x ∈ flatC (Jvm.Cond.and given_1 narrow_1), x.before #[Value.ref b] s = true) (hnA : ∀ a : Nat, a < s.heap.size → ¬ (fun q : Nat => s.heap.size ≤ q) a) : ∃ K V : Nat, (va_O "java/lang/String" K (fun q => s.heap.size ≤ q) s s.heap ∧ va_OF "java/lang/String" "coder" "B" (.int 0) K (fun q => s.heap.size ≤ q) s s.heap ∧ va_OF "java/lang/String" "value" "[B" (.ref V) K (fun q => s.heap.size ≤ q) s s.heap ∧ va_T .byte V (oh_len 9) (fun i => .int (oh_byt 9 i)) (fun q => s.heap.size ≤ q) s s.heap) ∧ (Term.string "OneHeavyLoad$Reader" 143).eval #[Value.ref b] s none [] s = some (.ref K) := by
  have a1 : ∀ i : Nat, i < 1 → ([3] : List Nat).getD i 0 < 2 ^ 31 := by
    intro i hi
    obtain rfl : i = 0 := by omega
    decide
  have a2 : ∀ i : Nat, i < 1 → (Cond.eq (.length (.field (.string "OneHeavyLoad$Reader" 143) "java/lang/String" "value" "[B")) (.int (Int32.ofNat (([3] : List Nat).getD i 0)))).before #[Value.ref b] s = true := by
    intro i hi
    obtain rfl : i = 0 := by omega
    exact hs _ (lw_sc1 _ (List.mem_of_getElem? (i := 37) rfl))
  have a3 : ∀ i : Nat, i < 1 → ∀ j : Nat, j < ([3] : List Nat).getD i 0 → (Cond.eq (.elem (.field (.string "OneHeavyLoad$Reader" 143) "java/lang/String" "value" "[B") (.int (Int32.ofNat j))) (.int (([[97, 108, 108]] : List (List Int32)).getD i [] |>.getD j 0))).before #[Value.ref b] s = true := by
    intro i hi j hj
    obtain rfl : i = 0 := by omega
    have hj : j < 3 := hj
    rcases (show j = 0 ∨ j = 1 ∨ j = 2 by omega) with rfl | rfl | rfl
    · exact hs _ (lw_sc1 _ (List.mem_of_getElem? (i := 38) rfl))
    · exact hs _ (lw_sc1 _ (List.mem_of_getElem? (i := 39) rfl))
    · exact hs _ (lw_sc1 _ (List.mem_of_getElem? (i := 40) rfl))
  obtain ⟨K, V, S, u⟩ := vk_Sof (args := #[Value.ref b]) (s := s) (N := 1) (tm := fun _ => (Term.string "OneHeavyLoad$Reader" 143)) (len := [3]) (byt := [[97, 108, 108]]) (A := fun q => s.heap.size ≤ q) a1 (fun i hi => hs _ (lw_sc1 _ (List.mem_of_getElem? (i := 34) rfl))) (fun i hi => hs _ (lw_sc1 _ (List.mem_of_getElem? (i := 35) rfl))) (fun i hi => hs _ (lw_sc1 _ (List.mem_of_getElem? (i := 36) rfl))) a2 a3 (fun i j hi hj hne => absurd (show i = j by omega) hne) hnA
  exact ⟨K 0, V 0, S.1 0 (by decide), u 0 (by decide)⟩
set_option maxHeartbeats 4000000 in
set_option maxRecDepth 100000 in
theorem lw_st10 {s : State} {b : Nat} (hs : ∀ x ∈ flatC (Jvm.Cond.and given_1 narrow_1), x.before #[Value.ref b] s = true) (hnA : ∀ a : Nat, a < s.heap.size → ¬ (fun q : Nat => s.heap.size ≤ q) a) : ∃ K V : Nat, (va_O "java/lang/String" K (fun q => s.heap.size ≤ q) s s.heap ∧ va_OF "java/lang/String" "coder" "B" (.int 0) K (fun q => s.heap.size ≤ q) s s.heap ∧ va_OF "java/lang/String" "value" "[B" (.ref V) K (fun q => s.heap.size ≤ q) s s.heap ∧ va_T .byte V (oh_len 10) (fun i => .int (oh_byt 10 i)) (fun q => s.heap.size ≤ q) s s.heap) ∧ (Term.string "OneHeavyLoad$Reader" 145).eval #[Value.ref b] s none [] s = some (.ref K) := by
  have a1 : ∀ i : Nat, i < 1 → ([4] : List Nat).getD i 0 < 2 ^ 31 := by
    intro i hi
    obtain rfl : i = 0 := by omega
    decide
  have a2 : ∀ i : Nat, i < 1 → (Cond.eq (.length (.field (.string "OneHeavyLoad$Reader" 145) "java/lang/String" "value" "[B")) (.int (Int32.ofNat (([4] : List Nat).getD i 0)))).before #[Value.ref b] s = true := by
    intro i hi
    obtain rfl : i = 0 := by omega
    exact hs _ (lw_sc2 _ (List.mem_of_getElem? (i := 3) rfl))
  have a3 : ∀ i : Nat, i < 1 → ∀ j : Nat, j < ([4] : List Nat).getD i 0 → (Cond.eq (.elem (.field (.string "OneHeavyLoad$Reader" 145) "java/lang/String" "value" "[B") (.int (Int32.ofNat j))) (.int (([[112, 114, 111, 112]] : List (List Int32)).getD i [] |>.getD j 0))).before #[Value.ref b] s = true := by
    intro i hi j hj
    obtain rfl : i = 0 := by omega
    have hj : j < 4 := hj
    rcases (show j = 0 ∨ j = 1 ∨ j = 2 ∨ j = 3 by omega) with rfl | rfl | rfl | rfl
    · exact hs _ (lw_sc2 _ (List.mem_of_getElem? (i := 4) rfl))
    · exact hs _ (lw_sc2 _ (List.mem_of_getElem? (i := 5) rfl))
    · exact hs _ (lw_sc2 _ (List.mem_of_getElem? (i := 6) rfl))
    · exact hs _ (lw_sc2 _ (List.mem_of_getElem? (i := 7) rfl))
  obtain ⟨K, V, S, u⟩ := vk_Sof (args := #[Value.ref b]) (s := s) (N := 1) (tm := fun _ => (Term.string "OneHeavyLoad$Reader" 145)) (len := [4]) (byt := [[112, 114, 111, 112]]) (A := fun q => s.heap.size ≤ q) a1 (fun i hi => hs _ (lw_sc2 _ (List.mem_of_getElem? (i := 0) rfl))) (fun i hi => hs _ (lw_sc2 _ (List.mem_of_getElem? (i := 1) rfl))) (fun i hi => hs _ (lw_sc2 _ (List.mem_of_getElem? (i := 2) rfl))) a2 a3 (fun i j hi hj hne => absurd (show i = j by omega) hne) hnA
  exact ⟨K 0, V 0, S.1 0 (by decide), u 0 (by decide)⟩
set_option maxHeartbeats 4000000 in
set_option maxRecDepth 100000 in
theorem lw_st11 {s : State} {b : Nat} (hs : ∀ x ∈ flatC (Jvm.Cond.and given_1 narrow_1), x.before #[Value.ref b] s = true) (hnA : ∀ a : Nat, a < s.heap.size → ¬ (fun q : Nat => s.heap.size ≤ q) a) : ∃ K V : Nat, (va_O "java/lang/String" K (fun q => s.heap.size ≤ q) s s.heap ∧ va_OF "java/lang/String" "coder" "B" (.int 0) K (fun q => s.heap.size ≤ q) s s.heap ∧ va_OF "java/lang/String" "value" "[B" (.ref V) K (fun q => s.heap.size ≤ q) s s.heap ∧ va_T .byte V (oh_len 11) (fun i => .int (oh_byt 11 i)) (fun q => s.heap.size ≤ q) s s.heap) ∧ (Term.string "OneHeavyLoad$Reader" 75).eval #[Value.ref b] s none [] s = some (.ref K) := by
  have a1 : ∀ i : Nat, i < 1 → ([6] : List Nat).getD i 0 < 2 ^ 31 := by
    intro i hi
    obtain rfl : i = 0 := by omega
    decide
  have a2 : ∀ i : Nat, i < 1 → (Cond.eq (.length (.field (.string "OneHeavyLoad$Reader" 75) "java/lang/String" "value" "[B")) (.int (Int32.ofNat (([6] : List Nat).getD i 0)))).before #[Value.ref b] s = true := by
    intro i hi
    obtain rfl : i = 0 := by omega
    exact hs _ (lw_sc2 _ (List.mem_of_getElem? (i := 11) rfl))
  have a3 : ∀ i : Nat, i < 1 → ∀ j : Nat, j < ([6] : List Nat).getD i 0 → (Cond.eq (.elem (.field (.string "OneHeavyLoad$Reader" 75) "java/lang/String" "value" "[B") (.int (Int32.ofNat j))) (.int (([[119, 97, 103, 103, 111, 110]] : List (List Int32)).getD i [] |>.getD j 0))).before #[Value.ref b] s = true := by
    intro i hi j hj
    obtain rfl : i = 0 := by omega
    have hj : j < 6 := hj
    rcases (show j = 0 ∨ j = 1 ∨ j = 2 ∨ j = 3 ∨ j = 4 ∨ j = 5 by omega) with rfl | rfl | rfl | rfl | rfl | rfl
    · exact hs _ (lw_sc2 _ (List.mem_of_getElem? (i := 12) rfl))
    · exact hs _ (lw_sc2 _ (List.mem_of_getElem? (i := 13) rfl))
    · exact hs _ (lw_sc2 _ (List.mem_of_getElem? (i := 14) rfl))
    · exact hs _ (lw_sc2 _ (List.mem_of_getElem? (i := 15) rfl))
    · exact hs _ (lw_sc2 _ (List.mem_of_getElem? (i := 16) rfl))
    · exact hs _ (lw_sc2 _ (List.mem_of_getElem? (i := 17) rfl))
  obtain ⟨K, V, S, u⟩ := vk_Sof (args := #[Value.ref b]) (s := s) (N := 1) (tm := fun _ => (Term.string "OneHeavyLoad$Reader" 75)) (len := [6]) (byt := [[119, 97, 103, 103, 111, 110]]) (A := fun q => s.heap.size ≤ q) a1 (fun i hi => hs _ (lw_sc2 _ (List.mem_of_getElem? (i := 8) rfl))) (fun i hi => hs _ (lw_sc2 _ (List.mem_of_getElem? (i := 9) rfl))) (fun i hi => hs _ (lw_sc2 _ (List.mem_of_getElem? (i := 10) rfl))) a2 a3 (fun i j hi hj hne => absurd (show i = j by omega) hne) hnA
  exact ⟨K 0, V 0, S.1 0 (by decide), u 0 (by decide)⟩
set_option maxHeartbeats 4000000 in
set_option maxRecDepth 100000 in
theorem lw_st12 {s : State} {b : Nat} (hs : ∀ x ∈ flatC (Jvm.Cond.and given_1 narrow_1), x.before #[Value.ref b] s = true) (hnA : ∀ a : Nat, a < s.heap.size → ¬ (fun q : Nat => s.heap.size ≤ q) a) : ∃ K V : Nat, (va_O "java/lang/String" K (fun q => s.heap.size ≤ q) s s.heap ∧ va_OF "java/lang/String" "coder" "B" (.int 0) K (fun q => s.heap.size ≤ q) s s.heap ∧ va_OF "java/lang/String" "value" "[B" (.ref V) K (fun q => s.heap.size ≤ q) s s.heap ∧ va_T .byte V (oh_len 12) (fun i => .int (oh_byt 12 i)) (fun q => s.heap.size ≤ q) s s.heap) ∧ (Term.string "OneHeavyLoad$Reader" 155).eval #[Value.ref b] s none [] s = some (.ref K) := by
  have a1 : ∀ i : Nat, i < 1 → ([5] : List Nat).getD i 0 < 2 ^ 31 := by
    intro i hi
    obtain rfl : i = 0 := by omega
    decide
  have a2 : ∀ i : Nat, i < 1 → (Cond.eq (.length (.field (.string "OneHeavyLoad$Reader" 155) "java/lang/String" "value" "[B")) (.int (Int32.ofNat (([5] : List Nat).getD i 0)))).before #[Value.ref b] s = true := by
    intro i hi
    obtain rfl : i = 0 := by omega
    exact hs _ (lw_sc2 _ (List.mem_of_getElem? (i := 21) rfl))
  have a3 : ∀ i : Nat, i < 1 → ∀ j : Nat, j < ([5] : List Nat).getD i 0 → (Cond.eq (.elem (.field (.string "OneHeavyLoad$Reader" 155) "java/lang/String" "value" "[B") (.int (Int32.ofNat j))) (.int (([[115, 112, 97, 99, 101]] : List (List Int32)).getD i [] |>.getD j 0))).before #[Value.ref b] s = true := by
    intro i hi j hj
    obtain rfl : i = 0 := by omega
    have hj : j < 5 := hj
    rcases (show j = 0 ∨ j = 1 ∨ j = 2 ∨ j = 3 ∨ j = 4 by omega) with rfl | rfl | rfl | rfl | rfl
    · exact hs _ (lw_sc2 _ (List.mem_of_getElem? (i := 22) rfl))
    · exact hs _ (lw_sc2 _ (List.mem_of_getElem? (i := 23) rfl))
    · exact hs _ (lw_sc2 _ (List.mem_of_getElem? (i := 24) rfl))
    · exact hs _ (lw_sc2 _ (List.mem_of_getElem? (i := 25) rfl))
    · exact hs _ (lw_sc2 _ (List.mem_of_getElem? (i := 26) rfl))
  obtain ⟨K, V, S, u⟩ := vk_Sof (args := #[Value.ref b]) (s := s) (N := 1) (tm := fun _ => (Term.string "OneHeavyLoad$Reader" 155)) (len := [5]) (byt := [[115, 112, 97, 99, 101]]) (A := fun q => s.heap.size ≤ q) a1 (fun i hi => hs _ (lw_sc2 _ (List.mem_of_getElem? (i := 18) rfl))) (fun i hi => hs _ (lw_sc2 _ (List.mem_of_getElem? (i := 19) rfl))) (fun i hi => hs _ (lw_sc2 _ (List.mem_of_getElem? (i := 20) rfl))) a2 a3 (fun i j hi hj hne => absurd (show i = j by omega) hne) hnA
  exact ⟨K 0, V 0, S.1 0 (by decide), u 0 (by decide)⟩
set_option maxHeartbeats 4000000 in
set_option maxRecDepth 100000 in
theorem lw_st13 {s : State} {b : Nat} (hs : ∀ x ∈ flatC (Jvm.Cond.and given_1 narrow_1), x.before #[Value.ref b] s = true) (hnA : ∀ a : Nat, a < s.heap.size → ¬ (fun q : Nat => s.heap.size ≤ q) a) : ∃ K V : Nat, (va_O "java/lang/String" K (fun q => s.heap.size ≤ q) s s.heap ∧ va_OF "java/lang/String" "coder" "B" (.int 0) K (fun q => s.heap.size ≤ q) s s.heap ∧ va_OF "java/lang/String" "value" "[B" (.ref V) K (fun q => s.heap.size ≤ q) s s.heap ∧ va_T .byte V (oh_len 13) (fun i => .int (oh_byt 13 i)) (fun q => s.heap.size ≤ q) s s.heap) ∧ (Term.string "OneHeavyLoad$Reader" 157).eval #[Value.ref b] s none [] s = some (.ref K) := by
  have a1 : ∀ i : Nat, i < 1 → ([4] : List Nat).getD i 0 < 2 ^ 31 := by
    intro i hi
    obtain rfl : i = 0 := by omega
    decide
  have a2 : ∀ i : Nat, i < 1 → (Cond.eq (.length (.field (.string "OneHeavyLoad$Reader" 157) "java/lang/String" "value" "[B")) (.int (Int32.ofNat (([4] : List Nat).getD i 0)))).before #[Value.ref b] s = true := by
    intro i hi
    obtain rfl : i = 0 := by omega
    exact hs _ (lw_sc2 _ (List.mem_of_getElem? (i := 30) rfl))
  have a3 : ∀ i : Nat, i < 1 → ∀ j : Nat, j < ([4] : List Nat).getD i 0 → (Cond.eq (.elem (.field (.string "OneHeavyLoad$Reader" 157) "java/lang/String" "value" "[B") (.int (Int32.ofNat j))) (.int (([[116, 97, 114, 101]] : List (List Int32)).getD i [] |>.getD j 0))).before #[Value.ref b] s = true := by
    intro i hi j hj
    obtain rfl : i = 0 := by omega
    have hj : j < 4 := hj
    rcases (show j = 0 ∨ j = 1 ∨ j = 2 ∨ j = 3 by omega) with rfl | rfl | rfl | rfl
    · exact hs _ (lw_sc2 _ (List.mem_of_getElem? (i := 31) rfl))
    · exact hs _ (lw_sc2 _ (List.mem_of_getElem? (i := 32) rfl))
    · exact hs _ (lw_sc2 _ (List.mem_of_getElem? (i := 33) rfl))
    · exact hs _ (lw_sc2 _ (List.mem_of_getElem? (i := 34) rfl))
  obtain ⟨K, V, S, u⟩ := vk_Sof (args := #[Value.ref b]) (s := s) (N := 1) (tm := fun _ => (Term.string "OneHeavyLoad$Reader" 157)) (len := [4]) (byt := [[116, 97, 114, 101]]) (A := fun q => s.heap.size ≤ q) a1 (fun i hi => hs _ (lw_sc2 _ (List.mem_of_getElem? (i := 27) rfl))) (fun i hi => hs _ (lw_sc2 _ (List.mem_of_getElem? (i := 28) rfl))) (fun i hi => hs _ (lw_sc2 _ (List.mem_of_getElem? (i := 29) rfl))) a2 a3 (fun i j hi hj hne => absurd (show i = j by omega) hne) hnA
  exact ⟨K 0, V 0, S.1 0 (by decide), u 0 (by decide)⟩
set_option maxHeartbeats 4000000 in
set_option maxRecDepth 100000 in
theorem lw_st14 {s : State} {b : Nat} (hs : ∀ x ∈ flatC (Jvm.Cond.and given_1 narrow_1), x.before #[Value.ref b] s = true) (hnA : ∀ a : Nat, a < s.heap.size → ¬ (fun q : Nat => s.heap.size ≤ q) a) : ∃ K V : Nat, (va_O "java/lang/String" K (fun q => s.heap.size ≤ q) s s.heap ∧ va_OF "java/lang/String" "coder" "B" (.int 0) K (fun q => s.heap.size ≤ q) s s.heap ∧ va_OF "java/lang/String" "value" "[B" (.ref V) K (fun q => s.heap.size ≤ q) s s.heap ∧ va_T .byte V (oh_len 14) (fun i => .int (oh_byt 14 i)) (fun q => s.heap.size ≤ q) s s.heap) ∧ (Term.string "OneHeavyLoad$Reader" 80).eval #[Value.ref b] s none [] s = some (.ref K) := by
  have a1 : ∀ i : Nat, i < 1 → ([4] : List Nat).getD i 0 < 2 ^ 31 := by
    intro i hi
    obtain rfl : i = 0 := by omega
    decide
  have a2 : ∀ i : Nat, i < 1 → (Cond.eq (.length (.field (.string "OneHeavyLoad$Reader" 80) "java/lang/String" "value" "[B")) (.int (Int32.ofNat (([4] : List Nat).getD i 0)))).before #[Value.ref b] s = true := by
    intro i hi
    obtain rfl : i = 0 := by omega
    exact hs _ (lw_sc2 _ (List.mem_of_getElem? (i := 38) rfl))
  have a3 : ∀ i : Nat, i < 1 → ∀ j : Nat, j < ([4] : List Nat).getD i 0 → (Cond.eq (.elem (.field (.string "OneHeavyLoad$Reader" 80) "java/lang/String" "value" "[B") (.int (Int32.ofNat j))) (.int (([[112, 97, 114, 116]] : List (List Int32)).getD i [] |>.getD j 0))).before #[Value.ref b] s = true := by
    intro i hi j hj
    obtain rfl : i = 0 := by omega
    have hj : j < 4 := hj
    rcases (show j = 0 ∨ j = 1 ∨ j = 2 ∨ j = 3 by omega) with rfl | rfl | rfl | rfl
    · exact hs _ (lw_sc2 _ (List.mem_of_getElem? (i := 39) rfl))
    · exact hs _ (lw_sc2 _ (List.mem_of_getElem? (i := 40) rfl))
    · exact hs _ (lw_sc2 _ (List.mem_of_getElem? (i := 41) rfl))
    · exact hs _ (lw_sc2 _ (List.mem_of_getElem? (i := 42) rfl))
  obtain ⟨K, V, S, u⟩ := vk_Sof (args := #[Value.ref b]) (s := s) (N := 1) (tm := fun _ => (Term.string "OneHeavyLoad$Reader" 80)) (len := [4]) (byt := [[112, 97, 114, 116]]) (A := fun q => s.heap.size ≤ q) a1 (fun i hi => hs _ (lw_sc2 _ (List.mem_of_getElem? (i := 35) rfl))) (fun i hi => hs _ (lw_sc2 _ (List.mem_of_getElem? (i := 36) rfl))) (fun i hi => hs _ (lw_sc2 _ (List.mem_of_getElem? (i := 37) rfl))) a2 a3 (fun i j hi hj hne => absurd (show i = j by omega) hne) hnA
  exact ⟨K 0, V 0, S.1 0 (by decide), u 0 (by decide)⟩
set_option maxHeartbeats 4000000 in
set_option maxRecDepth 100000 in
theorem lw_st15 {s : State} {b : Nat} (hs : ∀ x ∈ flatC (Jvm.Cond.and given_1 narrow_1), x.before #[Value.ref b] s = true) (hnA : ∀ a : Nat, a < s.heap.size → ¬ (fun q : Nat => s.heap.size ≤ q) a) : ∃ K V : Nat, (va_O "java/lang/String" K (fun q => s.heap.size ≤ q) s s.heap ∧ va_OF "java/lang/String" "coder" "B" (.int 0) K (fun q => s.heap.size ≤ q) s s.heap ∧ va_OF "java/lang/String" "value" "[B" (.ref V) K (fun q => s.heap.size ≤ q) s s.heap ∧ va_T .byte V (oh_len 15) (fun i => .int (oh_byt 15 i)) (fun q => s.heap.size ≤ q) s s.heap) ∧ (Term.string "OneHeavyLoad$Reader" 85).eval #[Value.ref b] s none [] s = some (.ref K) := by
  have a1 : ∀ i : Nat, i < 1 → ([4] : List Nat).getD i 0 < 2 ^ 31 := by
    intro i hi
    obtain rfl : i = 0 := by omega
    decide
  have a2 : ∀ i : Nat, i < 1 → (Cond.eq (.length (.field (.string "OneHeavyLoad$Reader" 85) "java/lang/String" "value" "[B")) (.int (Int32.ofNat (([4] : List Nat).getD i 0)))).before #[Value.ref b] s = true := by
    intro i hi
    obtain rfl : i = 0 := by omega
    exact hs _ (lw_sc3 _ (List.mem_of_getElem? (i := 3) rfl))
  have a3 : ∀ i : Nat, i < 1 → ∀ j : Nat, j < ([4] : List Nat).getD i 0 → (Cond.eq (.elem (.field (.string "OneHeavyLoad$Reader" 85) "java/lang/String" "value" "[B") (.int (Int32.ofNat j))) (.int (([[108, 111, 97, 100]] : List (List Int32)).getD i [] |>.getD j 0))).before #[Value.ref b] s = true := by
    intro i hi j hj
    obtain rfl : i = 0 := by omega
    have hj : j < 4 := hj
    rcases (show j = 0 ∨ j = 1 ∨ j = 2 ∨ j = 3 by omega) with rfl | rfl | rfl | rfl
    · exact hs _ (lw_sc3 _ (List.mem_of_getElem? (i := 4) rfl))
    · exact hs _ (lw_sc3 _ (List.mem_of_getElem? (i := 5) rfl))
    · exact hs _ (lw_sc3 _ (List.mem_of_getElem? (i := 6) rfl))
    · exact hs _ (lw_sc3 _ (List.mem_of_getElem? (i := 7) rfl))
  obtain ⟨K, V, S, u⟩ := vk_Sof (args := #[Value.ref b]) (s := s) (N := 1) (tm := fun _ => (Term.string "OneHeavyLoad$Reader" 85)) (len := [4]) (byt := [[108, 111, 97, 100]]) (A := fun q => s.heap.size ≤ q) a1 (fun i hi => hs _ (lw_sc3 _ (List.mem_of_getElem? (i := 0) rfl))) (fun i hi => hs _ (lw_sc3 _ (List.mem_of_getElem? (i := 1) rfl))) (fun i hi => hs _ (lw_sc3 _ (List.mem_of_getElem? (i := 2) rfl))) a2 a3 (fun i j hi hj hne => absurd (show i = j by omega) hne) hnA
  exact ⟨K 0, V 0, S.1 0 (by decide), u 0 (by decide)⟩
set_option maxHeartbeats 4000000 in
set_option maxRecDepth 100000 in
theorem lw_st16 {s : State} {b : Nat} (hs : ∀ x ∈ flatC (Jvm.Cond.and given_1 narrow_1), x.before #[Value.ref b] s = true) (hnA : ∀ a : Nat, a < s.heap.size → ¬ (fun q : Nat => s.heap.size ≤ q) a) : ∃ K V : Nat, (va_O "java/lang/String" K (fun q => s.heap.size ≤ q) s s.heap ∧ va_OF "java/lang/String" "coder" "B" (.int 0) K (fun q => s.heap.size ≤ q) s s.heap ∧ va_OF "java/lang/String" "value" "[B" (.ref V) K (fun q => s.heap.size ≤ q) s s.heap ∧ va_T .byte V (oh_len 16) (fun i => .int (oh_byt 16 i)) (fun q => s.heap.size ≤ q) s s.heap) ∧ (Term.string "OneHeavyLoad$Reader" 94).eval #[Value.ref b] s none [] s = some (.ref K) := by
  have a1 : ∀ i : Nat, i < 1 → ([4] : List Nat).getD i 0 < 2 ^ 31 := by
    intro i hi
    obtain rfl : i = 0 := by omega
    decide
  have a2 : ∀ i : Nat, i < 1 → (Cond.eq (.length (.field (.string "OneHeavyLoad$Reader" 94) "java/lang/String" "value" "[B")) (.int (Int32.ofNat (([4] : List Nat).getD i 0)))).before #[Value.ref b] s = true := by
    intro i hi
    obtain rfl : i = 0 := by omega
    exact hs _ (lw_sc3 _ (List.mem_of_getElem? (i := 11) rfl))
  have a3 : ∀ i : Nat, i < 1 → ∀ j : Nat, j < ([4] : List Nat).getD i 0 → (Cond.eq (.elem (.field (.string "OneHeavyLoad$Reader" 94) "java/lang/String" "value" "[B") (.int (Int32.ofNat j))) (.int (([[109, 105, 108, 101]] : List (List Int32)).getD i [] |>.getD j 0))).before #[Value.ref b] s = true := by
    intro i hi j hj
    obtain rfl : i = 0 := by omega
    have hj : j < 4 := hj
    rcases (show j = 0 ∨ j = 1 ∨ j = 2 ∨ j = 3 by omega) with rfl | rfl | rfl | rfl
    · exact hs _ (lw_sc3 _ (List.mem_of_getElem? (i := 12) rfl))
    · exact hs _ (lw_sc3 _ (List.mem_of_getElem? (i := 13) rfl))
    · exact hs _ (lw_sc3 _ (List.mem_of_getElem? (i := 14) rfl))
    · exact hs _ (lw_sc3 _ (List.mem_of_getElem? (i := 15) rfl))
  obtain ⟨K, V, S, u⟩ := vk_Sof (args := #[Value.ref b]) (s := s) (N := 1) (tm := fun _ => (Term.string "OneHeavyLoad$Reader" 94)) (len := [4]) (byt := [[109, 105, 108, 101]]) (A := fun q => s.heap.size ≤ q) a1 (fun i hi => hs _ (lw_sc3 _ (List.mem_of_getElem? (i := 8) rfl))) (fun i hi => hs _ (lw_sc3 _ (List.mem_of_getElem? (i := 9) rfl))) (fun i hi => hs _ (lw_sc3 _ (List.mem_of_getElem? (i := 10) rfl))) a2 a3 (fun i j hi hj hne => absurd (show i = j by omega) hne) hnA
  exact ⟨K 0, V 0, S.1 0 (by decide), u 0 (by decide)⟩
set_option maxHeartbeats 4000000 in
set_option maxRecDepth 100000 in
theorem lw_st17 {s : State} {b : Nat} (hs : ∀ x ∈ flatC (Jvm.Cond.and given_1 narrow_1), x.before #[Value.ref b] s = true) (hnA : ∀ a : Nat, a < s.heap.size → ¬ (fun q : Nat => s.heap.size ≤ q) a) : ∃ K V : Nat, (va_O "java/lang/String" K (fun q => s.heap.size ≤ q) s s.heap ∧ va_OF "java/lang/String" "coder" "B" (.int 0) K (fun q => s.heap.size ≤ q) s s.heap ∧ va_OF "java/lang/String" "value" "[B" (.ref V) K (fun q => s.heap.size ≤ q) s s.heap ∧ va_T .byte V (oh_len 17) (fun i => .int (oh_byt 17 i)) (fun q => s.heap.size ≤ q) s s.heap) ∧ (Term.string "OneHeavyLoadModel" 200).eval #[Value.ref b] s none [] s = some (.ref K) := by
  have a1 : ∀ i : Nat, i < 1 → ([4] : List Nat).getD i 0 < 2 ^ 31 := by
    intro i hi
    obtain rfl : i = 0 := by omega
    decide
  have a2 : ∀ i : Nat, i < 1 → (Cond.eq (.length (.field (.string "OneHeavyLoadModel" 200) "java/lang/String" "value" "[B")) (.int (Int32.ofNat (([4] : List Nat).getD i 0)))).before #[Value.ref b] s = true := by
    intro i hi
    obtain rfl : i = 0 := by omega
    exact hs _ (lw_sc3 _ (List.mem_of_getElem? (i := 19) rfl))
  have a3 : ∀ i : Nat, i < 1 → ∀ j : Nat, j < ([4] : List Nat).getD i 0 → (Cond.eq (.elem (.field (.string "OneHeavyLoadModel" 200) "java/lang/String" "value" "[B") (.int (Int32.ofNat j))) (.int (([[114, 111, 97, 100]] : List (List Int32)).getD i [] |>.getD j 0))).before #[Value.ref b] s = true := by
    intro i hi j hj
    obtain rfl : i = 0 := by omega
    have hj : j < 4 := hj
    rcases (show j = 0 ∨ j = 1 ∨ j = 2 ∨ j = 3 by omega) with rfl | rfl | rfl | rfl
    · exact hs _ (lw_sc3 _ (List.mem_of_getElem? (i := 20) rfl))
    · exact hs _ (lw_sc3 _ (List.mem_of_getElem? (i := 21) rfl))
    · exact hs _ (lw_sc3 _ (List.mem_of_getElem? (i := 22) rfl))
    · exact hs _ (lw_sc3 _ (List.mem_of_getElem? (i := 23) rfl))
  obtain ⟨K, V, S, u⟩ := vk_Sof (args := #[Value.ref b]) (s := s) (N := 1) (tm := fun _ => (Term.string "OneHeavyLoadModel" 200)) (len := [4]) (byt := [[114, 111, 97, 100]]) (A := fun q => s.heap.size ≤ q) a1 (fun i hi => hs _ (lw_sc3 _ (List.mem_of_getElem? (i := 16) rfl))) (fun i hi => hs _ (lw_sc3 _ (List.mem_of_getElem? (i := 17) rfl))) (fun i hi => hs _ (lw_sc3 _ (List.mem_of_getElem? (i := 18) rfl))) a2 a3 (fun i j hi hj hne => absurd (show i = j by omega) hne) hnA
  exact ⟨K 0, V 0, S.1 0 (by decide), u 0 (by decide)⟩
set_option maxHeartbeats 4000000 in
set_option maxRecDepth 100000 in
theorem lw_st18 {s : State} {b : Nat} (hs : ∀ x ∈ flatC (Jvm.Cond.and given_1 narrow_1), x.before #[Value.ref b] s = true) (hnA : ∀ a : Nat, a < s.heap.size → ¬ (fun q : Nat => s.heap.size ≤ q) a) : ∃ K V : Nat, (va_O "java/lang/String" K (fun q => s.heap.size ≤ q) s s.heap ∧ va_OF "java/lang/String" "coder" "B" (.int 0) K (fun q => s.heap.size ≤ q) s s.heap ∧ va_OF "java/lang/String" "value" "[B" (.ref V) K (fun q => s.heap.size ≤ q) s s.heap ∧ va_T .byte V (oh_len 18) (fun i => .int (oh_byt 18 i)) (fun q => s.heap.size ≤ q) s s.heap) ∧ (Term.string "OneHeavyLoadModel" 219).eval #[Value.ref b] s none [] s = some (.ref K) := by
  have a1 : ∀ i : Nat, i < 1 → ([5] : List Nat).getD i 0 < 2 ^ 31 := by
    intro i hi
    obtain rfl : i = 0 := by omega
    decide
  have a2 : ∀ i : Nat, i < 1 → (Cond.eq (.length (.field (.string "OneHeavyLoadModel" 219) "java/lang/String" "value" "[B")) (.int (Int32.ofNat (([5] : List Nat).getD i 0)))).before #[Value.ref b] s = true := by
    intro i hi
    obtain rfl : i = 0 := by omega
    exact hs _ (lw_sc3 _ (List.mem_of_getElem? (i := 27) rfl))
  have a3 : ∀ i : Nat, i < 1 → ∀ j : Nat, j < ([5] : List Nat).getD i 0 → (Cond.eq (.elem (.field (.string "OneHeavyLoadModel" 219) "java/lang/String" "value" "[B") (.int (Int32.ofNat j))) (.int (([[109, 105, 108, 101, 115]] : List (List Int32)).getD i [] |>.getD j 0))).before #[Value.ref b] s = true := by
    intro i hi j hj
    obtain rfl : i = 0 := by omega
    have hj : j < 5 := hj
    rcases (show j = 0 ∨ j = 1 ∨ j = 2 ∨ j = 3 ∨ j = 4 by omega) with rfl | rfl | rfl | rfl | rfl
    · exact hs _ (lw_sc3 _ (List.mem_of_getElem? (i := 28) rfl))
    · exact hs _ (lw_sc3 _ (List.mem_of_getElem? (i := 29) rfl))
    · exact hs _ (lw_sc3 _ (List.mem_of_getElem? (i := 30) rfl))
    · exact hs _ (lw_sc3 _ (List.mem_of_getElem? (i := 31) rfl))
    · exact hs _ (lw_sc3 _ (List.mem_of_getElem? (i := 32) rfl))
  obtain ⟨K, V, S, u⟩ := vk_Sof (args := #[Value.ref b]) (s := s) (N := 1) (tm := fun _ => (Term.string "OneHeavyLoadModel" 219)) (len := [5]) (byt := [[109, 105, 108, 101, 115]]) (A := fun q => s.heap.size ≤ q) a1 (fun i hi => hs _ (lw_sc3 _ (List.mem_of_getElem? (i := 24) rfl))) (fun i hi => hs _ (lw_sc3 _ (List.mem_of_getElem? (i := 25) rfl))) (fun i hi => hs _ (lw_sc3 _ (List.mem_of_getElem? (i := 26) rfl))) a2 a3 (fun i j hi hj hne => absurd (show i = j by omega) hne) hnA
  exact ⟨K 0, V 0, S.1 0 (by decide), u 0 (by decide)⟩
set_option maxHeartbeats 4000000 in
set_option maxRecDepth 100000 in
theorem lw_st19 {s : State} {b : Nat} (hs : ∀ x ∈ flatC (Jvm.Cond.and given_1 narrow_1), x.before #[Value.ref b] s = true) (hnA : ∀ a : Nat, a < s.heap.size → ¬ (fun q : Nat => s.heap.size ≤ q) a) : ∃ K V : Nat, (va_O "java/lang/String" K (fun q => s.heap.size ≤ q) s s.heap ∧ va_OF "java/lang/String" "coder" "B" (.int 0) K (fun q => s.heap.size ≤ q) s s.heap ∧ va_OF "java/lang/String" "value" "[B" (.ref V) K (fun q => s.heap.size ≤ q) s s.heap ∧ va_T .byte V (oh_len 19) (fun i => .int (oh_byt 19 i)) (fun q => s.heap.size ≤ q) s s.heap) ∧ (Term.string "OneHeavyLoadModel" 221).eval #[Value.ref b] s none [] s = some (.ref K) := by
  have a1 : ∀ i : Nat, i < 1 → ([4] : List Nat).getD i 0 < 2 ^ 31 := by
    intro i hi
    obtain rfl : i = 0 := by omega
    decide
  have a2 : ∀ i : Nat, i < 1 → (Cond.eq (.length (.field (.string "OneHeavyLoadModel" 221) "java/lang/String" "value" "[B")) (.int (Int32.ofNat (([4] : List Nat).getD i 0)))).before #[Value.ref b] s = true := by
    intro i hi
    obtain rfl : i = 0 := by omega
    exact hs _ (lw_sc3 _ (List.mem_of_getElem? (i := 36) rfl))
  have a3 : ∀ i : Nat, i < 1 → ∀ j : Nat, j < ([4] : List Nat).getD i 0 → (Cond.eq (.elem (.field (.string "OneHeavyLoadModel" 221) "java/lang/String" "value" "[B") (.int (Int32.ofNat j))) (.int (([[114, 105, 115, 101]] : List (List Int32)).getD i [] |>.getD j 0))).before #[Value.ref b] s = true := by
    intro i hi j hj
    obtain rfl : i = 0 := by omega
    have hj : j < 4 := hj
    rcases (show j = 0 ∨ j = 1 ∨ j = 2 ∨ j = 3 by omega) with rfl | rfl | rfl | rfl
    · exact hs _ (lw_sc3 _ (List.mem_of_getElem? (i := 37) rfl))
    · exact hs _ (lw_sc3 _ (List.mem_of_getElem? (i := 38) rfl))
    · exact hs _ (lw_sc3 _ (List.mem_of_getElem? (i := 39) rfl))
    · exact hs _ (lw_sc3 _ (List.mem_of_getElem? (i := 40) rfl))
  obtain ⟨K, V, S, u⟩ := vk_Sof (args := #[Value.ref b]) (s := s) (N := 1) (tm := fun _ => (Term.string "OneHeavyLoadModel" 221)) (len := [4]) (byt := [[114, 105, 115, 101]]) (A := fun q => s.heap.size ≤ q) a1 (fun i hi => hs _ (lw_sc3 _ (List.mem_of_getElem? (i := 33) rfl))) (fun i hi => hs _ (lw_sc3 _ (List.mem_of_getElem? (i := 34) rfl))) (fun i hi => hs _ (lw_sc3 _ (List.mem_of_getElem? (i := 35) rfl))) a2 a3 (fun i j hi hj hne => absurd (show i = j by omega) hne) hnA
  exact ⟨K 0, V 0, S.1 0 (by decide), u 0 (by decide)⟩
set_option maxHeartbeats 4000000 in
set_option maxRecDepth 100000 in
theorem lw_st20 {s : State} {b : Nat} (hs : ∀ x ∈ flatC (Jvm.Cond.and given_1 narrow_1), x.before #[Value.ref b] s = true) (hnA : ∀ a : Nat, a < s.heap.size → ¬ (fun q : Nat => s.heap.size ≤ q) a) : ∃ K V : Nat, (va_O "java/lang/String" K (fun q => s.heap.size ≤ q) s s.heap ∧ va_OF "java/lang/String" "coder" "B" (.int 0) K (fun q => s.heap.size ≤ q) s s.heap ∧ va_OF "java/lang/String" "value" "[B" (.ref V) K (fun q => s.heap.size ≤ q) s s.heap ∧ va_T .byte V (oh_len 20) (fun i => .int (oh_byt 20 i)) (fun q => s.heap.size ≤ q) s s.heap) ∧ (Term.string "OneHeavyLoadModel" 226).eval #[Value.ref b] s none [] s = some (.ref K) := by
  have a1 : ∀ i : Nat, i < 1 → ([4] : List Nat).getD i 0 < 2 ^ 31 := by
    intro i hi
    obtain rfl : i = 0 := by omega
    decide
  have a2 : ∀ i : Nat, i < 1 → (Cond.eq (.length (.field (.string "OneHeavyLoadModel" 226) "java/lang/String" "value" "[B")) (.int (Int32.ofNat (([4] : List Nat).getD i 0)))).before #[Value.ref b] s = true := by
    intro i hi
    obtain rfl : i = 0 := by omega
    exact hs _ (lw_sc4 _ (List.mem_of_getElem? (i := 3) rfl))
  have a3 : ∀ i : Nat, i < 1 → ∀ j : Nat, j < ([4] : List Nat).getD i 0 → (Cond.eq (.elem (.field (.string "OneHeavyLoadModel" 226) "java/lang/String" "value" "[B") (.int (Int32.ofNat j))) (.int (([[116, 117, 114, 110]] : List (List Int32)).getD i [] |>.getD j 0))).before #[Value.ref b] s = true := by
    intro i hi j hj
    obtain rfl : i = 0 := by omega
    have hj : j < 4 := hj
    rcases (show j = 0 ∨ j = 1 ∨ j = 2 ∨ j = 3 by omega) with rfl | rfl | rfl | rfl
    · exact hs _ (lw_sc4 _ (List.mem_of_getElem? (i := 4) rfl))
    · exact hs _ (lw_sc4 _ (List.mem_of_getElem? (i := 5) rfl))
    · exact hs _ (lw_sc4 _ (List.mem_of_getElem? (i := 6) rfl))
    · exact hs _ (lw_sc4 _ (List.mem_of_getElem? (i := 7) rfl))
  obtain ⟨K, V, S, u⟩ := vk_Sof (args := #[Value.ref b]) (s := s) (N := 1) (tm := fun _ => (Term.string "OneHeavyLoadModel" 226)) (len := [4]) (byt := [[116, 117, 114, 110]]) (A := fun q => s.heap.size ≤ q) a1 (fun i hi => hs _ (lw_sc4 _ (List.mem_of_getElem? (i := 0) rfl))) (fun i hi => hs _ (lw_sc4 _ (List.mem_of_getElem? (i := 1) rfl))) (fun i hi => hs _ (lw_sc4 _ (List.mem_of_getElem? (i := 2) rfl))) a2 a3 (fun i j hi hj hne => absurd (show i = j by omega) hne) hnA
  exact ⟨K 0, V 0, S.1 0 (by decide), u 0 (by decide)⟩
set_option maxHeartbeats 4000000 in
set_option maxRecDepth 100000 in
theorem lw_st21 {s : State} {b : Nat} (hs : ∀ x ∈ flatC (Jvm.Cond.and given_1 narrow_1), x.before #[Value.ref b] s = true) (hnA : ∀ a : Nat, a < s.heap.size → ¬ (fun q : Nat => s.heap.size ≤ q) a) : ∃ K V : Nat, (va_O "java/lang/String" K (fun q => s.heap.size ≤ q) s s.heap ∧ va_OF "java/lang/String" "coder" "B" (.int 0) K (fun q => s.heap.size ≤ q) s s.heap ∧ va_OF "java/lang/String" "value" "[B" (.ref V) K (fun q => s.heap.size ≤ q) s s.heap ∧ va_T .byte V (oh_len 21) (fun i => .int (oh_byt 21 i)) (fun q => s.heap.size ≤ q) s s.heap) ∧ (Term.string "OneHeavyLoadModel" 228).eval #[Value.ref b] s none [] s = some (.ref K) := by
  have a1 : ∀ i : Nat, i < 1 → ([6] : List Nat).getD i 0 < 2 ^ 31 := by
    intro i hi
    obtain rfl : i = 0 := by omega
    decide
  have a2 : ∀ i : Nat, i < 1 → (Cond.eq (.length (.field (.string "OneHeavyLoadModel" 228) "java/lang/String" "value" "[B")) (.int (Int32.ofNat (([6] : List Nat).getD i 0)))).before #[Value.ref b] s = true := by
    intro i hi
    obtain rfl : i = 0 := by omega
    exact hs _ (lw_sc4 _ (List.mem_of_getElem? (i := 11) rfl))
  have a3 : ∀ i : Nat, i < 1 → ∀ j : Nat, j < ([6] : List Nat).getD i 0 → (Cond.eq (.elem (.field (.string "OneHeavyLoadModel" 228) "java/lang/String" "value" "[B") (.int (Int32.ofNat j))) (.int (([[112, 97, 114, 105, 115, 104]] : List (List Int32)).getD i [] |>.getD j 0))).before #[Value.ref b] s = true := by
    intro i hi j hj
    obtain rfl : i = 0 := by omega
    have hj : j < 6 := hj
    rcases (show j = 0 ∨ j = 1 ∨ j = 2 ∨ j = 3 ∨ j = 4 ∨ j = 5 by omega) with rfl | rfl | rfl | rfl | rfl | rfl
    · exact hs _ (lw_sc4 _ (List.mem_of_getElem? (i := 12) rfl))
    · exact hs _ (lw_sc4 _ (List.mem_of_getElem? (i := 13) rfl))
    · exact hs _ (lw_sc4 _ (List.mem_of_getElem? (i := 14) rfl))
    · exact hs _ (lw_sc4 _ (List.mem_of_getElem? (i := 15) rfl))
    · exact hs _ (lw_sc4 _ (List.mem_of_getElem? (i := 16) rfl))
    · exact hs _ (lw_sc4 _ (List.mem_of_getElem? (i := 17) rfl))
  obtain ⟨K, V, S, u⟩ := vk_Sof (args := #[Value.ref b]) (s := s) (N := 1) (tm := fun _ => (Term.string "OneHeavyLoadModel" 228)) (len := [6]) (byt := [[112, 97, 114, 105, 115, 104]]) (A := fun q => s.heap.size ≤ q) a1 (fun i hi => hs _ (lw_sc4 _ (List.mem_of_getElem? (i := 8) rfl))) (fun i hi => hs _ (lw_sc4 _ (List.mem_of_getElem? (i := 9) rfl))) (fun i hi => hs _ (lw_sc4 _ (List.mem_of_getElem? (i := 10) rfl))) a2 a3 (fun i j hi hj hne => absurd (show i = j by omega) hne) hnA
  exact ⟨K 0, V 0, S.1 0 (by decide), u 0 (by decide)⟩
set_option maxHeartbeats 4000000 in
set_option maxRecDepth 100000 in
theorem lw_st22 {s : State} {b : Nat} (hs : ∀ x ∈ flatC (Jvm.Cond.and given_1 narrow_1), x.before #[Value.ref b] s = true) (hnA : ∀ a : Nat, a < s.heap.size → ¬ (fun q : Nat => s.heap.size ≤ q) a) : ∃ K V : Nat, (va_O "java/lang/String" K (fun q => s.heap.size ≤ q) s s.heap ∧ va_OF "java/lang/String" "coder" "B" (.int 0) K (fun q => s.heap.size ≤ q) s s.heap ∧ va_OF "java/lang/String" "value" "[B" (.ref V) K (fun q => s.heap.size ≤ q) s s.heap ∧ va_T .byte V (oh_len 22) (fun i => .int (oh_byt 22 i)) (fun q => s.heap.size ≤ q) s s.heap) ∧ (Term.string "OneHeavyLoadModel" 205).eval #[Value.ref b] s none [] s = some (.ref K) := by
  have a1 : ∀ i : Nat, i < 1 → ([6] : List Nat).getD i 0 < 2 ^ 31 := by
    intro i hi
    obtain rfl : i = 0 := by omega
    decide
  have a2 : ∀ i : Nat, i < 1 → (Cond.eq (.length (.field (.string "OneHeavyLoadModel" 205) "java/lang/String" "value" "[B")) (.int (Int32.ofNat (([6] : List Nat).getD i 0)))).before #[Value.ref b] s = true := by
    intro i hi
    obtain rfl : i = 0 := by omega
    exact hs _ (lw_sc4 _ (List.mem_of_getElem? (i := 21) rfl))
  have a3 : ∀ i : Nat, i < 1 → ∀ j : Nat, j < ([6] : List Nat).getD i 0 → (Cond.eq (.elem (.field (.string "OneHeavyLoadModel" 205) "java/lang/String" "value" "[B") (.int (Int32.ofNat j))) (.int (([[98, 114, 105, 100, 103, 101]] : List (List Int32)).getD i [] |>.getD j 0))).before #[Value.ref b] s = true := by
    intro i hi j hj
    obtain rfl : i = 0 := by omega
    have hj : j < 6 := hj
    rcases (show j = 0 ∨ j = 1 ∨ j = 2 ∨ j = 3 ∨ j = 4 ∨ j = 5 by omega) with rfl | rfl | rfl | rfl | rfl | rfl
    · exact hs _ (lw_sc4 _ (List.mem_of_getElem? (i := 22) rfl))
    · exact hs _ (lw_sc4 _ (List.mem_of_getElem? (i := 23) rfl))
    · exact hs _ (lw_sc4 _ (List.mem_of_getElem? (i := 24) rfl))
    · exact hs _ (lw_sc4 _ (List.mem_of_getElem? (i := 25) rfl))
    · exact hs _ (lw_sc4 _ (List.mem_of_getElem? (i := 26) rfl))
    · exact hs _ (lw_sc4 _ (List.mem_of_getElem? (i := 27) rfl))
  obtain ⟨K, V, S, u⟩ := vk_Sof (args := #[Value.ref b]) (s := s) (N := 1) (tm := fun _ => (Term.string "OneHeavyLoadModel" 205)) (len := [6]) (byt := [[98, 114, 105, 100, 103, 101]]) (A := fun q => s.heap.size ≤ q) a1 (fun i hi => hs _ (lw_sc4 _ (List.mem_of_getElem? (i := 18) rfl))) (fun i hi => hs _ (lw_sc4 _ (List.mem_of_getElem? (i := 19) rfl))) (fun i hi => hs _ (lw_sc4 _ (List.mem_of_getElem? (i := 20) rfl))) a2 a3 (fun i j hi hj hne => absurd (show i = j by omega) hne) hnA
  exact ⟨K 0, V 0, S.1 0 (by decide), u 0 (by decide)⟩
set_option maxHeartbeats 4000000 in
set_option maxRecDepth 100000 in
theorem lw_st23 {s : State} {b : Nat} (hs : ∀ x ∈ flatC (Jvm.Cond.and given_1 narrow_1), x.before #[Value.ref b] s = true) (hnA : ∀ a : Nat, a < s.heap.size → ¬ (fun q : Nat => s.heap.size ≤ q) a) : ∃ K V : Nat, (va_O "java/lang/String" K (fun q => s.heap.size ≤ q) s s.heap ∧ va_OF "java/lang/String" "coder" "B" (.int 0) K (fun q => s.heap.size ≤ q) s s.heap ∧ va_OF "java/lang/String" "value" "[B" (.ref V) K (fun q => s.heap.size ≤ q) s s.heap ∧ va_T .byte V (oh_len 23) (fun i => .int (oh_byt 23 i)) (fun q => s.heap.size ≤ q) s s.heap) ∧ (Term.string "OneHeavyLoadModel" 230).eval #[Value.ref b] s none [] s = some (.ref K) := by
  have a1 : ∀ i : Nat, i < 1 → ([4] : List Nat).getD i 0 < 2 ^ 31 := by
    intro i hi
    obtain rfl : i = 0 := by omega
    decide
  have a2 : ∀ i : Nat, i < 1 → (Cond.eq (.length (.field (.string "OneHeavyLoadModel" 230) "java/lang/String" "value" "[B")) (.int (Int32.ofNat (([4] : List Nat).getD i 0)))).before #[Value.ref b] s = true := by
    intro i hi
    obtain rfl : i = 0 := by omega
    exact hs _ (lw_sc4 _ (List.mem_of_getElem? (i := 31) rfl))
  have a3 : ∀ i : Nat, i < 1 → ∀ j : Nat, j < ([4] : List Nat).getD i 0 → (Cond.eq (.elem (.field (.string "OneHeavyLoadModel" 230) "java/lang/String" "value" "[B") (.int (Int32.ofNat j))) (.int (([[107, 105, 110, 100]] : List (List Int32)).getD i [] |>.getD j 0))).before #[Value.ref b] s = true := by
    intro i hi j hj
    obtain rfl : i = 0 := by omega
    have hj : j < 4 := hj
    rcases (show j = 0 ∨ j = 1 ∨ j = 2 ∨ j = 3 by omega) with rfl | rfl | rfl | rfl
    · exact hs _ (lw_sc4 _ (List.mem_of_getElem? (i := 32) rfl))
    · exact hs _ (lw_sc4 _ (List.mem_of_getElem? (i := 33) rfl))
    · exact hs _ (lw_sc4 _ (List.mem_of_getElem? (i := 34) rfl))
    · exact hs _ (lw_sc4 _ (List.mem_of_getElem? (i := 35) rfl))
  obtain ⟨K, V, S, u⟩ := vk_Sof (args := #[Value.ref b]) (s := s) (N := 1) (tm := fun _ => (Term.string "OneHeavyLoadModel" 230)) (len := [4]) (byt := [[107, 105, 110, 100]]) (A := fun q => s.heap.size ≤ q) a1 (fun i hi => hs _ (lw_sc4 _ (List.mem_of_getElem? (i := 28) rfl))) (fun i hi => hs _ (lw_sc4 _ (List.mem_of_getElem? (i := 29) rfl))) (fun i hi => hs _ (lw_sc4 _ (List.mem_of_getElem? (i := 30) rfl))) a2 a3 (fun i j hi hj hne => absurd (show i = j by omega) hne) hnA
  exact ⟨K 0, V 0, S.1 0 (by decide), u 0 (by decide)⟩
set_option maxHeartbeats 4000000 in
set_option maxRecDepth 100000 in
theorem lw_st24 {s : State} {b : Nat} (hs : ∀ x ∈ flatC (Jvm.Cond.and given_1 narrow_1), x.before #[Value.ref b] s = true) (hnA : ∀ a : Nat, a < s.heap.size → ¬ (fun q : Nat => s.heap.size ≤ q) a) : ∃ K V : Nat, (va_O "java/lang/String" K (fun q => s.heap.size ≤ q) s s.heap ∧ va_OF "java/lang/String" "coder" "B" (.int 0) K (fun q => s.heap.size ≤ q) s s.heap ∧ va_OF "java/lang/String" "value" "[B" (.ref V) K (fun q => s.heap.size ≤ q) s s.heap ∧ va_T .byte V (oh_len 24) (fun i => .int (oh_byt 24 i)) (fun q => s.heap.size ≤ q) s s.heap) ∧ (Term.string "OneHeavyLoadModel" 232).eval #[Value.ref b] s none [] s = some (.ref K) := by
  have a1 : ∀ i : Nat, i < 1 → ([4] : List Nat).getD i 0 < 2 ^ 31 := by
    intro i hi
    obtain rfl : i = 0 := by omega
    decide
  have a2 : ∀ i : Nat, i < 1 → (Cond.eq (.length (.field (.string "OneHeavyLoadModel" 232) "java/lang/String" "value" "[B")) (.int (Int32.ofNat (([4] : List Nat).getD i 0)))).before #[Value.ref b] s = true := by
    intro i hi
    obtain rfl : i = 0 := by omega
    exact hs _ (lw_sc4 _ (List.mem_of_getElem? (i := 39) rfl))
  have a3 : ∀ i : Nat, i < 1 → ∀ j : Nat, j < ([4] : List Nat).getD i 0 → (Cond.eq (.elem (.field (.string "OneHeavyLoadModel" 232) "java/lang/String" "value" "[B") (.int (Int32.ofNat j))) (.int (([[115, 112, 97, 110]] : List (List Int32)).getD i [] |>.getD j 0))).before #[Value.ref b] s = true := by
    intro i hi j hj
    obtain rfl : i = 0 := by omega
    have hj : j < 4 := hj
    rcases (show j = 0 ∨ j = 1 ∨ j = 2 ∨ j = 3 by omega) with rfl | rfl | rfl | rfl
    · exact hs _ (lw_sc4 _ (List.mem_of_getElem? (i := 40) rfl))
    · exact hs _ (lw_sc4 _ (List.mem_of_getElem? (i := 41) rfl))
    · exact hs _ (lw_sc4 _ (List.mem_of_getElem? (i := 42) rfl))
    · exact hs _ (lw_sc4 _ (List.mem_of_getElem? (i := 43) rfl))
  obtain ⟨K, V, S, u⟩ := vk_Sof (args := #[Value.ref b]) (s := s) (N := 1) (tm := fun _ => (Term.string "OneHeavyLoadModel" 232)) (len := [4]) (byt := [[115, 112, 97, 110]]) (A := fun q => s.heap.size ≤ q) a1 (fun i hi => hs _ (lw_sc4 _ (List.mem_of_getElem? (i := 36) rfl))) (fun i hi => hs _ (lw_sc4 _ (List.mem_of_getElem? (i := 37) rfl))) (fun i hi => hs _ (lw_sc4 _ (List.mem_of_getElem? (i := 38) rfl))) a2 a3 (fun i j hi hj hne => absurd (show i = j by omega) hne) hnA
  exact ⟨K 0, V 0, S.1 0 (by decide), u 0 (by decide)⟩
set_option maxHeartbeats 4000000 in
set_option maxRecDepth 100000 in
theorem lw_st25 {s : State} {b : Nat} (hs : ∀ x ∈ flatC (Jvm.Cond.and given_1 narrow_1), x.before #[Value.ref b] s = true) (hnA : ∀ a : Nat, a < s.heap.size → ¬ (fun q : Nat => s.heap.size ≤ q) a) : ∃ K V : Nat, (va_O "java/lang/String" K (fun q => s.heap.size ≤ q) s s.heap ∧ va_OF "java/lang/String" "coder" "B" (.int 0) K (fun q => s.heap.size ≤ q) s s.heap ∧ va_OF "java/lang/String" "value" "[B" (.ref V) K (fun q => s.heap.size ≤ q) s s.heap ∧ va_T .byte V (oh_len 25) (fun i => .int (oh_byt 25 i)) (fun q => s.heap.size ≤ q) s s.heap) ∧ (Term.string "OneHeavyLoadModel" 234).eval #[Value.ref b] s none [] s = some (.ref K) := by
  have a1 : ∀ i : Nat, i < 1 → ([4] : List Nat).getD i 0 < 2 ^ 31 := by
    intro i hi
    obtain rfl : i = 0 := by omega
    decide
  have a2 : ∀ i : Nat, i < 1 → (Cond.eq (.length (.field (.string "OneHeavyLoadModel" 234) "java/lang/String" "value" "[B")) (.int (Int32.ofNat (([4] : List Nat).getD i 0)))).before #[Value.ref b] s = true := by
    intro i hi
    obtain rfl : i = 0 := by omega
    exact hs _ (lw_sc5 _ (List.mem_of_getElem? (i := 3) rfl))
  have a3 : ∀ i : Nat, i < 1 → ∀ j : Nat, j < ([4] : List Nat).getD i 0 → (Cond.eq (.elem (.field (.string "OneHeavyLoadModel" 234) "java/lang/String" "value" "[B") (.int (Int32.ofNat j))) (.int (([[97, 120, 108, 101]] : List (List Int32)).getD i [] |>.getD j 0))).before #[Value.ref b] s = true := by
    intro i hi j hj
    obtain rfl : i = 0 := by omega
    have hj : j < 4 := hj
    rcases (show j = 0 ∨ j = 1 ∨ j = 2 ∨ j = 3 by omega) with rfl | rfl | rfl | rfl
    · exact hs _ (lw_sc5 _ (List.mem_of_getElem? (i := 4) rfl))
    · exact hs _ (lw_sc5 _ (List.mem_of_getElem? (i := 5) rfl))
    · exact hs _ (lw_sc5 _ (List.mem_of_getElem? (i := 6) rfl))
    · exact hs _ (lw_sc5 _ (List.mem_of_getElem? (i := 7) rfl))
  obtain ⟨K, V, S, u⟩ := vk_Sof (args := #[Value.ref b]) (s := s) (N := 1) (tm := fun _ => (Term.string "OneHeavyLoadModel" 234)) (len := [4]) (byt := [[97, 120, 108, 101]]) (A := fun q => s.heap.size ≤ q) a1 (fun i hi => hs _ (lw_sc5 _ (List.mem_of_getElem? (i := 0) rfl))) (fun i hi => hs _ (lw_sc5 _ (List.mem_of_getElem? (i := 1) rfl))) (fun i hi => hs _ (lw_sc5 _ (List.mem_of_getElem? (i := 2) rfl))) a2 a3 (fun i j hi hj hne => absurd (show i = j by omega) hne) hnA
  exact ⟨K 0, V 0, S.1 0 (by decide), u 0 (by decide)⟩
set_option maxHeartbeats 4000000 in
set_option maxRecDepth 100000 in
theorem lw_st26 {s : State} {b : Nat} (hs : ∀ x ∈ flatC (Jvm.Cond.and given_1 narrow_1), x.before #[Value.ref b] s = true) (hnA : ∀ a : Nat, a < s.heap.size → ¬ (fun q : Nat => s.heap.size ≤ q) a) : ∃ K V : Nat, (va_O "java/lang/String" K (fun q => s.heap.size ≤ q) s s.heap ∧ va_OF "java/lang/String" "coder" "B" (.int 0) K (fun q => s.heap.size ≤ q) s s.heap ∧ va_OF "java/lang/String" "value" "[B" (.ref V) K (fun q => s.heap.size ≤ q) s s.heap ∧ va_T .byte V (oh_len 26) (fun i => .int (oh_byt 26 i)) (fun q => s.heap.size ≤ q) s s.heap) ∧ (Term.string "OneHeavyLoadModel" 236).eval #[Value.ref b] s none [] s = some (.ref K) := by
  have a1 : ∀ i : Nat, i < 1 → ([3] : List Nat).getD i 0 < 2 ^ 31 := by
    intro i hi
    obtain rfl : i = 0 := by omega
    decide
  have a2 : ∀ i : Nat, i < 1 → (Cond.eq (.length (.field (.string "OneHeavyLoadModel" 236) "java/lang/String" "value" "[B")) (.int (Int32.ofNat (([3] : List Nat).getD i 0)))).before #[Value.ref b] s = true := by
    intro i hi
    obtain rfl : i = 0 := by omega
    exact hs _ (lw_sc5 _ (List.mem_of_getElem? (i := 11) rfl))
  have a3 : ∀ i : Nat, i < 1 → ∀ j : Nat, j < ([3] : List Nat).getD i 0 → (Cond.eq (.elem (.field (.string "OneHeavyLoadModel" 236) "java/lang/String" "value" "[B") (.int (Int32.ofNat j))) (.int (([[97, 108, 108]] : List (List Int32)).getD i [] |>.getD j 0))).before #[Value.ref b] s = true := by
    intro i hi j hj
    obtain rfl : i = 0 := by omega
    have hj : j < 3 := hj
    rcases (show j = 0 ∨ j = 1 ∨ j = 2 by omega) with rfl | rfl | rfl
    · exact hs _ (lw_sc5 _ (List.mem_of_getElem? (i := 12) rfl))
    · exact hs _ (lw_sc5 _ (List.mem_of_getElem? (i := 13) rfl))
    · exact hs _ (lw_sc5 _ (List.mem_of_getElem? (i := 14) rfl))
  obtain ⟨K, V, S, u⟩ := vk_Sof (args := #[Value.ref b]) (s := s) (N := 1) (tm := fun _ => (Term.string "OneHeavyLoadModel" 236)) (len := [3]) (byt := [[97, 108, 108]]) (A := fun q => s.heap.size ≤ q) a1 (fun i hi => hs _ (lw_sc5 _ (List.mem_of_getElem? (i := 8) rfl))) (fun i hi => hs _ (lw_sc5 _ (List.mem_of_getElem? (i := 9) rfl))) (fun i hi => hs _ (lw_sc5 _ (List.mem_of_getElem? (i := 10) rfl))) a2 a3 (fun i j hi hj hne => absurd (show i = j by omega) hne) hnA
  exact ⟨K 0, V 0, S.1 0 (by decide), u 0 (by decide)⟩
set_option maxHeartbeats 4000000 in
set_option maxRecDepth 100000 in
theorem lw_st27 {s : State} {b : Nat} (hs : ∀ x ∈ flatC (Jvm.Cond.and given_1 narrow_1), x.before #[Value.ref b] s = true) (hnA : ∀ a : Nat, a < s.heap.size → ¬ (fun q : Nat => s.heap.size ≤ q) a) : ∃ K V : Nat, (va_O "java/lang/String" K (fun q => s.heap.size ≤ q) s s.heap ∧ va_OF "java/lang/String" "coder" "B" (.int 0) K (fun q => s.heap.size ≤ q) s s.heap ∧ va_OF "java/lang/String" "value" "[B" (.ref V) K (fun q => s.heap.size ≤ q) s s.heap ∧ va_T .byte V (oh_len 27) (fun i => .int (oh_byt 27 i)) (fun q => s.heap.size ≤ q) s s.heap) ∧ (Term.string "OneHeavyLoadModel" 238).eval #[Value.ref b] s none [] s = some (.ref K) := by
  have a1 : ∀ i : Nat, i < 1 → ([4] : List Nat).getD i 0 < 2 ^ 31 := by
    intro i hi
    obtain rfl : i = 0 := by omega
    decide
  have a2 : ∀ i : Nat, i < 1 → (Cond.eq (.length (.field (.string "OneHeavyLoadModel" 238) "java/lang/String" "value" "[B")) (.int (Int32.ofNat (([4] : List Nat).getD i 0)))).before #[Value.ref b] s = true := by
    intro i hi
    obtain rfl : i = 0 := by omega
    exact hs _ (lw_sc5 _ (List.mem_of_getElem? (i := 18) rfl))
  have a3 : ∀ i : Nat, i < 1 → ∀ j : Nat, j < ([4] : List Nat).getD i 0 → (Cond.eq (.elem (.field (.string "OneHeavyLoadModel" 238) "java/lang/String" "value" "[B") (.int (Int32.ofNat j))) (.int (([[112, 114, 111, 112]] : List (List Int32)).getD i [] |>.getD j 0))).before #[Value.ref b] s = true := by
    intro i hi j hj
    obtain rfl : i = 0 := by omega
    have hj : j < 4 := hj
    rcases (show j = 0 ∨ j = 1 ∨ j = 2 ∨ j = 3 by omega) with rfl | rfl | rfl | rfl
    · exact hs _ (lw_sc5 _ (List.mem_of_getElem? (i := 19) rfl))
    · exact hs _ (lw_sc5 _ (List.mem_of_getElem? (i := 20) rfl))
    · exact hs _ (lw_sc5 _ (List.mem_of_getElem? (i := 21) rfl))
    · exact hs _ (lw_sc5 _ (List.mem_of_getElem? (i := 22) rfl))
  obtain ⟨K, V, S, u⟩ := vk_Sof (args := #[Value.ref b]) (s := s) (N := 1) (tm := fun _ => (Term.string "OneHeavyLoadModel" 238)) (len := [4]) (byt := [[112, 114, 111, 112]]) (A := fun q => s.heap.size ≤ q) a1 (fun i hi => hs _ (lw_sc5 _ (List.mem_of_getElem? (i := 15) rfl))) (fun i hi => hs _ (lw_sc5 _ (List.mem_of_getElem? (i := 16) rfl))) (fun i hi => hs _ (lw_sc5 _ (List.mem_of_getElem? (i := 17) rfl))) a2 a3 (fun i j hi hj hne => absurd (show i = j by omega) hne) hnA
  exact ⟨K 0, V 0, S.1 0 (by decide), u 0 (by decide)⟩
set_option maxHeartbeats 4000000 in
set_option maxRecDepth 100000 in
theorem lw_st28 {s : State} {b : Nat} (hs : ∀ x ∈ flatC (Jvm.Cond.and given_1 narrow_1), x.before #[Value.ref b] s = true) (hnA : ∀ a : Nat, a < s.heap.size → ¬ (fun q : Nat => s.heap.size ≤ q) a) : ∃ K V : Nat, (va_O "java/lang/String" K (fun q => s.heap.size ≤ q) s s.heap ∧ va_OF "java/lang/String" "coder" "B" (.int 0) K (fun q => s.heap.size ≤ q) s s.heap ∧ va_OF "java/lang/String" "value" "[B" (.ref V) K (fun q => s.heap.size ≤ q) s s.heap ∧ va_T .byte V (oh_len 28) (fun i => .int (oh_byt 28 i)) (fun q => s.heap.size ≤ q) s s.heap) ∧ (Term.string "OneHeavyLoadModel" 209).eval #[Value.ref b] s none [] s = some (.ref K) := by
  have a1 : ∀ i : Nat, i < 1 → ([6] : List Nat).getD i 0 < 2 ^ 31 := by
    intro i hi
    obtain rfl : i = 0 := by omega
    decide
  have a2 : ∀ i : Nat, i < 1 → (Cond.eq (.length (.field (.string "OneHeavyLoadModel" 209) "java/lang/String" "value" "[B")) (.int (Int32.ofNat (([6] : List Nat).getD i 0)))).before #[Value.ref b] s = true := by
    intro i hi
    obtain rfl : i = 0 := by omega
    exact hs _ (lw_sc5 _ (List.mem_of_getElem? (i := 26) rfl))
  have a3 : ∀ i : Nat, i < 1 → ∀ j : Nat, j < ([6] : List Nat).getD i 0 → (Cond.eq (.elem (.field (.string "OneHeavyLoadModel" 209) "java/lang/String" "value" "[B") (.int (Int32.ofNat j))) (.int (([[119, 97, 103, 103, 111, 110]] : List (List Int32)).getD i [] |>.getD j 0))).before #[Value.ref b] s = true := by
    intro i hi j hj
    obtain rfl : i = 0 := by omega
    have hj : j < 6 := hj
    rcases (show j = 0 ∨ j = 1 ∨ j = 2 ∨ j = 3 ∨ j = 4 ∨ j = 5 by omega) with rfl | rfl | rfl | rfl | rfl | rfl
    · exact hs _ (lw_sc5 _ (List.mem_of_getElem? (i := 27) rfl))
    · exact hs _ (lw_sc5 _ (List.mem_of_getElem? (i := 28) rfl))
    · exact hs _ (lw_sc5 _ (List.mem_of_getElem? (i := 29) rfl))
    · exact hs _ (lw_sc5 _ (List.mem_of_getElem? (i := 30) rfl))
    · exact hs _ (lw_sc5 _ (List.mem_of_getElem? (i := 31) rfl))
    · exact hs _ (lw_sc5 _ (List.mem_of_getElem? (i := 32) rfl))
  obtain ⟨K, V, S, u⟩ := vk_Sof (args := #[Value.ref b]) (s := s) (N := 1) (tm := fun _ => (Term.string "OneHeavyLoadModel" 209)) (len := [6]) (byt := [[119, 97, 103, 103, 111, 110]]) (A := fun q => s.heap.size ≤ q) a1 (fun i hi => hs _ (lw_sc5 _ (List.mem_of_getElem? (i := 23) rfl))) (fun i hi => hs _ (lw_sc5 _ (List.mem_of_getElem? (i := 24) rfl))) (fun i hi => hs _ (lw_sc5 _ (List.mem_of_getElem? (i := 25) rfl))) a2 a3 (fun i j hi hj hne => absurd (show i = j by omega) hne) hnA
  exact ⟨K 0, V 0, S.1 0 (by decide), u 0 (by decide)⟩
set_option maxHeartbeats 4000000 in
set_option maxRecDepth 100000 in
theorem lw_st29 {s : State} {b : Nat} (hs : ∀ x ∈ flatC (Jvm.Cond.and given_1 narrow_1), x.before #[Value.ref b] s = true) (hnA : ∀ a : Nat, a < s.heap.size → ¬ (fun q : Nat => s.heap.size ≤ q) a) : ∃ K V : Nat, (va_O "java/lang/String" K (fun q => s.heap.size ≤ q) s s.heap ∧ va_OF "java/lang/String" "coder" "B" (.int 0) K (fun q => s.heap.size ≤ q) s s.heap ∧ va_OF "java/lang/String" "value" "[B" (.ref V) K (fun q => s.heap.size ≤ q) s s.heap ∧ va_T .byte V (oh_len 29) (fun i => .int (oh_byt 29 i)) (fun q => s.heap.size ≤ q) s s.heap) ∧ (Term.string "OneHeavyLoadModel" 210).eval #[Value.ref b] s none [] s = some (.ref K) := by
  have a1 : ∀ i : Nat, i < 1 → ([5] : List Nat).getD i 0 < 2 ^ 31 := by
    intro i hi
    obtain rfl : i = 0 := by omega
    decide
  have a2 : ∀ i : Nat, i < 1 → (Cond.eq (.length (.field (.string "OneHeavyLoadModel" 210) "java/lang/String" "value" "[B")) (.int (Int32.ofNat (([5] : List Nat).getD i 0)))).before #[Value.ref b] s = true := by
    intro i hi
    obtain rfl : i = 0 := by omega
    exact hs _ (lw_sc5 _ (List.mem_of_getElem? (i := 36) rfl))
  have a3 : ∀ i : Nat, i < 1 → ∀ j : Nat, j < ([5] : List Nat).getD i 0 → (Cond.eq (.elem (.field (.string "OneHeavyLoadModel" 210) "java/lang/String" "value" "[B") (.int (Int32.ofNat j))) (.int (([[115, 112, 97, 99, 101]] : List (List Int32)).getD i [] |>.getD j 0))).before #[Value.ref b] s = true := by
    intro i hi j hj
    obtain rfl : i = 0 := by omega
    have hj : j < 5 := hj
    rcases (show j = 0 ∨ j = 1 ∨ j = 2 ∨ j = 3 ∨ j = 4 by omega) with rfl | rfl | rfl | rfl | rfl
    · exact hs _ (lw_sc5 _ (List.mem_of_getElem? (i := 37) rfl))
    · exact hs _ (lw_sc5 _ (List.mem_of_getElem? (i := 38) rfl))
    · exact hs _ (lw_sc5 _ (List.mem_of_getElem? (i := 39) rfl))
    · exact hs _ (lw_sc5 _ (List.mem_of_getElem? (i := 40) rfl))
    · exact hs _ (lw_sc5 _ (List.mem_of_getElem? (i := 41) rfl))
  obtain ⟨K, V, S, u⟩ := vk_Sof (args := #[Value.ref b]) (s := s) (N := 1) (tm := fun _ => (Term.string "OneHeavyLoadModel" 210)) (len := [5]) (byt := [[115, 112, 97, 99, 101]]) (A := fun q => s.heap.size ≤ q) a1 (fun i hi => hs _ (lw_sc5 _ (List.mem_of_getElem? (i := 33) rfl))) (fun i hi => hs _ (lw_sc5 _ (List.mem_of_getElem? (i := 34) rfl))) (fun i hi => hs _ (lw_sc5 _ (List.mem_of_getElem? (i := 35) rfl))) a2 a3 (fun i j hi hj hne => absurd (show i = j by omega) hne) hnA
  exact ⟨K 0, V 0, S.1 0 (by decide), u 0 (by decide)⟩
set_option maxHeartbeats 4000000 in
set_option maxRecDepth 100000 in
theorem lw_st30 {s : State} {b : Nat} (hs : ∀ x ∈ flatC (Jvm.Cond.and given_1 narrow_1), x.before #[Value.ref b] s = true) (hnA : ∀ a : Nat, a < s.heap.size → ¬ (fun q : Nat => s.heap.size ≤ q) a) : ∃ K V : Nat, (va_O "java/lang/String" K (fun q => s.heap.size ≤ q) s s.heap ∧ va_OF "java/lang/String" "coder" "B" (.int 0) K (fun q => s.heap.size ≤ q) s s.heap ∧ va_OF "java/lang/String" "value" "[B" (.ref V) K (fun q => s.heap.size ≤ q) s s.heap ∧ va_T .byte V (oh_len 30) (fun i => .int (oh_byt 30 i)) (fun q => s.heap.size ≤ q) s s.heap) ∧ (Term.string "OneHeavyLoadModel" 212).eval #[Value.ref b] s none [] s = some (.ref K) := by
  have a1 : ∀ i : Nat, i < 1 → ([4] : List Nat).getD i 0 < 2 ^ 31 := by
    intro i hi
    obtain rfl : i = 0 := by omega
    decide
  have a2 : ∀ i : Nat, i < 1 → (Cond.eq (.length (.field (.string "OneHeavyLoadModel" 212) "java/lang/String" "value" "[B")) (.int (Int32.ofNat (([4] : List Nat).getD i 0)))).before #[Value.ref b] s = true := by
    intro i hi
    obtain rfl : i = 0 := by omega
    exact hs _ (lw_sc6 _ (List.mem_of_getElem? (i := 3) rfl))
  have a3 : ∀ i : Nat, i < 1 → ∀ j : Nat, j < ([4] : List Nat).getD i 0 → (Cond.eq (.elem (.field (.string "OneHeavyLoadModel" 212) "java/lang/String" "value" "[B") (.int (Int32.ofNat j))) (.int (([[116, 97, 114, 101]] : List (List Int32)).getD i [] |>.getD j 0))).before #[Value.ref b] s = true := by
    intro i hi j hj
    obtain rfl : i = 0 := by omega
    have hj : j < 4 := hj
    rcases (show j = 0 ∨ j = 1 ∨ j = 2 ∨ j = 3 by omega) with rfl | rfl | rfl | rfl
    · exact hs _ (lw_sc6 _ (List.mem_of_getElem? (i := 4) rfl))
    · exact hs _ (lw_sc6 _ (List.mem_of_getElem? (i := 5) rfl))
    · exact hs _ (lw_sc6 _ (List.mem_of_getElem? (i := 6) rfl))
    · exact hs _ (lw_sc6 _ (List.mem_of_getElem? (i := 7) rfl))
  obtain ⟨K, V, S, u⟩ := vk_Sof (args := #[Value.ref b]) (s := s) (N := 1) (tm := fun _ => (Term.string "OneHeavyLoadModel" 212)) (len := [4]) (byt := [[116, 97, 114, 101]]) (A := fun q => s.heap.size ≤ q) a1 (fun i hi => hs _ (lw_sc6 _ (List.mem_of_getElem? (i := 0) rfl))) (fun i hi => hs _ (lw_sc6 _ (List.mem_of_getElem? (i := 1) rfl))) (fun i hi => hs _ (lw_sc6 _ (List.mem_of_getElem? (i := 2) rfl))) a2 a3 (fun i j hi hj hne => absurd (show i = j by omega) hne) hnA
  exact ⟨K 0, V 0, S.1 0 (by decide), u 0 (by decide)⟩
set_option maxHeartbeats 4000000 in
set_option maxRecDepth 100000 in
theorem lw_st31 {s : State} {b : Nat} (hs : ∀ x ∈ flatC (Jvm.Cond.and given_1 narrow_1), x.before #[Value.ref b] s = true) (hnA : ∀ a : Nat, a < s.heap.size → ¬ (fun q : Nat => s.heap.size ≤ q) a) : ∃ K V : Nat, (va_O "java/lang/String" K (fun q => s.heap.size ≤ q) s s.heap ∧ va_OF "java/lang/String" "coder" "B" (.int 0) K (fun q => s.heap.size ≤ q) s s.heap ∧ va_OF "java/lang/String" "value" "[B" (.ref V) K (fun q => s.heap.size ≤ q) s s.heap ∧ va_T .byte V (oh_len 31) (fun i => .int (oh_byt 31 i)) (fun q => s.heap.size ≤ q) s s.heap) ∧ (Term.string "OneHeavyLoadModel" 214).eval #[Value.ref b] s none [] s = some (.ref K) := by
  have a1 : ∀ i : Nat, i < 1 → ([4] : List Nat).getD i 0 < 2 ^ 31 := by
    intro i hi
    obtain rfl : i = 0 := by omega
    decide
  have a2 : ∀ i : Nat, i < 1 → (Cond.eq (.length (.field (.string "OneHeavyLoadModel" 214) "java/lang/String" "value" "[B")) (.int (Int32.ofNat (([4] : List Nat).getD i 0)))).before #[Value.ref b] s = true := by
    intro i hi
    obtain rfl : i = 0 := by omega
    exact hs _ (lw_sc6 _ (List.mem_of_getElem? (i := 11) rfl))
  have a3 : ∀ i : Nat, i < 1 → ∀ j : Nat, j < ([4] : List Nat).getD i 0 → (Cond.eq (.elem (.field (.string "OneHeavyLoadModel" 214) "java/lang/String" "value" "[B") (.int (Int32.ofNat j))) (.int (([[112, 97, 114, 116]] : List (List Int32)).getD i [] |>.getD j 0))).before #[Value.ref b] s = true := by
    intro i hi j hj
    obtain rfl : i = 0 := by omega
    have hj : j < 4 := hj
    rcases (show j = 0 ∨ j = 1 ∨ j = 2 ∨ j = 3 by omega) with rfl | rfl | rfl | rfl
    · exact hs _ (lw_sc6 _ (List.mem_of_getElem? (i := 12) rfl))
    · exact hs _ (lw_sc6 _ (List.mem_of_getElem? (i := 13) rfl))
    · exact hs _ (lw_sc6 _ (List.mem_of_getElem? (i := 14) rfl))
    · exact hs _ (lw_sc6 _ (List.mem_of_getElem? (i := 15) rfl))
  obtain ⟨K, V, S, u⟩ := vk_Sof (args := #[Value.ref b]) (s := s) (N := 1) (tm := fun _ => (Term.string "OneHeavyLoadModel" 214)) (len := [4]) (byt := [[112, 97, 114, 116]]) (A := fun q => s.heap.size ≤ q) a1 (fun i hi => hs _ (lw_sc6 _ (List.mem_of_getElem? (i := 8) rfl))) (fun i hi => hs _ (lw_sc6 _ (List.mem_of_getElem? (i := 9) rfl))) (fun i hi => hs _ (lw_sc6 _ (List.mem_of_getElem? (i := 10) rfl))) a2 a3 (fun i j hi hj hne => absurd (show i = j by omega) hne) hnA
  exact ⟨K 0, V 0, S.1 0 (by decide), u 0 (by decide)⟩
set_option maxHeartbeats 4000000 in
set_option maxRecDepth 100000 in
theorem lw_st32 {s : State} {b : Nat} (hs : ∀ x ∈ flatC (Jvm.Cond.and given_1 narrow_1), x.before #[Value.ref b] s = true) (hnA : ∀ a : Nat, a < s.heap.size → ¬ (fun q : Nat => s.heap.size ≤ q) a) : ∃ K V : Nat, (va_O "java/lang/String" K (fun q => s.heap.size ≤ q) s s.heap ∧ va_OF "java/lang/String" "coder" "B" (.int 0) K (fun q => s.heap.size ≤ q) s s.heap ∧ va_OF "java/lang/String" "value" "[B" (.ref V) K (fun q => s.heap.size ≤ q) s s.heap ∧ va_T .byte V (oh_len 32) (fun i => .int (oh_byt 32 i)) (fun q => s.heap.size ≤ q) s s.heap) ∧ (Term.string "OneHeavyLoadModel" 215).eval #[Value.ref b] s none [] s = some (.ref K) := by
  have a1 : ∀ i : Nat, i < 1 → ([4] : List Nat).getD i 0 < 2 ^ 31 := by
    intro i hi
    obtain rfl : i = 0 := by omega
    decide
  have a2 : ∀ i : Nat, i < 1 → (Cond.eq (.length (.field (.string "OneHeavyLoadModel" 215) "java/lang/String" "value" "[B")) (.int (Int32.ofNat (([4] : List Nat).getD i 0)))).before #[Value.ref b] s = true := by
    intro i hi
    obtain rfl : i = 0 := by omega
    exact hs _ (lw_sc6 _ (List.mem_of_getElem? (i := 19) rfl))
  have a3 : ∀ i : Nat, i < 1 → ∀ j : Nat, j < ([4] : List Nat).getD i 0 → (Cond.eq (.elem (.field (.string "OneHeavyLoadModel" 215) "java/lang/String" "value" "[B") (.int (Int32.ofNat j))) (.int (([[108, 111, 97, 100]] : List (List Int32)).getD i [] |>.getD j 0))).before #[Value.ref b] s = true := by
    intro i hi j hj
    obtain rfl : i = 0 := by omega
    have hj : j < 4 := hj
    rcases (show j = 0 ∨ j = 1 ∨ j = 2 ∨ j = 3 by omega) with rfl | rfl | rfl | rfl
    · exact hs _ (lw_sc6 _ (List.mem_of_getElem? (i := 20) rfl))
    · exact hs _ (lw_sc6 _ (List.mem_of_getElem? (i := 21) rfl))
    · exact hs _ (lw_sc6 _ (List.mem_of_getElem? (i := 22) rfl))
    · exact hs _ (lw_sc6 _ (List.mem_of_getElem? (i := 23) rfl))
  obtain ⟨K, V, S, u⟩ := vk_Sof (args := #[Value.ref b]) (s := s) (N := 1) (tm := fun _ => (Term.string "OneHeavyLoadModel" 215)) (len := [4]) (byt := [[108, 111, 97, 100]]) (A := fun q => s.heap.size ≤ q) a1 (fun i hi => hs _ (lw_sc6 _ (List.mem_of_getElem? (i := 16) rfl))) (fun i hi => hs _ (lw_sc6 _ (List.mem_of_getElem? (i := 17) rfl))) (fun i hi => hs _ (lw_sc6 _ (List.mem_of_getElem? (i := 18) rfl))) a2 a3 (fun i j hi hj hne => absurd (show i = j by omega) hne) hnA
  exact ⟨K 0, V 0, S.1 0 (by decide), u 0 (by decide)⟩
set_option maxHeartbeats 4000000 in
set_option maxRecDepth 100000 in
theorem lw_st33 {s : State} {b : Nat} (hs : ∀ x ∈ flatC (Jvm.Cond.and given_1 narrow_1), x.before #[Value.ref b] s = true) (hnA : ∀ a : Nat, a < s.heap.size → ¬ (fun q : Nat => s.heap.size ≤ q) a) : ∃ K V : Nat, (va_O "java/lang/String" K (fun q => s.heap.size ≤ q) s s.heap ∧ va_OF "java/lang/String" "coder" "B" (.int 0) K (fun q => s.heap.size ≤ q) s s.heap ∧ va_OF "java/lang/String" "value" "[B" (.ref V) K (fun q => s.heap.size ≤ q) s s.heap ∧ va_T .byte V (oh_len 33) (fun i => .int (oh_byt 33 i)) (fun q => s.heap.size ≤ q) s s.heap) ∧ (Term.string "OneHeavyLoadModel" 217).eval #[Value.ref b] s none [] s = some (.ref K) := by
  have a1 : ∀ i : Nat, i < 1 → ([4] : List Nat).getD i 0 < 2 ^ 31 := by
    intro i hi
    obtain rfl : i = 0 := by omega
    decide
  have a2 : ∀ i : Nat, i < 1 → (Cond.eq (.length (.field (.string "OneHeavyLoadModel" 217) "java/lang/String" "value" "[B")) (.int (Int32.ofNat (([4] : List Nat).getD i 0)))).before #[Value.ref b] s = true := by
    intro i hi
    obtain rfl : i = 0 := by omega
    exact hs _ (lw_sc6 _ (List.mem_of_getElem? (i := 27) rfl))
  have a3 : ∀ i : Nat, i < 1 → ∀ j : Nat, j < ([4] : List Nat).getD i 0 → (Cond.eq (.elem (.field (.string "OneHeavyLoadModel" 217) "java/lang/String" "value" "[B") (.int (Int32.ofNat j))) (.int (([[109, 105, 108, 101]] : List (List Int32)).getD i [] |>.getD j 0))).before #[Value.ref b] s = true := by
    intro i hi j hj
    obtain rfl : i = 0 := by omega
    have hj : j < 4 := hj
    rcases (show j = 0 ∨ j = 1 ∨ j = 2 ∨ j = 3 by omega) with rfl | rfl | rfl | rfl
    · exact hs _ (lw_sc6 _ (List.mem_of_getElem? (i := 28) rfl))
    · exact hs _ (lw_sc6 _ (List.mem_of_getElem? (i := 29) rfl))
    · exact hs _ (lw_sc6 _ (List.mem_of_getElem? (i := 30) rfl))
    · exact hs _ (lw_sc6 _ (List.mem_of_getElem? (i := 31) rfl))
  obtain ⟨K, V, S, u⟩ := vk_Sof (args := #[Value.ref b]) (s := s) (N := 1) (tm := fun _ => (Term.string "OneHeavyLoadModel" 217)) (len := [4]) (byt := [[109, 105, 108, 101]]) (A := fun q => s.heap.size ≤ q) a1 (fun i hi => hs _ (lw_sc6 _ (List.mem_of_getElem? (i := 24) rfl))) (fun i hi => hs _ (lw_sc6 _ (List.mem_of_getElem? (i := 25) rfl))) (fun i hi => hs _ (lw_sc6 _ (List.mem_of_getElem? (i := 26) rfl))) a2 a3 (fun i j hi hj hne => absurd (show i = j by omega) hne) hnA
  exact ⟨K 0, V 0, S.1 0 (by decide), u 0 (by decide)⟩
