set_option maxRecDepth 100000 in
theorem s_ref : ∀ j, j < 31 → Cond.stringRef (sAt j).1 (sAt j).2.1 (sAt j).2.2.1 ∈ lw_tbl := by decide +kernel
set_option maxRecDepth 100000 in
theorem s_ex : ∀ j, j < 31 → Cond.exactly (.string (sAt j).1 (sAt j).2.1) "java/lang/String" ∈ flatC (Jvm.Cond.and given_1 narrow_1) := by decide +kernel
set_option maxRecDepth 100000 in
theorem s_co : ∀ j, j < 31 → Cond.eq (.field (.string (sAt j).1 (sAt j).2.1) "java/lang/String" "coder" "B") (.int 0) ∈ flatC (Jvm.Cond.and given_1 narrow_1) := by decide +kernel
set_option maxRecDepth 100000 in
theorem s_ar : ∀ j, j < 31 → Cond.arrayOf (.field (.string (sAt j).1 (sAt j).2.1) "java/lang/String" "value" "[B") .byte ∈ flatC (Jvm.Cond.and given_1 narrow_1) := by decide +kernel
set_option maxRecDepth 100000 in
theorem s_le : ∀ j, j < 31 → Cond.eq (.length (.field (.string (sAt j).1 (sAt j).2.1) "java/lang/String" "value" "[B")) (.int (Int32.ofNat (sAt j).2.2.2)) ∈ flatC (Jvm.Cond.and given_1 narrow_1) := by decide +kernel
set_option maxRecDepth 100000 in
theorem s_el0 : ∀ j, j < 6 → ∀ i, i < (sAt (j + 0)).2.2.2 → Cond.eq (.elem (.field (.string (sAt (j + 0)).1 (sAt (j + 0)).2.1) "java/lang/String" "value" "[B") (.int (Int32.ofNat i))) (.int ((sBy.getD (j + 0) []).getD i 0)) ∈ flatC (Jvm.Cond.and given_1 narrow_1) := by decide +kernel
set_option maxRecDepth 100000 in
theorem s_el6 : ∀ j, j < 6 → ∀ i, i < (sAt (j + 6)).2.2.2 → Cond.eq (.elem (.field (.string (sAt (j + 6)).1 (sAt (j + 6)).2.1) "java/lang/String" "value" "[B") (.int (Int32.ofNat i))) (.int ((sBy.getD (j + 6) []).getD i 0)) ∈ flatC (Jvm.Cond.and given_1 narrow_1) := by decide +kernel
set_option maxRecDepth 100000 in
theorem s_el12 : ∀ j, j < 6 → ∀ i, i < (sAt (j + 12)).2.2.2 → Cond.eq (.elem (.field (.string (sAt (j + 12)).1 (sAt (j + 12)).2.1) "java/lang/String" "value" "[B") (.int (Int32.ofNat i))) (.int ((sBy.getD (j + 12) []).getD i 0)) ∈ flatC (Jvm.Cond.and given_1 narrow_1) := by decide +kernel
set_option maxRecDepth 100000 in
theorem s_el18 : ∀ j, j < 6 → ∀ i, i < (sAt (j + 18)).2.2.2 → Cond.eq (.elem (.field (.string (sAt (j + 18)).1 (sAt (j + 18)).2.1) "java/lang/String" "value" "[B") (.int (Int32.ofNat i))) (.int ((sBy.getD (j + 18) []).getD i 0)) ∈ flatC (Jvm.Cond.and given_1 narrow_1) := by decide +kernel
set_option maxRecDepth 100000 in
theorem s_el24 : ∀ j, j < 6 → ∀ i, i < (sAt (j + 24)).2.2.2 → Cond.eq (.elem (.field (.string (sAt (j + 24)).1 (sAt (j + 24)).2.1) "java/lang/String" "value" "[B") (.int (Int32.ofNat i))) (.int ((sBy.getD (j + 24) []).getD i 0)) ∈ flatC (Jvm.Cond.and given_1 narrow_1) := by decide +kernel
set_option maxRecDepth 100000 in
theorem s_el30 : ∀ j, j < 1 → ∀ i, i < (sAt (j + 30)).2.2.2 → Cond.eq (.elem (.field (.string (sAt (j + 30)).1 (sAt (j + 30)).2.1) "java/lang/String" "value" "[B") (.int (Int32.ofNat i))) (.int ((sBy.getD (j + 30) []).getD i 0)) ∈ flatC (Jvm.Cond.and given_1 narrow_1) := by decide +kernel
