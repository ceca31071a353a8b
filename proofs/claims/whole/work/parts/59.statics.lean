theorem zsa_0 : (flatC (Jvm.Cond.and given_1 narrow_1))[5]? = some (.arrayOf (.static "CodeChecker" "INSTRUCTIONS" "[I") .int) := by decide +kernel
theorem zsl_0 : (flatC (Jvm.Cond.and given_1 narrow_1))[6]? = some (.eq (.length (.static "CodeChecker" "INSTRUCTIONS" "[I")) (.int (Int32.ofNat 14))) := by decide +kernel
set_option maxRecDepth 100000 in
theorem zse_0 : (List.range 14).all (fun j => decide ((flatC (Jvm.Cond.and given_1 narrow_1))[(7 + j)]? = some (.eq (.elem (.static "CodeChecker" "INSTRUCTIONS" "[I") (.int (Int32.ofNat j))) (.int (t_X_INSTRUCTIONS.getD j 0))))) = true := by decide +kernel
theorem zsa_1 : (flatC (Jvm.Cond.and given_1 narrow_1))[22]? = some (.arrayOf (.static "CodeChecker" "MOVED_BYTES" "[I") .int) := by decide +kernel
theorem zsl_1 : (flatC (Jvm.Cond.and given_1 narrow_1))[23]? = some (.eq (.length (.static "CodeChecker" "MOVED_BYTES" "[I")) (.int (Int32.ofNat 23))) := by decide +kernel
set_option maxRecDepth 100000 in
theorem zse_1 : (List.range 23).all (fun j => decide ((flatC (Jvm.Cond.and given_1 narrow_1))[(24 + j)]? = some (.eq (.elem (.static "CodeChecker" "MOVED_BYTES" "[I") (.int (Int32.ofNat j))) (.int (t_X_MOVED_BYTES.getD j 0))))) = true := by decide +kernel
theorem zsa_2 : (flatC (Jvm.Cond.and given_1 narrow_1))[48]? = some (.arrayOf (.static "CodeChecker" "PLAIN" "[I") .int) := by decide +kernel
theorem zsl_2 : (flatC (Jvm.Cond.and given_1 narrow_1))[49]? = some (.eq (.length (.static "CodeChecker" "PLAIN" "[I")) (.int (Int32.ofNat 235))) := by decide +kernel
set_option maxRecDepth 100000 in
theorem zse_2 : (List.range 235).all (fun j => decide ((flatC (Jvm.Cond.and given_1 narrow_1))[(50 + j)]? = some (.eq (.elem (.static "CodeChecker" "PLAIN" "[I") (.int (Int32.ofNat j))) (.int (t_X_PLAIN.getD j 0))))) = true := by decide +kernel
theorem zsa_3 : (flatC (Jvm.Cond.and given_1 narrow_1))[286]? = some (.arrayOf (.static "CodeChecker" "MOVED_TYPE" "[I") .int) := by decide +kernel
theorem zsl_3 : (flatC (Jvm.Cond.and given_1 narrow_1))[287]? = some (.eq (.length (.static "CodeChecker" "MOVED_TYPE" "[I")) (.int (Int32.ofNat 23))) := by decide +kernel
set_option maxRecDepth 100000 in
theorem zse_3 : (List.range 23).all (fun j => decide ((flatC (Jvm.Cond.and given_1 narrow_1))[(288 + j)]? = some (.eq (.elem (.static "CodeChecker" "MOVED_TYPE" "[I") (.int (Int32.ofNat j))) (.int (t_X_MOVED_TYPE.getD j 0))))) = true := by decide +kernel
