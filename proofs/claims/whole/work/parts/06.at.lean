set_option maxRecDepth 100000 in
theorem uat_IO : (vx_at0 RX6 321 "java/lang/IndexOutOfBoundsException" ["java/lang/RuntimeException", "java/lang/Exception"]).all (fun w => decide (w ∈ tables_1) && (goodWord w || wsNb w)) = true := by decide +kernel
