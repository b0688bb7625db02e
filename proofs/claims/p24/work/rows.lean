section
set_option maxRecDepth 1000000 in
theorem zz_400 : Nat.ble (stepsAlone start1.p0.tables start1.e0 400 start1.about).heap.size 300 = true := by decide +kernel
set_option maxRecDepth 1000000 in
theorem zz_500 : Nat.ble (stepsAlone start1.p0.tables start1.e0 500 start1.about).heap.size 300 = true := by decide +kernel
set_option maxRecDepth 1000000 in
theorem zz_600 : Nat.ble (stepsAlone start1.p0.tables start1.e0 600 start1.about).heap.size 300 = true := by decide +kernel
set_option maxRecDepth 1000000 in
theorem zz_700 : Nat.ble (stepsAlone start1.p0.tables start1.e0 700 start1.about).heap.size 300 = true := by decide +kernel
set_option maxRecDepth 1000000 in
theorem zz_800 : Nat.ble (stepsAlone start1.p0.tables start1.e0 800 start1.about).heap.size 300 = true := by decide +kernel
end
