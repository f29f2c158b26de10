/-! Printed by wip/ai/tab.py. -/
set_option maxRecDepth 1000000 in
theorem okP4 : PmOK rgT pm4 := (pm_cutG 16 (-1) (pm_cutG 17 2 okP4_0 okP4_1) (pm_cutG 17 2 (pm_cutG 18 8 okP4_2 okP4_3) okP4_4))
