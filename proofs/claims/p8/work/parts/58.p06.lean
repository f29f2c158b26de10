/-! Printed by wip/ai/tab.py. -/
set_option maxRecDepth 1000000 in
theorem okP9 : PmOK rgT pm9 := (pm_cutG 16 (-1) (pm_cutG 17 2 okP9_0 okP9_1) (pm_cutG 17 2 (pm_cutG 18 8 okP9_2 okP9_3) okP9_4))
