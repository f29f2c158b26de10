/-! Printed by wip/ai/tab.py. -/
set_option maxRecDepth 1000000 in
theorem okP10 : PmOK rgT pm10 := (pm_cutG 16 (-1) (pm_cutG 17 2 okP10_0 okP10_1) (pm_cutG 17 2 (pm_cutG 18 8 okP10_2 okP10_3) okP10_4))
