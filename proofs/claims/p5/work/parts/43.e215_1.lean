/-! a large certificate: cuts one by one (wip/gencert.py) -/
set_option maxRecDepth 1000000 in
theorem cq_215_73 : cy_215_73.all (cok stp_215 (csOf ct_215) 1 654) = true := by decide +kernel
set_option maxRecDepth 1000000 in
theorem cq_215_74 : cy_215_74.all (cok stp_215 (csOf ct_215) 1 654) = true := by decide +kernel
set_option maxRecDepth 1000000 in
theorem cq_215_75 : cy_215_75.all (cok stp_215 (csOf ct_215) 1 654) = true := by decide +kernel
set_option maxRecDepth 1000000 in
theorem cq_215_76 : cy_215_76.all (cok stp_215 (csOf ct_215) 1 654) = true := by decide +kernel
set_option maxRecDepth 1000000 in
theorem cq_215_77 : cy_215_77.all (cok stp_215 (csOf ct_215) 1 654) = true := by decide +kernel
set_option maxRecDepth 1000000 in
theorem cq_215_78 : cy_215_78.all (cok stp_215 (csOf ct_215) 1 654) = true := by decide +kernel
set_option maxRecDepth 1000000 in
theorem cq_215_79 : cy_215_79.all (cok stp_215 (csOf ct_215) 1 654) = true := by decide +kernel
set_option maxRecDepth 1000000 in
theorem cq_215_80 : cy_215_80.all (cok stp_215 (csOf ct_215) 1 654) = true := by decide +kernel
set_option maxRecDepth 1000000 in
theorem cq_215_81 : cy_215_81.all (cok stp_215 (csOf ct_215) 1 654) = true := by decide +kernel
set_option maxRecDepth 1000000 in
theorem cq_215_82 : cy_215_82.all (cok stp_215 (csOf ct_215) 1 654) = true := by decide +kernel
set_option maxRecDepth 1000000 in
theorem cq_215_83 : cy_215_83.all (cok stp_215 (csOf ct_215) 1 654) = true := by decide +kernel
set_option maxRecDepth 1000000 in
theorem cq_215_84 : cy_215_84.all (cok stp_215 (csOf ct_215) 1 654) = true := by decide +kernel
set_option maxRecDepth 1000000 in
theorem cq_215_85 : cy_215_85.all (cok stp_215 (csOf ct_215) 1 654) = true := by decide +kernel
set_option maxRecDepth 1000000 in
theorem cq_215_86 : cy_215_86.all (cok stp_215 (csOf ct_215) 1 654) = true := by decide +kernel
set_option maxRecDepth 1000000 in
theorem cq_215_87 : cy_215_87.all (cok stp_215 (csOf ct_215) 1 654) = true := by decide +kernel
set_option maxRecDepth 1000000 in
theorem cq_215_88 : cy_215_88.all (cok stp_215 (csOf ct_215) 1 654) = true := by decide +kernel
set_option maxRecDepth 1000000 in
theorem cq_215_89 : cy_215_89.all (cok stp_215 (csOf ct_215) 1 654) = true := by decide +kernel
set_option maxRecDepth 1000000 in
theorem cq_215_90 : cy_215_90.all (cok stp_215 (csOf ct_215) 1 654) = true := by decide +kernel
set_option maxRecDepth 1000000 in
theorem cq_215_91 : cy_215_91.all (cok stp_215 (csOf ct_215) 1 654) = true := by decide +kernel
set_option maxRecDepth 1000000 in
theorem cq_215_92 : cy_215_92.all (cok stp_215 (csOf ct_215) 1 654) = true := by decide +kernel
set_option maxRecDepth 1000000 in
theorem cq_215_93 : cy_215_93.all (cok stp_215 (csOf ct_215) 1 654) = true := by decide +kernel
set_option maxRecDepth 1000000 in
theorem cq_215_94 : cy_215_94.all (cok stp_215 (csOf ct_215) 1 654) = true := by decide +kernel
set_option maxRecDepth 1000000 in
theorem cq_215_95 : cy_215_95.all (cok stp_215 (csOf ct_215) 1 654) = true := by decide +kernel
set_option maxRecDepth 1000000 in
theorem cq_215_96 : cy_215_96.all (cok stp_215 (csOf ct_215) 1 654) = true := by decide +kernel
set_option maxRecDepth 1000000 in
theorem cq_215_97 : cy_215_97.all (cok stp_215 (csOf ct_215) 1 654) = true := by decide +kernel
set_option maxRecDepth 1000000 in
theorem cq_215_98 : cy_215_98.all (cok stp_215 (csOf ct_215) 1 654) = true := by decide +kernel
set_option maxRecDepth 1000000 in
theorem cq_215_99 : cy_215_99.all (cok stp_215 (csOf ct_215) 1 654) = true := by decide +kernel
set_option maxRecDepth 1000000 in
theorem cq_215_100 : cy_215_100.all (cok stp_215 (csOf ct_215) 1 654) = true := by decide +kernel
set_option maxRecDepth 1000000 in
theorem cq_215_101 : cy_215_101.all (cok stp_215 (csOf ct_215) 1 654) = true := by decide +kernel
set_option maxRecDepth 1000000 in
theorem cq_215_102 : cy_215_102.all (cok stp_215 (csOf ct_215) 1 654) = true := by decide +kernel
set_option maxRecDepth 1000000 in
theorem cq_215_103 : cy_215_103.all (cok stp_215 (csOf ct_215) 1 654) = true := by decide +kernel
set_option maxRecDepth 1000000 in
theorem cq_215_104 : cy_215_104.all (cok stp_215 (csOf ct_215) 1 654) = true := by decide +kernel
set_option maxRecDepth 1000000 in
theorem cq_215_105 : cy_215_105.all (cok stp_215 (csOf ct_215) 1 654) = true := by decide +kernel
set_option maxRecDepth 1000000 in
theorem cq_215_106 : cy_215_106.all (cok stp_215 (csOf ct_215) 1 654) = true := by decide +kernel
set_option maxRecDepth 1000000 in
theorem cq_215_107 : cy_215_107.all (cok stp_215 (csOf ct_215) 1 654) = true := by decide +kernel
set_option maxRecDepth 1000000 in
theorem cq_215_108 : cy_215_108.all (cok stp_215 (csOf ct_215) 1 654) = true := by decide +kernel
set_option maxRecDepth 1000000 in
theorem cq_215_109 : cy_215_109.all (cok stp_215 (csOf ct_215) 1 654) = true := by decide +kernel
set_option maxRecDepth 1000000 in
theorem cq_215_110 : cy_215_110.all (cok stp_215 (csOf ct_215) 1 654) = true := by decide +kernel
set_option maxRecDepth 1000000 in
theorem cq_215_111 : cy_215_111.all (cok stp_215 (csOf ct_215) 1 654) = true := by decide +kernel
set_option maxRecDepth 1000000 in
theorem cq_215_112 : cy_215_112.all (cok stp_215 (csOf ct_215) 1 654) = true := by decide +kernel
set_option maxRecDepth 1000000 in
theorem cq_215_113 : cy_215_113.all (cok stp_215 (csOf ct_215) 1 654) = true := by decide +kernel
set_option maxRecDepth 1000000 in
theorem cq_215_114 : cy_215_114.all (cok stp_215 (csOf ct_215) 1 654) = true := by decide +kernel
set_option maxRecDepth 1000000 in
theorem cq_215_115 : cy_215_115.all (cok stp_215 (csOf ct_215) 1 654) = true := by decide +kernel
set_option maxRecDepth 1000000 in
theorem cq_215_116 : cy_215_116.all (cok stp_215 (csOf ct_215) 1 654) = true := by decide +kernel
set_option maxRecDepth 1000000 in
theorem cq_215_117 : cy_215_117.all (cok stp_215 (csOf ct_215) 1 654) = true := by decide +kernel
set_option maxRecDepth 1000000 in
theorem cq_215_118 : cy_215_118.all (cok stp_215 (csOf ct_215) 1 654) = true := by decide +kernel
set_option maxRecDepth 1000000 in
theorem cq_215_119 : cy_215_119.all (cok stp_215 (csOf ct_215) 1 654) = true := by decide +kernel
set_option maxRecDepth 1000000 in
theorem cq_215_120 : cy_215_120.all (cok stp_215 (csOf ct_215) 1 654) = true := by decide +kernel
set_option maxRecDepth 1000000 in
theorem cq_215_121 : cy_215_121.all (cok stp_215 (csOf ct_215) 1 654) = true := by decide +kernel
set_option maxRecDepth 1000000 in
theorem cq_215_122 : cy_215_122.all (cok stp_215 (csOf ct_215) 1 654) = true := by decide +kernel
set_option maxRecDepth 1000000 in
theorem cq_215_123 : cy_215_123.all (cok stp_215 (csOf ct_215) 1 654) = true := by decide +kernel
set_option maxRecDepth 1000000 in
theorem cq_215_124 : cy_215_124.all (cok stp_215 (csOf ct_215) 1 654) = true := by decide +kernel
set_option maxRecDepth 1000000 in
theorem cq_215_125 : cy_215_125.all (cok stp_215 (csOf ct_215) 1 654) = true := by decide +kernel
set_option maxRecDepth 1000000 in
theorem cq_215_126 : cy_215_126.all (cok stp_215 (csOf ct_215) 1 654) = true := by decide +kernel
set_option maxRecDepth 1000000 in
theorem cq_215_127 : cy_215_127.all (cok stp_215 (csOf ct_215) 1 654) = true := by decide +kernel
set_option maxRecDepth 1000000 in
theorem cq_215_128 : cy_215_128.all (cok stp_215 (csOf ct_215) 1 654) = true := by decide +kernel
set_option maxRecDepth 1000000 in
theorem cq_215_129 : cy_215_129.all (cok stp_215 (csOf ct_215) 1 654) = true := by decide +kernel
set_option maxRecDepth 1000000 in
theorem cq_215_130 : cy_215_130.all (cok stp_215 (csOf ct_215) 1 654) = true := by decide +kernel
set_option maxRecDepth 1000000 in
theorem cq_215_131 : cy_215_131.all (cok stp_215 (csOf ct_215) 1 654) = true := by decide +kernel
set_option maxRecDepth 1000000 in
theorem cq_215_132 : cy_215_132.all (cok stp_215 (csOf ct_215) 1 654) = true := by decide +kernel
set_option maxRecDepth 1000000 in
theorem cq_215_133 : cy_215_133.all (cok stp_215 (csOf ct_215) 1 654) = true := by decide +kernel
set_option maxRecDepth 1000000 in
theorem cq_215_134 : cy_215_134.all (cok stp_215 (csOf ct_215) 1 654) = true := by decide +kernel
set_option maxRecDepth 1000000 in
theorem cq_215_135 : cy_215_135.all (cok stp_215 (csOf ct_215) 1 654) = true := by decide +kernel
set_option maxRecDepth 1000000 in
theorem cq_215_136 : cy_215_136.all (cok stp_215 (csOf ct_215) 1 654) = true := by decide +kernel
set_option maxRecDepth 1000000 in
theorem cq_215_137 : cy_215_137.all (cok stp_215 (csOf ct_215) 1 654) = true := by decide +kernel
set_option maxRecDepth 1000000 in
theorem cq_215_138 : cy_215_138.all (cok stp_215 (csOf ct_215) 1 654) = true := by decide +kernel
set_option maxRecDepth 1000000 in
theorem cq_215_139 : cy_215_139.all (cok stp_215 (csOf ct_215) 1 654) = true := by decide +kernel
set_option maxRecDepth 1000000 in
theorem cq_215_140 : cy_215_140.all (cok stp_215 (csOf ct_215) 1 654) = true := by decide +kernel
set_option maxRecDepth 1000000 in
theorem cq_215_141 : cy_215_141.all (cok stp_215 (csOf ct_215) 1 654) = true := by decide +kernel
set_option maxRecDepth 1000000 in
theorem cq_215_142 : cy_215_142.all (cok stp_215 (csOf ct_215) 1 654) = true := by decide +kernel
set_option maxRecDepth 1000000 in
theorem cq_215_143 : cy_215_143.all (cok stp_215 (csOf ct_215) 1 654) = true := by decide +kernel
set_option maxRecDepth 1000000 in
theorem cq_215_144 : cy_215_144.all (cok stp_215 (csOf ct_215) 1 654) = true := by decide +kernel
set_option maxRecDepth 1000000 in
theorem cq_215_145 : cy_215_145.all (cok stp_215 (csOf ct_215) 1 654) = true := by decide +kernel
