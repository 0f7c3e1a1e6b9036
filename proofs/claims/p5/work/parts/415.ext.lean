/-! ===== contracts and stretches with tracked places; by program ===== -/
def ak_2000 : af_K := (95, 2, (2, [.inr (.inl 1), .inl (0, [0])], [((1, 2), (0, [1]))], ([(0, (-2147483648), 2147483647), (1, 0, 920)], [], [])), [(1, 2, 3), (2, 0, 924)], [(2, [], [((1, 2), (4, [1]))], ([], [], []))])
def ag_2000 : af_G := ((9, 3, none, mc_95), aw_Sh, [], 2, ak_2000.2.2.2.1, ak_2000.2.2.2.2, [], [], [])
set_option maxRecDepth 1000000 in
theorem ac_2000 : af_meth 123 ag_2000 ak_2000.2.2.1 = true := by decide +kernel
theorem aw_2000 : af_wfK ak_2000.2.1 ak_2000.2.2.1 ak_2000.2.2.2.2 ag_2000.2.2.2.2.2.2.1 = true := by decide +kernel
theorem ah_2000 : af_Holds aw_Sh 1 ak_2000 := af_soundG (G := ag_2000) (K := ak_2000) (d := 0) pz_95 rfl rfl rfl rfl aw_2000 ac_2000 af_HN
def ak_2001 : af_K := (95, 2, (2, [.inr (.inl 1), .inl (0, [0])], [((1, 2), (0, [1]))], ([(0, (-2147483648), 2147483647), (1, 4, 924)], [], [])), [(1, 2, 3), (2, 4, 928)], [(2, [], [((1, 2), (4, [1]))], ([], [], []))])
def ag_2001 : af_G := ((9, 3, none, mc_95), aw_Sh, [], 2, ak_2001.2.2.2.1, ak_2001.2.2.2.2, [], [], [])
set_option maxRecDepth 1000000 in
theorem ac_2001 : af_meth 123 ag_2001 ak_2001.2.2.1 = true := by decide +kernel
theorem aw_2001 : af_wfK ak_2001.2.1 ak_2001.2.2.1 ak_2001.2.2.2.2 ag_2001.2.2.2.2.2.2.1 = true := by decide +kernel
theorem ah_2001 : af_Holds aw_Sh 1 ak_2001 := af_soundG (G := ag_2001) (K := ak_2001) (d := 0) pz_95 rfl rfl rfl rfl aw_2001 ac_2001 af_HN
def ak_2002 : af_K := (95, 2, (2, [.inr (.inl 1), .inl (0, [0])], [((1, 2), (0, [1]))], ([(0, (-2147483648), 2147483647), (1, 8, 928)], [], [])), [(1, 2, 3), (2, 8, 932)], [(2, [], [((1, 2), (4, [1]))], ([], [], []))])
def ag_2002 : af_G := ((9, 3, none, mc_95), aw_Sh, [], 2, ak_2002.2.2.2.1, ak_2002.2.2.2.2, [], [], [])
set_option maxRecDepth 1000000 in
theorem ac_2002 : af_meth 123 ag_2002 ak_2002.2.2.1 = true := by decide +kernel
theorem aw_2002 : af_wfK ak_2002.2.1 ak_2002.2.2.1 ak_2002.2.2.2.2 ag_2002.2.2.2.2.2.2.1 = true := by decide +kernel
theorem ah_2002 : af_Holds aw_Sh 1 ak_2002 := af_soundG (G := ag_2002) (K := ak_2002) (d := 0) pz_95 rfl rfl rfl rfl aw_2002 ac_2002 af_HN
def ak_2003 : af_K := (95, 2, (2, [.inr (.inl 1), .inl (0, [0])], [((1, 2), (0, [1]))], ([(0, (-2147483648), 2147483647), (1, 12, 932)], [], [])), [(1, 2, 3), (2, 12, 936)], [(2, [], [((1, 2), (4, [1]))], ([], [], []))])
def ag_2003 : af_G := ((9, 3, none, mc_95), aw_Sh, [], 2, ak_2003.2.2.2.1, ak_2003.2.2.2.2, [], [], [])
set_option maxRecDepth 1000000 in
theorem ac_2003 : af_meth 123 ag_2003 ak_2003.2.2.1 = true := by decide +kernel
theorem aw_2003 : af_wfK ak_2003.2.1 ak_2003.2.2.1 ak_2003.2.2.2.2 ag_2003.2.2.2.2.2.2.1 = true := by decide +kernel
theorem ah_2003 : af_Holds aw_Sh 1 ak_2003 := af_soundG (G := ag_2003) (K := ak_2003) (d := 0) pz_95 rfl rfl rfl rfl aw_2003 ac_2003 af_HN
def ak_2004 : af_K := (95, 2, (2, [.inr (.inl 1), .inl (0, [0])], [((1, 2), (0, [1]))], ([(0, (-2147483648), 2147483647), (1, 16, 936)], [], [])), [(1, 2, 3), (2, 16, 940)], [(2, [], [((1, 2), (4, [1]))], ([], [], []))])
def ag_2004 : af_G := ((9, 3, none, mc_95), aw_Sh, [], 2, ak_2004.2.2.2.1, ak_2004.2.2.2.2, [], [], [])
set_option maxRecDepth 1000000 in
theorem ac_2004 : af_meth 123 ag_2004 ak_2004.2.2.1 = true := by decide +kernel
theorem aw_2004 : af_wfK ak_2004.2.1 ak_2004.2.2.1 ak_2004.2.2.2.2 ag_2004.2.2.2.2.2.2.1 = true := by decide +kernel
theorem ah_2004 : af_Holds aw_Sh 1 ak_2004 := af_soundG (G := ag_2004) (K := ak_2004) (d := 0) pz_95 rfl rfl rfl rfl aw_2004 ac_2004 af_HN
def ak_2005 : af_K := (111, 6, (6, [.inr (.inl 0), .inl (0, [0]), .inl (0, [1]), .inl (0, [2]), .inl (0, [3]), .inl (0, [4])], [((1, 2), (0, [5]))], ([(0, (-2147483648), 2147483647), (1, (-2147483648), 2147483647), (2, (-2147483648), 2147483647), (3, (-2147483648), 2147483647), (4, (-2147483648), 2147483647), (5, 0, 940)], [], [])), [(1, 2, 3), (2, 0, 940)], [(6, [.inl (20, [5])], [((1, 2), (20, [5]))], ([(5, 0, 920)], [], [])), (6, [.inl ((-1), [])], [((1, 2), (0, [5]))], ([(5, 921, 940)], [], []))])
def ag_2005 : af_G := ((10, 6, (some .int), mc_111), aw_Sh, [ak_2000, ak_2001, ak_2002, ak_2003, ak_2004], 6, ak_2005.2.2.2.1, ak_2005.2.2.2.2, [], [], [])
set_option maxRecDepth 1000000 in
theorem ac_2005 : af_meth 37 ag_2005 ak_2005.2.2.1 = true := by decide +kernel
theorem aw_2005 : af_wfK ak_2005.2.1 ak_2005.2.2.1 ak_2005.2.2.2.2 ag_2005.2.2.2.2.2.2.1 = true := by decide +kernel
theorem ah_2005 : af_Holds aw_Sh 2 ak_2005 := af_soundG (G := ag_2005) (K := ak_2005) (d := 1) pz_111 rfl rfl rfl rfl aw_2005 ac_2005 (af_HC ah_2000 (by decide) (af_HC ah_2001 (by decide) (af_HC ah_2002 (by decide) (af_HC ah_2003 (by decide) (af_HC ah_2004 (by decide) af_HN)))))
def ak_2006 : af_K := (163, 6, (6, [.inr (.inl 61), .inl (0, [0]), .inl (0, [1]), .inl (0, [2]), .inl (0, [3]), .inl (0, [4])], [((61, 2), (0, [5]))], ([(0, (-2147483648), 2147483647), (1, (-2147483648), 2147483647), (2, (-2147483648), 2147483647), (3, (-2147483648), 2147483647), (4, (-2147483648), 2147483647), (5, 0, 940)], [], [])), [(61, 0, 1), (61, 2, 3), (62, 0, 940)], [(6, [.inl (20, [5])], [((61, 0), (0, [])), ((61, 2), (20, [5]))], ([(5, 0, 920)], [], [])), (6, [.inl ((-1), [])], [((61, 0), (0, [])), ((61, 2), (0, [5]))], ([(5, 921, 940)], [], []))])
def ag_2006 : af_G := ((11, 6, (some .int), mc_163), aw_Sh, [ak_367, ak_368, ak_369, ak_370, ak_371], 6, ak_2006.2.2.2.1, ak_2006.2.2.2.2, [], [], [])
set_option maxRecDepth 1000000 in
theorem ac_2006 : af_meth 33 ag_2006 ak_2006.2.2.1 = true := by decide +kernel
theorem aw_2006 : af_wfK ak_2006.2.1 ak_2006.2.2.1 ak_2006.2.2.2.2 ag_2006.2.2.2.2.2.2.1 = true := by decide +kernel
theorem ah_2006 : af_Holds aw_Sh 2 ak_2006 := af_soundG (G := ag_2006) (K := ak_2006) (d := 1) pz_163 rfl rfl rfl rfl aw_2006 ac_2006 (af_HC ah_367 (by decide) (af_HC ah_368 (by decide) (af_HC ah_369 (by decide) (af_HC ah_370 (by decide) (af_HC ah_371 (by decide) af_HN)))))
def ak_2007 : af_K := (145, 1, (1, [.inr (.inl 0), .inl (0, [0])], [], ([(0, (-2147483648), (-1))], [], [])), [], [(1, [.inl ((-1000), [])], [], ([], [], []))])
def ag_2007 : af_G := ((10, 3, (some .int), mc_145), aw_Sh, [], 1, ak_2007.2.2.2.1, ak_2007.2.2.2.2, [], [], [])
set_option maxRecDepth 1000000 in
theorem ac_2007 : af_meth 13 ag_2007 ak_2007.2.2.1 = true := by decide +kernel
theorem aw_2007 : af_wfK ak_2007.2.1 ak_2007.2.2.1 ak_2007.2.2.2.2 ag_2007.2.2.2.2.2.2.1 = true := by decide +kernel
theorem ah_2007 : af_Holds aw_Sh 1 ak_2007 := af_soundG (G := ag_2007) (K := ak_2007) (d := 0) pz_145 rfl rfl rfl rfl aw_2007 ac_2007 af_HN
def ak_2008 : af_K := (145, 1, (1, [.inr (.inl 0), .inl (0, [0])], [], ([(0, 2, 2147483647)], [], [])), [], [(1, [.inl ((-1000), [])], [], ([], [], []))])
def ag_2008 : af_G := ((10, 3, (some .int), mc_145), aw_Sh, [], 1, ak_2008.2.2.2.1, ak_2008.2.2.2.2, [], [], [])
set_option maxRecDepth 1000000 in
theorem ac_2008 : af_meth 13 ag_2008 ak_2008.2.2.1 = true := by decide +kernel
theorem aw_2008 : af_wfK ak_2008.2.1 ak_2008.2.2.1 ak_2008.2.2.2.2 ag_2008.2.2.2.2.2.2.1 = true := by decide +kernel
theorem ah_2008 : af_Holds aw_Sh 1 ak_2008 := af_soundG (G := ag_2008) (K := ak_2008) (d := 0) pz_145 rfl rfl rfl rfl aw_2008 ac_2008 af_HN
def ak_2009 : af_K := (145, 1, (1, [.inr (.inl 0), .inl (0, [0])], [], ([(0, 0, 1)], [], [])), [(0, 16, 17), (1, 2, 12), (12, 0, 114), (14, 0, 114), (15, 1, 3), (16, 0, 912), (28, 5, 6), (29, 0, 40), (30, 0, 40), (31, 0, 40), (60, 0, 4)], [(2, [.inl (0, [1])], [((1, 2), (0, [])), ((1, 3), (400, []))], ([(1, (-2147483648), 2147483647)], [], [])), (3, [.inl (0, [1])], [((0, 16), (1, [])), ((1, 2), (0, [])), ((1, 3), (400, [])), ((1, 5), (0, [2]))], ([(1, (-1), (-1)), (2, 0, 0)], [], []))])
def ag_2009 : af_G := ((10, 3, (some .int), mc_145), aw_Sh, [ak_266, ak_205, ak_151, ak_271, ak_273], 1, ak_2009.2.2.2.1, ak_2009.2.2.2.2, [], [], [])
set_option maxRecDepth 1000000 in
theorem ac_2009 : af_meth 35 ag_2009 ak_2009.2.2.1 = true := by decide +kernel
theorem aw_2009 : af_wfK ak_2009.2.1 ak_2009.2.2.1 ak_2009.2.2.2.2 ag_2009.2.2.2.2.2.2.1 = true := by decide +kernel
theorem ah_2009 : af_Holds aw_Sh 8 ak_2009 := af_soundG (G := ag_2009) (K := ak_2009) (d := 7) pz_145 rfl rfl rfl rfl aw_2009 ac_2009 (af_HC ah_266 (by decide) (af_HC ah_205 (by decide) (af_HC ah_151 (by decide) (af_HC ah_271 (by decide) (af_HC ah_273 (by decide) af_HN)))))
def ak_2010 : af_K := (155, 1, (1, [.inr (.inl 0), .inl (0, [0])], [], ([(0, 0, 0)], [], [])), [], [(1, [.inr (.inl 38)], [], ([], [], []))])
def ag_2010 : af_G := ((10, 2, (some (.object "ReadBound$Image")), mc_155), aw_Sh, [], 1, ak_2010.2.2.2.1, ak_2010.2.2.2.2, [], [], [])
set_option maxRecDepth 1000000 in
theorem ac_2010 : af_meth 12 ag_2010 ak_2010.2.2.1 = true := by decide +kernel
theorem aw_2010 : af_wfK ak_2010.2.1 ak_2010.2.2.1 ak_2010.2.2.2.2 ag_2010.2.2.2.2.2.2.1 = true := by decide +kernel
theorem ah_2010 : af_Holds aw_Sh 1 ak_2010 := af_soundG (G := ag_2010) (K := ak_2010) (d := 0) pz_155 rfl rfl rfl rfl aw_2010 ac_2010 af_HN
def ak_2011 : af_K := (149, 1, (1, [.inr (.inl 0), .inl (0, [0])], [], ([(0, 0, 0)], [], [])), [(38, 3, 4), (40, 0, 170), (41, 0, 27), (43, 0, 114), (44, 4, 5), (45, 0, 40), (46, 0, 40), (47, 0, 40)], [(1, [.inl (1, [])], [((38, 3), (1, []))], ([], [], []))])
def ag_2011 : af_G := ((10, 2, (some .boolean), mc_149), aw_Sh, [ak_344, ak_2010], 1, ak_2011.2.2.2.1, ak_2011.2.2.2.2, [], [], [])
set_option maxRecDepth 1000000 in
theorem ac_2011 : af_meth 20 ag_2011 ak_2011.2.2.1 = true := by decide +kernel
theorem aw_2011 : af_wfK ak_2011.2.1 ak_2011.2.2.1 ak_2011.2.2.2.2 ag_2011.2.2.2.2.2.2.1 = true := by decide +kernel
theorem ah_2011 : af_Holds aw_Sh 4 ak_2011 := af_soundG (G := ag_2011) (K := ak_2011) (d := 3) pz_149 rfl rfl rfl rfl aw_2011 ac_2011 (af_HC ah_344 (by decide) (af_HC ah_2010 (by decide) af_HN))
def ak_2012 : af_K := (155, 1, (1, [.inr (.inl 0), .inl (0, [0])], [], ([(0, 1, 1)], [], [])), [], [(1, [.inr (.inl 49)], [], ([], [], []))])
def ag_2012 : af_G := ((10, 2, (some (.object "ReadBound$Image")), mc_155), aw_Sh, [], 1, ak_2012.2.2.2.1, ak_2012.2.2.2.2, [], [], [])
set_option maxRecDepth 1000000 in
theorem ac_2012 : af_meth 11 ag_2012 ak_2012.2.2.1 = true := by decide +kernel
theorem aw_2012 : af_wfK ak_2012.2.1 ak_2012.2.2.1 ak_2012.2.2.2.2 ag_2012.2.2.2.2.2.2.1 = true := by decide +kernel
theorem ah_2012 : af_Holds aw_Sh 1 ak_2012 := af_soundG (G := ag_2012) (K := ak_2012) (d := 0) pz_155 rfl rfl rfl rfl aw_2012 ac_2012 af_HN
def ak_2013 : af_K := (149, 1, (1, [.inr (.inl 0), .inl (0, [0])], [], ([(0, 1, 1)], [], [])), [(49, 3, 4), (51, 0, 170), (52, 0, 27), (54, 0, 114), (55, 4, 5), (56, 0, 40), (57, 0, 40), (58, 0, 40)], [(1, [.inl (1, [])], [((49, 3), (1, []))], ([], [], []))])
def ag_2013 : af_G := ((10, 2, (some .boolean), mc_149), aw_Sh, [ak_335, ak_2012], 1, ak_2013.2.2.2.1, ak_2013.2.2.2.2, [], [], [])
set_option maxRecDepth 1000000 in
theorem ac_2013 : af_meth 23 ag_2013 ak_2013.2.2.1 = true := by decide +kernel
theorem aw_2013 : af_wfK ak_2013.2.1 ak_2013.2.2.1 ak_2013.2.2.2.2 ag_2013.2.2.2.2.2.2.1 = true := by decide +kernel
theorem ah_2013 : af_Holds aw_Sh 4 ak_2013 := af_soundG (G := ag_2013) (K := ak_2013) (d := 3) pz_149 rfl rfl rfl rfl aw_2013 ac_2013 (af_HC ah_335 (by decide) (af_HC ah_2012 (by decide) af_HN))
def ak_2014 : af_K := (149, 1, (1, [.inr (.inl 0), .inl (0, [0])], [], ([(0, (-2147483648), (-1))], [], [])), [], [(1, [.inl (0, [])], [], ([], [], []))])
def ag_2014 : af_G := ((10, 2, (some .boolean), mc_149), aw_Sh, [], 1, ak_2014.2.2.2.1, ak_2014.2.2.2.2, [], [], [])
set_option maxRecDepth 1000000 in
theorem ac_2014 : af_meth 13 ag_2014 ak_2014.2.2.1 = true := by decide +kernel
theorem aw_2014 : af_wfK ak_2014.2.1 ak_2014.2.2.1 ak_2014.2.2.2.2 ag_2014.2.2.2.2.2.2.1 = true := by decide +kernel
theorem ah_2014 : af_Holds aw_Sh 1 ak_2014 := af_soundG (G := ag_2014) (K := ak_2014) (d := 0) pz_149 rfl rfl rfl rfl aw_2014 ac_2014 af_HN
def ak_2015 : af_K := (149, 1, (1, [.inr (.inl 0), .inl (0, [0])], [], ([(0, 2, 2147483647)], [], [])), [], [(1, [.inl (0, [])], [], ([], [], []))])
def ag_2015 : af_G := ((10, 2, (some .boolean), mc_149), aw_Sh, [], 1, ak_2015.2.2.2.1, ak_2015.2.2.2.2, [], [], [])
set_option maxRecDepth 1000000 in
theorem ac_2015 : af_meth 13 ag_2015 ak_2015.2.2.1 = true := by decide +kernel
theorem aw_2015 : af_wfK ak_2015.2.1 ak_2015.2.2.1 ak_2015.2.2.2.2 ag_2015.2.2.2.2.2.2.1 = true := by decide +kernel
theorem ah_2015 : af_Holds aw_Sh 1 ak_2015 := af_soundG (G := ag_2015) (K := ak_2015) (d := 0) pz_149 rfl rfl rfl rfl aw_2015 ac_2015 af_HN
def ak_2016 : af_K := (150, 2, (2, [.inr (.inl 0), .inl (0, [0])], [((38, 3), (0, [1]))], ([(0, 0, 0), (1, 0, 1)], [], [])), [(5, 0, 170), (6, 0, 27), (12, 0, 114), (15, 2, 3), (17, 4, 5), (18, 0, 40), (19, 0, 40), (20, 0, 40)], [(2, [.inl (0, [])], [], ([(1, 0, 0)], [], [])), (2, [.inl (1, [])], [((15, 2), (0, []))], ([(1, 1, 1)], [], []))])
def ag_2016 : af_G := ((10, 2, (some .boolean), mc_150), aw_Sh, [ak_363, ak_114, ak_2010], 2, ak_2016.2.2.2.1, ak_2016.2.2.2.2, [], [], [])
set_option maxRecDepth 1000000 in
theorem ac_2016 : af_meth 28 ag_2016 ak_2016.2.2.1 = true := by decide +kernel
theorem aw_2016 : af_wfK ak_2016.2.1 ak_2016.2.2.1 ak_2016.2.2.2.2 ag_2016.2.2.2.2.2.2.1 = true := by decide +kernel
theorem ah_2016 : af_Holds aw_Sh 4 ak_2016 := af_soundG (G := ag_2016) (K := ak_2016) (d := 3) pz_150 rfl rfl rfl rfl aw_2016 ac_2016 (af_HC ah_363 (by decide) (af_HC ah_114 (by decide) (af_HC ah_2010 (by decide) af_HN)))
def ak_2017 : af_K := (150, 2, (2, [.inr (.inl 0), .inl (0, [0])], [((49, 3), (0, [1]))], ([(0, 1, 1), (1, 0, 1)], [], [])), [(5, 0, 170), (6, 0, 27), (12, 0, 114), (15, 2, 3), (17, 4, 5), (18, 0, 40), (19, 0, 40), (20, 0, 40)], [(2, [.inl (0, [])], [], ([(1, 0, 0)], [], [])), (2, [.inl (1, [])], [((15, 2), (0, []))], ([(1, 1, 1)], [], []))])
def ag_2017 : af_G := ((10, 2, (some .boolean), mc_150), aw_Sh, [ak_354, ak_114, ak_2012], 2, ak_2017.2.2.2.1, ak_2017.2.2.2.2, [], [], [])
set_option maxRecDepth 1000000 in
theorem ac_2017 : af_meth 31 ag_2017 ak_2017.2.2.1 = true := by decide +kernel
theorem aw_2017 : af_wfK ak_2017.2.1 ak_2017.2.2.1 ak_2017.2.2.2.2 ag_2017.2.2.2.2.2.2.1 = true := by decide +kernel
theorem ah_2017 : af_Holds aw_Sh 4 ak_2017 := af_soundG (G := ag_2017) (K := ak_2017) (d := 3) pz_150 rfl rfl rfl rfl aw_2017 ac_2017 (af_HC ah_354 (by decide) (af_HC ah_114 (by decide) (af_HC ah_2012 (by decide) af_HN)))
def ak_2018 : af_K := (150, 1, (1, [.inr (.inl 0), .inl (0, [0])], [], ([(0, (-2147483648), (-1))], [], [])), [], [(1, [.inl (0, [])], [], ([], [], []))])
def ag_2018 : af_G := ((10, 2, (some .boolean), mc_150), aw_Sh, [], 1, ak_2018.2.2.2.1, ak_2018.2.2.2.2, [], [], [])
set_option maxRecDepth 1000000 in
theorem ac_2018 : af_meth 13 ag_2018 ak_2018.2.2.1 = true := by decide +kernel
theorem aw_2018 : af_wfK ak_2018.2.1 ak_2018.2.2.1 ak_2018.2.2.2.2 ag_2018.2.2.2.2.2.2.1 = true := by decide +kernel
theorem ah_2018 : af_Holds aw_Sh 1 ak_2018 := af_soundG (G := ag_2018) (K := ak_2018) (d := 0) pz_150 rfl rfl rfl rfl aw_2018 ac_2018 af_HN
def ak_2019 : af_K := (150, 1, (1, [.inr (.inl 0), .inl (0, [0])], [], ([(0, 2, 2147483647)], [], [])), [], [(1, [.inl (0, [])], [], ([], [], []))])
def ag_2019 : af_G := ((10, 2, (some .boolean), mc_150), aw_Sh, [], 1, ak_2019.2.2.2.1, ak_2019.2.2.2.2, [], [], [])
set_option maxRecDepth 1000000 in
theorem ac_2019 : af_meth 13 ag_2019 ak_2019.2.2.1 = true := by decide +kernel
theorem aw_2019 : af_wfK ak_2019.2.1 ak_2019.2.2.1 ak_2019.2.2.2.2 ag_2019.2.2.2.2.2.2.1 = true := by decide +kernel
theorem ah_2019 : af_Holds aw_Sh 1 ak_2019 := af_soundG (G := ag_2019) (K := ak_2019) (d := 0) pz_150 rfl rfl rfl rfl aw_2019 ac_2019 af_HN
def ak_2020 : af_K := (167, 1, (1, [.inl (0, [0]), .inl (0, []), .inl (1, [])], [], ([(0, 0, 1)], [], [])), [], [(1, [.inl (1, [])], [], ([], [], []))])
def ag_2020 : af_G := ((11, 3, (some .boolean), mc_167), aw_Sh, [], 1, ak_2020.2.2.2.1, ak_2020.2.2.2.2, [], [], [])
set_option maxRecDepth 1000000 in
theorem ac_2020 : af_meth 15 ag_2020 ak_2020.2.2.1 = true := by decide +kernel
theorem aw_2020 : af_wfK ak_2020.2.1 ak_2020.2.2.1 ak_2020.2.2.2.2 ag_2020.2.2.2.2.2.2.1 = true := by decide +kernel
theorem ah_2020 : af_Holds aw_Sh 1 ak_2020 := af_soundG (G := ag_2020) (K := ak_2020) (d := 0) pz_167 rfl rfl rfl rfl aw_2020 ac_2020 af_HN
def ak_2021 : af_K := (167, 1, (1, [.inl (0, [0]), .inl (0, []), .inl (1, [])], [], ([(0, 0, 0)], [], [])), [], [(1, [.inl (1, [])], [], ([], [], []))])
def ag_2021 : af_G := ((11, 3, (some .boolean), mc_167), aw_Sh, [], 1, ak_2021.2.2.2.1, ak_2021.2.2.2.2, [], [], [])
set_option maxRecDepth 1000000 in
theorem ac_2021 : af_meth 15 ag_2021 ak_2021.2.2.1 = true := by decide +kernel
theorem aw_2021 : af_wfK ak_2021.2.1 ak_2021.2.2.1 ak_2021.2.2.2.2 ag_2021.2.2.2.2.2.2.1 = true := by decide +kernel
theorem ah_2021 : af_Holds aw_Sh 1 ak_2021 := af_soundG (G := ag_2021) (K := ak_2021) (d := 0) pz_167 rfl rfl rfl rfl aw_2021 ac_2021 af_HN
def ak_2022 : af_K := (167, 1, (1, [.inl (0, [0]), .inl (0, []), .inl (1, [])], [], ([(0, 1, 1)], [], [])), [], [(1, [.inl (1, [])], [], ([], [], []))])
def ag_2022 : af_G := ((11, 3, (some .boolean), mc_167), aw_Sh, [], 1, ak_2022.2.2.2.1, ak_2022.2.2.2.2, [], [], [])
set_option maxRecDepth 1000000 in
theorem ac_2022 : af_meth 15 ag_2022 ak_2022.2.2.1 = true := by decide +kernel
theorem aw_2022 : af_wfK ak_2022.2.1 ak_2022.2.2.1 ak_2022.2.2.2.2 ag_2022.2.2.2.2.2.2.1 = true := by decide +kernel
theorem ah_2022 : af_Holds aw_Sh 1 ak_2022 := af_soundG (G := ag_2022) (K := ak_2022) (d := 0) pz_167 rfl rfl rfl rfl aw_2022 ac_2022 af_HN
def xsc_G : af_G := ((11, 3, (some .int), mc_278), aw_Sh, [ak_790, ak_490], 0, [(61, 0, 1), (61, 2, 6), (61, 11, 16), (61, 17, 18), (61, 36, 41)], [], [(48, (0, [(0, .inr (.inl 61)), (1, .inl (1, []))], [], [((61, 2), (0, [])), ((61, 36), (0, [])), ((61, 37), (0, [])), ((61, 38), (0, [])), ((61, 40), (0, []))], ([], [], [])), [(0, 0, (0, []))])], [], [])
def xsc_s : af_S := (0, [(0, .inr (.inl 61))], [], [], ([], [], []))
set_option maxRecDepth 1000000 in
theorem xsc_r : af_run 34 xsc_G none (0, xsc_s) = true := by decide +kernel
set_option maxRecDepth 1000000 in
theorem xsc_l : (xsc_G.2.2.2.2.2.2.1.take 0).all (fun q => af_pos q.2.1.2.2.2.2 q.2.2 && af_run 34 xsc_G (some q.2.2) (q.1, q.2.1)) = true := by decide +kernel
theorem xsc_w : ax_wf xsc_G.2.2.2.1 xsc_G.2.2.2.2.2.1 xsc_G.2.2.2.2.2.2.1 = true := by decide +kernel
theorem xsc_h : ∀ K ∈ xsc_G.2.2.1, af_Holds xsc_G.2.1 7 K := (af_HC ah_790 (by decide) (af_HC ah_490 (by decide) af_HN))
def xda_G : af_G := ((11, 6, (some .int), mc_270), aw_Sh, [ak_791, ak_2020, ak_490], 1, [(61, 0, 1), (61, 2, 6), (61, 11, 16), (61, 17, 18), (61, 32, 33)], [], [(39, (1, [(0, .inr (.inl 61)), (1, .inl (0, [0]))], [], [((61, 2), (0, [])), ((61, 32), (0, []))], ([(0, 0, 1)], [], [])), [(0, 0, (0, []))])], [], [])
def xda_s : af_S := (1, [(0, .inr (.inl 61)), (1, .inl (0, [0]))], [], [], ([(0, 0, 1)], [], []))
set_option maxRecDepth 1000000 in
theorem xda_r : af_run 25 xda_G none (0, xda_s) = true := by decide +kernel
set_option maxRecDepth 1000000 in
theorem xda_l : (xda_G.2.2.2.2.2.2.1.take 0).all (fun q => af_pos q.2.1.2.2.2.2 q.2.2 && af_run 25 xda_G (some q.2.2) (q.1, q.2.1)) = true := by decide +kernel
theorem xda_w : ax_wf xda_G.2.2.2.1 xda_G.2.2.2.2.2.1 xda_G.2.2.2.2.2.2.1 = true := by decide +kernel
theorem xda_h : ∀ K ∈ xda_G.2.2.1, af_Holds xda_G.2.1 7 K := (af_HC ah_791 (by decide) (af_HC ah_2020 (by decide) (af_HC ah_490 (by decide) af_HN)))
def xdan_G : af_G := ((11, 6, (some .int), mc_270), aw_Sh, [ak_411], 1, [(61, 0, 1)], [(1, [.inl ((-1000), [])], [((61, 0), (0, []))], ([], [], []))], [], [], [])
def xdan_s : af_S := (1, [(0, .inr (.inl 61)), (1, .inl (0, [0]))], [], [], ([(0, (-2147483648), (-1))], [], []))
set_option maxRecDepth 1000000 in
theorem xdan_r : af_run 16 xdan_G none (0, xdan_s) = true := by decide +kernel
set_option maxRecDepth 1000000 in
theorem xdan_l : (xdan_G.2.2.2.2.2.2.1.take 0).all (fun q => af_pos q.2.1.2.2.2.2 q.2.2 && af_run 16 xdan_G (some q.2.2) (q.1, q.2.1)) = true := by decide +kernel
theorem xdan_w : ax_wf xdan_G.2.2.2.1 xdan_G.2.2.2.2.2.1 xdan_G.2.2.2.2.2.2.1 = true := by decide +kernel
theorem xdan_h : ∀ K ∈ xdan_G.2.2.1, af_Holds xdan_G.2.1 1 K := (af_HC ah_411 (by decide) af_HN)
def xdap_G : af_G := ((11, 6, (some .int), mc_270), aw_Sh, [ak_411], 1, [(61, 0, 1)], [(1, [.inl ((-1000), [])], [((61, 0), (0, []))], ([], [], []))], [], [], [])
def xdap_s : af_S := (1, [(0, .inr (.inl 61)), (1, .inl (0, [0]))], [], [], ([(0, 2, 2147483647)], [], []))
set_option maxRecDepth 1000000 in
theorem xdap_r : af_run 16 xdap_G none (0, xdap_s) = true := by decide +kernel
set_option maxRecDepth 1000000 in
theorem xdap_l : (xdap_G.2.2.2.2.2.2.1.take 0).all (fun q => af_pos q.2.1.2.2.2.2 q.2.2 && af_run 16 xdap_G (some q.2.2) (q.1, q.2.1)) = true := by decide +kernel
theorem xdap_w : ax_wf xdap_G.2.2.2.1 xdap_G.2.2.2.2.2.1 xdap_G.2.2.2.2.2.2.1 = true := by decide +kernel
theorem xdap_h : ∀ K ∈ xdap_G.2.2.1, af_Holds xdap_G.2.1 1 K := (af_HC ah_411 (by decide) af_HN)
def xib0_G : af_G := ((11, 3, (some .boolean), mc_282), aw_Sh, [], 1, [(77, 0, 27), (78, 0, 1)], [(1, [.inl (1, [])], [((78, 0), (1, []))], ([], [], []))], [(51, (2, [(0, .inr (.inl 61)), (1, .inl (0, [0])), (2, .inl (0, [1]))], [], [], ([(1, 0, 27), (0, 0, 0)], [], [])), [(1, 0, (0, [])), (2147483647, 1, (0, [1])), (0, 0, (0, []))])], [], [])
def xib0_s : af_S := (1, [(0, .inr (.inl 61)), (1, .inl (0, [0]))], [], [], ([(0, 0, 0)], [], []))
set_option maxRecDepth 1000000 in
theorem xib0_r : af_run 23 xib0_G none (49, xib0_s) = true := by decide +kernel
set_option maxRecDepth 1000000 in
theorem xib0_l : (xib0_G.2.2.2.2.2.2.1.take 1).all (fun q => af_pos q.2.1.2.2.2.2 q.2.2 && af_run 23 xib0_G (some q.2.2) (q.1, q.2.1)) = true := by decide +kernel
theorem xib0_w : ax_wf xib0_G.2.2.2.1 xib0_G.2.2.2.2.2.1 xib0_G.2.2.2.2.2.2.1 = true := by decide +kernel
theorem xib0_h : ∀ K ∈ xib0_G.2.2.1, af_Holds xib0_G.2.1 0 K := af_HN
def xib1_G : af_G := ((11, 3, (some .boolean), mc_282), aw_Sh, [], 1, [(77, 27, 54), (78, 1, 2)], [(1, [.inl (1, [])], [((78, 1), (1, []))], ([], [], []))], [(51, (2, [(0, .inr (.inl 61)), (1, .inl (0, [0])), (2, .inl (0, [1]))], [], [], ([(1, 0, 27), (0, 1, 1)], [], [])), [(1, 0, (0, [])), (2147483647, 1, (0, [1])), (0, 0, (0, []))])], [], [])
def xib1_s : af_S := (1, [(0, .inr (.inl 61)), (1, .inl (0, [0]))], [], [], ([(0, 1, 1)], [], []))
set_option maxRecDepth 1000000 in
theorem xib1_r : af_run 23 xib1_G none (49, xib1_s) = true := by decide +kernel
set_option maxRecDepth 1000000 in
theorem xib1_l : (xib1_G.2.2.2.2.2.2.1.take 1).all (fun q => af_pos q.2.1.2.2.2.2 q.2.2 && af_run 23 xib1_G (some q.2.2) (q.1, q.2.1)) = true := by decide +kernel
theorem xib1_w : ax_wf xib1_G.2.2.2.1 xib1_G.2.2.2.2.2.1 xib1_G.2.2.2.2.2.2.1 = true := by decide +kernel
theorem xib1_h : ∀ K ∈ xib1_G.2.2.1, af_Holds xib1_G.2.1 0 K := af_HN
def xra0_G : af_G := ((11, 3, (some .boolean), mc_283), aw_Sh, [ak_2021], 2, [(61, 0, 1)], [(2, [.inl (0, [])], [((61, 0), (0, []))], ([(1, 0, 0)], [], []))], [(27, (2, [(0, .inr (.inl 61)), (1, .inl (0, [0])), (2, .inl (0, []))], [], [], ([(0, 0, 0), (1, 1, 1)], [], [])), [(0, 0, (0, []))])], [], [])
def xra0_s : af_S := (2, [(0, .inr (.inl 61)), (1, .inl (0, [0]))], [], [((78, 0), (0, [1]))], ([(0, 0, 0), (1, 0, 1)], [], []))
set_option maxRecDepth 1000000 in
theorem xra0_r : af_run 21 xra0_G none (0, xra0_s) = true := by decide +kernel
set_option maxRecDepth 1000000 in
theorem xra0_l : (xra0_G.2.2.2.2.2.2.1.take 0).all (fun q => af_pos q.2.1.2.2.2.2 q.2.2 && af_run 21 xra0_G (some q.2.2) (q.1, q.2.1)) = true := by decide +kernel
theorem xra0_w : ax_wf xra0_G.2.2.2.1 xra0_G.2.2.2.2.2.1 xra0_G.2.2.2.2.2.2.1 = true := by decide +kernel
theorem xra0_h : ∀ K ∈ xra0_G.2.2.1, af_Holds xra0_G.2.1 1 K := (af_HC ah_2021 (by decide) af_HN)
def xra1_G : af_G := ((11, 3, (some .boolean), mc_283), aw_Sh, [ak_2022], 2, [(61, 0, 1)], [(2, [.inl (0, [])], [((61, 0), (0, []))], ([(1, 0, 0)], [], []))], [(27, (2, [(0, .inr (.inl 61)), (1, .inl (0, [0])), (2, .inl (0, []))], [], [], ([(0, 1, 1), (1, 1, 1)], [], [])), [(0, 0, (0, []))])], [], [])
def xra1_s : af_S := (2, [(0, .inr (.inl 61)), (1, .inl (0, [0]))], [], [((78, 1), (0, [1]))], ([(0, 1, 1), (1, 0, 1)], [], []))
set_option maxRecDepth 1000000 in
theorem xra1_r : af_run 21 xra1_G none (0, xra1_s) = true := by decide +kernel
set_option maxRecDepth 1000000 in
theorem xra1_l : (xra1_G.2.2.2.2.2.2.1.take 0).all (fun q => af_pos q.2.1.2.2.2.2 q.2.2 && af_run 21 xra1_G (some q.2.2) (q.1, q.2.1)) = true := by decide +kernel
theorem xra1_w : ax_wf xra1_G.2.2.2.1 xra1_G.2.2.2.2.2.1 xra1_G.2.2.2.2.2.2.1 = true := by decide +kernel
theorem xra1_h : ∀ K ∈ xra1_G.2.2.1, af_Holds xra1_G.2.1 1 K := (af_HC ah_2022 (by decide) af_HN)
def xran_G : af_G := ((11, 3, (some .boolean), mc_283), aw_Sh, [ak_411], 1, [(61, 0, 1)], [(1, [.inl (0, [])], [((61, 0), (0, []))], ([], [], []))], [], [], [])
def xran_s : af_S := (1, [(0, .inr (.inl 61)), (1, .inl (0, [0]))], [], [], ([(0, (-2147483648), (-1))], [], []))
set_option maxRecDepth 1000000 in
theorem xran_r : af_run 16 xran_G none (0, xran_s) = true := by decide +kernel
set_option maxRecDepth 1000000 in
theorem xran_l : (xran_G.2.2.2.2.2.2.1.take 0).all (fun q => af_pos q.2.1.2.2.2.2 q.2.2 && af_run 16 xran_G (some q.2.2) (q.1, q.2.1)) = true := by decide +kernel
theorem xran_w : ax_wf xran_G.2.2.2.1 xran_G.2.2.2.2.2.1 xran_G.2.2.2.2.2.2.1 = true := by decide +kernel
theorem xran_h : ∀ K ∈ xran_G.2.2.1, af_Holds xran_G.2.1 1 K := (af_HC ah_411 (by decide) af_HN)
def xrap_G : af_G := ((11, 3, (some .boolean), mc_283), aw_Sh, [ak_411], 1, [(61, 0, 1)], [(1, [.inl (0, [])], [((61, 0), (0, []))], ([], [], []))], [], [], [])
def xrap_s : af_S := (1, [(0, .inr (.inl 61)), (1, .inl (0, [0]))], [], [], ([(0, 2, 2147483647)], [], []))
set_option maxRecDepth 1000000 in
theorem xrap_r : af_run 16 xrap_G none (0, xrap_s) = true := by decide +kernel
set_option maxRecDepth 1000000 in
theorem xrap_l : (xrap_G.2.2.2.2.2.2.1.take 0).all (fun q => af_pos q.2.1.2.2.2.2 q.2.2 && af_run 16 xrap_G (some q.2.2) (q.1, q.2.1)) = true := by decide +kernel
theorem xrap_w : ax_wf xrap_G.2.2.2.1 xrap_G.2.2.2.2.2.1 xrap_G.2.2.2.2.2.2.1 = true := by decide +kernel
theorem xrap_h : ∀ K ∈ xrap_G.2.2.1, af_Holds xrap_G.2.1 1 K := (af_HC ah_411 (by decide) af_HN)
