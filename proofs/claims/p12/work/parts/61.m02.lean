/-! What the checker finds right: part 2. -/
section XM2
set_option maxRecDepth 1000000 in
theorem x_m70a : (x_CT 70).all (vMeth x_KT x_tb x_tyl (x_ovS none) (x_CTb 70) x_hs x_knd 20000 70) = true := by decide +kernel
set_option maxRecDepth 1000000 in
theorem x_m70b : (x_CT 70).all (vMeth x_KT x_tb x_tyl (x_ovS (some 1200000)) (x_CTb 70) x_hs x_knd 20000 70) = true := by decide +kernel
set_option maxRecDepth 1000000 in
theorem x_m71a : (x_CT 71).all (vMeth x_KT x_tb x_tyl (x_ovS none) (x_CTb 71) x_hs x_knd 20000 71) = true := by decide +kernel
set_option maxRecDepth 1000000 in
theorem x_m71b : (x_CT 71).all (vMeth x_KT x_tb x_tyl (x_ovS (some 1200000)) (x_CTb 71) x_hs x_knd 20000 71) = true := by decide +kernel
set_option maxRecDepth 1000000 in
theorem x_m83a : (x_CT 83).all (vMeth x_KT x_tb x_tyl (x_ovS none) (x_CTb 83) x_hs x_knd 20000 83) = true := by decide +kernel
set_option maxRecDepth 1000000 in
theorem x_m83b : (x_CT 83).all (vMeth x_KT x_tb x_tyl (x_ovS (some 1200000)) (x_CTb 83) x_hs x_knd 20000 83) = true := by decide +kernel
set_option maxRecDepth 1000000 in
theorem x_m84a : (x_CT 84).all (vMeth x_KT x_tb x_tyl (x_ovS none) (x_CTb 84) x_hs x_knd 20000 84) = true := by decide +kernel
set_option maxRecDepth 1000000 in
theorem x_m84b : (x_CT 84).all (vMeth x_KT x_tb x_tyl (x_ovS (some 1200000)) (x_CTb 84) x_hs x_knd 20000 84) = true := by decide +kernel
set_option maxRecDepth 1000000 in
theorem x_m85a : (x_CT 85).all (vMeth x_KT x_tb x_tyl (x_ovS none) (x_CTb 85) x_hs x_knd 20000 85) = true := by decide +kernel
set_option maxRecDepth 1000000 in
theorem x_m85b : (x_CT 85).all (vMeth x_KT x_tb x_tyl (x_ovS (some 1200000)) (x_CTb 85) x_hs x_knd 20000 85) = true := by decide +kernel
set_option maxRecDepth 1000000 in
theorem x_m86a : (x_CT 86).all (vMeth x_KT x_tb x_tyl (x_ovS none) (x_CTb 86) x_hs x_knd 20000 86) = true := by decide +kernel
set_option maxRecDepth 1000000 in
theorem x_m86b : (x_CT 86).all (vMeth x_KT x_tb x_tyl (x_ovS (some 1200000)) (x_CTb 86) x_hs x_knd 20000 86) = true := by decide +kernel
set_option maxRecDepth 1000000 in
theorem x_m88a : (x_CT 88).all (vMeth x_KT x_tb x_tyl (x_ovS none) (x_CTb 88) x_hs x_knd 20000 88) = true := by decide +kernel
set_option maxRecDepth 1000000 in
theorem x_m88b : (x_CT 88).all (vMeth x_KT x_tb x_tyl (x_ovS (some 1200000)) (x_CTb 88) x_hs x_knd 20000 88) = true := by decide +kernel
set_option maxRecDepth 1000000 in
theorem x_m89a : (x_CT 89).all (vMeth x_KT x_tb x_tyl (x_ovS none) (x_CTb 89) x_hs x_knd 20000 89) = true := by decide +kernel
set_option maxRecDepth 1000000 in
theorem x_m89b : (x_CT 89).all (vMeth x_KT x_tb x_tyl (x_ovS (some 1200000)) (x_CTb 89) x_hs x_knd 20000 89) = true := by decide +kernel
set_option maxRecDepth 1000000 in
theorem x_m91a : (x_CT 91).all (vMeth x_KT x_tb x_tyl (x_ovS none) (x_CTb 91) x_hs x_knd 20000 91) = true := by decide +kernel
set_option maxRecDepth 1000000 in
theorem x_m91b : (x_CT 91).all (vMeth x_KT x_tb x_tyl (x_ovS (some 1200000)) (x_CTb 91) x_hs x_knd 20000 91) = true := by decide +kernel
set_option maxRecDepth 1000000 in
theorem x_m92a : (x_CT 92).all (vMeth x_KT x_tb x_tyl (x_ovS none) (x_CTb 92) x_hs x_knd 20000 92) = true := by decide +kernel
set_option maxRecDepth 1000000 in
theorem x_m92b : (x_CT 92).all (vMeth x_KT x_tb x_tyl (x_ovS (some 1200000)) (x_CTb 92) x_hs x_knd 20000 92) = true := by decide +kernel
set_option maxRecDepth 1000000 in
theorem x_m93a : (x_CT 93).all (vMeth x_KT x_tb x_tyl (x_ovS none) (x_CTb 93) x_hs x_knd 20000 93) = true := by decide +kernel
set_option maxRecDepth 1000000 in
theorem x_m93b : (x_CT 93).all (vMeth x_KT x_tb x_tyl (x_ovS (some 1200000)) (x_CTb 93) x_hs x_knd 20000 93) = true := by decide +kernel
set_option maxRecDepth 1000000 in
theorem x_m95a : (x_CT 95).all (vMeth x_KT x_tb x_tyl (x_ovS none) (x_CTb 95) x_hs x_knd 20000 95) = true := by decide +kernel
set_option maxRecDepth 1000000 in
theorem x_m95b : (x_CT 95).all (vMeth x_KT x_tb x_tyl (x_ovS (some 1200000)) (x_CTb 95) x_hs x_knd 20000 95) = true := by decide +kernel
set_option maxRecDepth 1000000 in
theorem x_m96a : (x_CT 96).all (vMeth x_KT x_tb x_tyl (x_ovS none) (x_CTb 96) x_hs x_knd 20000 96) = true := by decide +kernel
set_option maxRecDepth 1000000 in
theorem x_m96b : (x_CT 96).all (vMeth x_KT x_tb x_tyl (x_ovS (some 1200000)) (x_CTb 96) x_hs x_knd 20000 96) = true := by decide +kernel
set_option maxRecDepth 1000000 in
theorem x_m100a : (x_CT 100).all (vMeth x_KT x_tb x_tyl (x_ovS none) (x_CTb 100) x_hs x_knd 20000 100) = true := by decide +kernel
set_option maxRecDepth 1000000 in
theorem x_m100b : (x_CT 100).all (vMeth x_KT x_tb x_tyl (x_ovS (some 1200000)) (x_CTb 100) x_hs x_knd 20000 100) = true := by decide +kernel
set_option maxRecDepth 1000000 in
theorem x_m101a : (x_CT 101).all (vMeth x_KT x_tb x_tyl (x_ovS none) (x_CTb 101) x_hs x_knd 20000 101) = true := by decide +kernel
set_option maxRecDepth 1000000 in
theorem x_m101b : (x_CT 101).all (vMeth x_KT x_tb x_tyl (x_ovS (some 1200000)) (x_CTb 101) x_hs x_knd 20000 101) = true := by decide +kernel
set_option maxRecDepth 1000000 in
theorem x_m103a : (x_CT 103).all (vMeth x_KT x_tb x_tyl (x_ovS none) (x_CTb 103) x_hs x_knd 20000 103) = true := by decide +kernel
set_option maxRecDepth 1000000 in
theorem x_m103b : (x_CT 103).all (vMeth x_KT x_tb x_tyl (x_ovS (some 1200000)) (x_CTb 103) x_hs x_knd 20000 103) = true := by decide +kernel
set_option maxRecDepth 1000000 in
theorem x_m107a : (x_CT 107).all (vMeth x_KT x_tb x_tyl (x_ovS none) (x_CTb 107) x_hs x_knd 20000 107) = true := by decide +kernel
set_option maxRecDepth 1000000 in
theorem x_m107b : (x_CT 107).all (vMeth x_KT x_tb x_tyl (x_ovS (some 1200000)) (x_CTb 107) x_hs x_knd 20000 107) = true := by decide +kernel
set_option maxRecDepth 1000000 in
theorem x_m108a : (x_CT 108).all (vMeth x_KT x_tb x_tyl (x_ovS none) (x_CTb 108) x_hs x_knd 20000 108) = true := by decide +kernel
set_option maxRecDepth 1000000 in
theorem x_m108b : (x_CT 108).all (vMeth x_KT x_tb x_tyl (x_ovS (some 1200000)) (x_CTb 108) x_hs x_knd 20000 108) = true := by decide +kernel
set_option maxRecDepth 1000000 in
theorem x_m109a : (x_CT 109).all (vMeth x_KT x_tb x_tyl (x_ovS none) (x_CTb 109) x_hs x_knd 20000 109) = true := by decide +kernel
set_option maxRecDepth 1000000 in
theorem x_m109b : (x_CT 109).all (vMeth x_KT x_tb x_tyl (x_ovS (some 1200000)) (x_CTb 109) x_hs x_knd 20000 109) = true := by decide +kernel
set_option maxRecDepth 1000000 in
theorem x_m112a : (x_CT 112).all (vMeth x_KT x_tb x_tyl (x_ovS none) (x_CTb 112) x_hs x_knd 20000 112) = true := by decide +kernel
set_option maxRecDepth 1000000 in
theorem x_m112b : (x_CT 112).all (vMeth x_KT x_tb x_tyl (x_ovS (some 1200000)) (x_CTb 112) x_hs x_knd 20000 112) = true := by decide +kernel
set_option maxRecDepth 1000000 in
theorem x_m115a : (x_CT 115).all (vMeth x_KT x_tb x_tyl (x_ovS none) (x_CTb 115) x_hs x_knd 20000 115) = true := by decide +kernel
set_option maxRecDepth 1000000 in
theorem x_m115b : (x_CT 115).all (vMeth x_KT x_tb x_tyl (x_ovS (some 1200000)) (x_CTb 115) x_hs x_knd 20000 115) = true := by decide +kernel
set_option maxRecDepth 1000000 in
theorem x_m116a : (x_CT 116).all (vMeth x_KT x_tb x_tyl (x_ovS none) (x_CTb 116) x_hs x_knd 20000 116) = true := by decide +kernel
set_option maxRecDepth 1000000 in
theorem x_m116b : (x_CT 116).all (vMeth x_KT x_tb x_tyl (x_ovS (some 1200000)) (x_CTb 116) x_hs x_knd 20000 116) = true := by decide +kernel
set_option maxRecDepth 1000000 in
theorem x_m117a : (x_CT 117).all (vMeth x_KT x_tb x_tyl (x_ovS none) (x_CTb 117) x_hs x_knd 20000 117) = true := by decide +kernel
set_option maxRecDepth 1000000 in
theorem x_m117b : (x_CT 117).all (vMeth x_KT x_tb x_tyl (x_ovS (some 1200000)) (x_CTb 117) x_hs x_knd 20000 117) = true := by decide +kernel
set_option maxRecDepth 1000000 in
theorem x_m119a : (x_CT 119).all (vMeth x_KT x_tb x_tyl (x_ovS none) (x_CTb 119) x_hs x_knd 20000 119) = true := by decide +kernel
set_option maxRecDepth 1000000 in
theorem x_m119b : (x_CT 119).all (vMeth x_KT x_tb x_tyl (x_ovS (some 1200000)) (x_CTb 119) x_hs x_knd 20000 119) = true := by decide +kernel
set_option maxRecDepth 1000000 in
theorem x_m121a : (x_CT 121).all (vMeth x_KT x_tb x_tyl (x_ovS none) (x_CTb 121) x_hs x_knd 20000 121) = true := by decide +kernel
set_option maxRecDepth 1000000 in
theorem x_m121b : (x_CT 121).all (vMeth x_KT x_tb x_tyl (x_ovS (some 1200000)) (x_CTb 121) x_hs x_knd 20000 121) = true := by decide +kernel
set_option maxRecDepth 1000000 in
theorem x_m123a : (x_CT 123).all (vMeth x_KT x_tb x_tyl (x_ovS none) (x_CTb 123) x_hs x_knd 20000 123) = true := by decide +kernel
set_option maxRecDepth 1000000 in
theorem x_m123b : (x_CT 123).all (vMeth x_KT x_tb x_tyl (x_ovS (some 1200000)) (x_CTb 123) x_hs x_knd 20000 123) = true := by decide +kernel
set_option maxRecDepth 1000000 in
theorem x_m124a : (x_CT 124).all (vMeth x_KT x_tb x_tyl (x_ovS none) (x_CTb 124) x_hs x_knd 20000 124) = true := by decide +kernel
set_option maxRecDepth 1000000 in
theorem x_m124b : (x_CT 124).all (vMeth x_KT x_tb x_tyl (x_ovS (some 1200000)) (x_CTb 124) x_hs x_knd 20000 124) = true := by decide +kernel
set_option maxRecDepth 1000000 in
theorem x_m127a : (x_CT 127).all (vMeth x_KT x_tb x_tyl (x_ovS none) (x_CTb 127) x_hs x_knd 20000 127) = true := by decide +kernel
set_option maxRecDepth 1000000 in
theorem x_m127b : (x_CT 127).all (vMeth x_KT x_tb x_tyl (x_ovS (some 1200000)) (x_CTb 127) x_hs x_knd 20000 127) = true := by decide +kernel
set_option maxRecDepth 1000000 in
theorem x_m128a : (x_CT 128).all (vMeth x_KT x_tb x_tyl (x_ovS none) (x_CTb 128) x_hs x_knd 20000 128) = true := by decide +kernel
set_option maxRecDepth 1000000 in
theorem x_m128b : (x_CT 128).all (vMeth x_KT x_tb x_tyl (x_ovS (some 1200000)) (x_CTb 128) x_hs x_knd 20000 128) = true := by decide +kernel
set_option maxRecDepth 1000000 in
theorem x_m129a : (x_CT 129).all (vMeth x_KT x_tb x_tyl (x_ovS none) (x_CTb 129) x_hs x_knd 20000 129) = true := by decide +kernel
set_option maxRecDepth 1000000 in
theorem x_m129b : (x_CT 129).all (vMeth x_KT x_tb x_tyl (x_ovS (some 1200000)) (x_CTb 129) x_hs x_knd 20000 129) = true := by decide +kernel
set_option maxRecDepth 1000000 in
theorem x_m130a : (x_CT 130).all (vMeth x_KT x_tb x_tyl (x_ovS none) (x_CTb 130) x_hs x_knd 20000 130) = true := by decide +kernel
set_option maxRecDepth 1000000 in
theorem x_m130b : (x_CT 130).all (vMeth x_KT x_tb x_tyl (x_ovS (some 1200000)) (x_CTb 130) x_hs x_knd 20000 130) = true := by decide +kernel
set_option maxRecDepth 1000000 in
theorem x_m131a : (x_CT 131).all (vMeth x_KT x_tb x_tyl (x_ovS none) (x_CTb 131) x_hs x_knd 20000 131) = true := by decide +kernel
set_option maxRecDepth 1000000 in
theorem x_m131b : (x_CT 131).all (vMeth x_KT x_tb x_tyl (x_ovS (some 1200000)) (x_CTb 131) x_hs x_knd 20000 131) = true := by decide +kernel
set_option maxRecDepth 1000000 in
theorem x_m132a : (x_CT 132).all (vMeth x_KT x_tb x_tyl (x_ovS none) (x_CTb 132) x_hs x_knd 20000 132) = true := by decide +kernel
set_option maxRecDepth 1000000 in
theorem x_m132b : (x_CT 132).all (vMeth x_KT x_tb x_tyl (x_ovS (some 1200000)) (x_CTb 132) x_hs x_knd 20000 132) = true := by decide +kernel
set_option maxRecDepth 1000000 in
theorem x_m133a : (x_CT 133).all (vMeth x_KT x_tb x_tyl (x_ovS none) (x_CTb 133) x_hs x_knd 20000 133) = true := by decide +kernel
set_option maxRecDepth 1000000 in
theorem x_m133b : (x_CT 133).all (vMeth x_KT x_tb x_tyl (x_ovS (some 1200000)) (x_CTb 133) x_hs x_knd 20000 133) = true := by decide +kernel
set_option maxRecDepth 1000000 in
theorem x_m134a : (x_CT 134).all (vMeth x_KT x_tb x_tyl (x_ovS none) (x_CTb 134) x_hs x_knd 20000 134) = true := by decide +kernel
set_option maxRecDepth 1000000 in
theorem x_m134b : (x_CT 134).all (vMeth x_KT x_tb x_tyl (x_ovS (some 1200000)) (x_CTb 134) x_hs x_knd 20000 134) = true := by decide +kernel
set_option maxRecDepth 1000000 in
theorem x_m135a : (x_CT 135).all (vMeth x_KT x_tb x_tyl (x_ovS none) (x_CTb 135) x_hs x_knd 20000 135) = true := by decide +kernel
set_option maxRecDepth 1000000 in
theorem x_m135b : (x_CT 135).all (vMeth x_KT x_tb x_tyl (x_ovS (some 1200000)) (x_CTb 135) x_hs x_knd 20000 135) = true := by decide +kernel
set_option maxRecDepth 1000000 in
theorem x_m136a : (x_CT 136).all (vMeth x_KT x_tb x_tyl (x_ovS none) (x_CTb 136) x_hs x_knd 20000 136) = true := by decide +kernel
set_option maxRecDepth 1000000 in
theorem x_m136b : (x_CT 136).all (vMeth x_KT x_tb x_tyl (x_ovS (some 1200000)) (x_CTb 136) x_hs x_knd 20000 136) = true := by decide +kernel
set_option maxRecDepth 1000000 in
theorem x_m137a : (x_CT 137).all (vMeth x_KT x_tb x_tyl (x_ovS none) (x_CTb 137) x_hs x_knd 20000 137) = true := by decide +kernel
set_option maxRecDepth 1000000 in
theorem x_m137b : (x_CT 137).all (vMeth x_KT x_tb x_tyl (x_ovS (some 1200000)) (x_CTb 137) x_hs x_knd 20000 137) = true := by decide +kernel
set_option maxRecDepth 1000000 in
theorem x_m138a : (x_CT 138).all (vMeth x_KT x_tb x_tyl (x_ovS none) (x_CTb 138) x_hs x_knd 20000 138) = true := by decide +kernel
set_option maxRecDepth 1000000 in
theorem x_m138b : (x_CT 138).all (vMeth x_KT x_tb x_tyl (x_ovS (some 1200000)) (x_CTb 138) x_hs x_knd 20000 138) = true := by decide +kernel
set_option maxRecDepth 1000000 in
theorem x_m139a : (x_CT 139).all (vMeth x_KT x_tb x_tyl (x_ovS none) (x_CTb 139) x_hs x_knd 20000 139) = true := by decide +kernel
set_option maxRecDepth 1000000 in
theorem x_m139b : (x_CT 139).all (vMeth x_KT x_tb x_tyl (x_ovS (some 1200000)) (x_CTb 139) x_hs x_knd 20000 139) = true := by decide +kernel
set_option maxRecDepth 1000000 in
theorem x_m140a : (x_CT 140).all (vMeth x_KT x_tb x_tyl (x_ovS none) (x_CTb 140) x_hs x_knd 20000 140) = true := by decide +kernel
set_option maxRecDepth 1000000 in
theorem x_m140b : (x_CT 140).all (vMeth x_KT x_tb x_tyl (x_ovS (some 1200000)) (x_CTb 140) x_hs x_knd 20000 140) = true := by decide +kernel
set_option maxRecDepth 1000000 in
theorem x_m141a : (x_CT 141).all (vMeth x_KT x_tb x_tyl (x_ovS none) (x_CTb 141) x_hs x_knd 20000 141) = true := by decide +kernel
set_option maxRecDepth 1000000 in
theorem x_m141b : (x_CT 141).all (vMeth x_KT x_tb x_tyl (x_ovS (some 1200000)) (x_CTb 141) x_hs x_knd 20000 141) = true := by decide +kernel
set_option maxRecDepth 1000000 in
theorem x_m143a : (x_CT 143).all (vMeth x_KT x_tb x_tyl (x_ovS none) (x_CTb 143) x_hs x_knd 20000 143) = true := by decide +kernel
set_option maxRecDepth 1000000 in
theorem x_m143b : (x_CT 143).all (vMeth x_KT x_tb x_tyl (x_ovS (some 1200000)) (x_CTb 143) x_hs x_knd 20000 143) = true := by decide +kernel
set_option maxRecDepth 1000000 in
theorem x_m144a : (x_CT 144).all (vMeth x_KT x_tb x_tyl (x_ovS none) (x_CTb 144) x_hs x_knd 20000 144) = true := by decide +kernel
set_option maxRecDepth 1000000 in
theorem x_m144b : (x_CT 144).all (vMeth x_KT x_tb x_tyl (x_ovS (some 1200000)) (x_CTb 144) x_hs x_knd 20000 144) = true := by decide +kernel
set_option maxRecDepth 1000000 in
theorem x_m145a : (x_CT 145).all (vMeth x_KT x_tb x_tyl (x_ovS none) (x_CTb 145) x_hs x_knd 20000 145) = true := by decide +kernel
set_option maxRecDepth 1000000 in
theorem x_m145b : (x_CT 145).all (vMeth x_KT x_tb x_tyl (x_ovS (some 1200000)) (x_CTb 145) x_hs x_knd 20000 145) = true := by decide +kernel
set_option maxRecDepth 1000000 in
theorem x_m146a : (x_CT 146).all (vMeth x_KT x_tb x_tyl (x_ovS none) (x_CTb 146) x_hs x_knd 20000 146) = true := by decide +kernel
set_option maxRecDepth 1000000 in
theorem x_m146b : (x_CT 146).all (vMeth x_KT x_tb x_tyl (x_ovS (some 1200000)) (x_CTb 146) x_hs x_knd 20000 146) = true := by decide +kernel
set_option maxRecDepth 1000000 in
theorem x_m147a : (x_CT 147).all (vMeth x_KT x_tb x_tyl (x_ovS none) (x_CTb 147) x_hs x_knd 20000 147) = true := by decide +kernel
set_option maxRecDepth 1000000 in
theorem x_m147b : (x_CT 147).all (vMeth x_KT x_tb x_tyl (x_ovS (some 1200000)) (x_CTb 147) x_hs x_knd 20000 147) = true := by decide +kernel
set_option maxRecDepth 1000000 in
theorem x_m148a : (x_CT 148).all (vMeth x_KT x_tb x_tyl (x_ovS none) (x_CTb 148) x_hs x_knd 20000 148) = true := by decide +kernel
set_option maxRecDepth 1000000 in
theorem x_m148b : (x_CT 148).all (vMeth x_KT x_tb x_tyl (x_ovS (some 1200000)) (x_CTb 148) x_hs x_knd 20000 148) = true := by decide +kernel
set_option maxRecDepth 1000000 in
theorem x_m149a : (x_CT 149).all (vMeth x_KT x_tb x_tyl (x_ovS none) (x_CTb 149) x_hs x_knd 20000 149) = true := by decide +kernel
set_option maxRecDepth 1000000 in
theorem x_m149b : (x_CT 149).all (vMeth x_KT x_tb x_tyl (x_ovS (some 1200000)) (x_CTb 149) x_hs x_knd 20000 149) = true := by decide +kernel
set_option maxRecDepth 1000000 in
theorem x_m150a : (x_CT 150).all (vMeth x_KT x_tb x_tyl (x_ovS none) (x_CTb 150) x_hs x_knd 20000 150) = true := by decide +kernel
set_option maxRecDepth 1000000 in
theorem x_m150b : (x_CT 150).all (vMeth x_KT x_tb x_tyl (x_ovS (some 1200000)) (x_CTb 150) x_hs x_knd 20000 150) = true := by decide +kernel
set_option maxRecDepth 1000000 in
theorem x_m152a : (x_CT 152).all (vMeth x_KT x_tb x_tyl (x_ovS none) (x_CTb 152) x_hs x_knd 20000 152) = true := by decide +kernel
set_option maxRecDepth 1000000 in
theorem x_m152b : (x_CT 152).all (vMeth x_KT x_tb x_tyl (x_ovS (some 1200000)) (x_CTb 152) x_hs x_knd 20000 152) = true := by decide +kernel
set_option maxRecDepth 1000000 in
theorem x_m153a : (x_CT 153).all (vMeth x_KT x_tb x_tyl (x_ovS none) (x_CTb 153) x_hs x_knd 20000 153) = true := by decide +kernel
set_option maxRecDepth 1000000 in
theorem x_m153b : (x_CT 153).all (vMeth x_KT x_tb x_tyl (x_ovS (some 1200000)) (x_CTb 153) x_hs x_knd 20000 153) = true := by decide +kernel
set_option maxRecDepth 1000000 in
theorem x_m154a : (x_CT 154).all (vMeth x_KT x_tb x_tyl (x_ovS none) (x_CTb 154) x_hs x_knd 20000 154) = true := by decide +kernel
set_option maxRecDepth 1000000 in
theorem x_m154b : (x_CT 154).all (vMeth x_KT x_tb x_tyl (x_ovS (some 1200000)) (x_CTb 154) x_hs x_knd 20000 154) = true := by decide +kernel
set_option maxRecDepth 1000000 in
theorem x_m155a : (x_CT 155).all (vMeth x_KT x_tb x_tyl (x_ovS none) (x_CTb 155) x_hs x_knd 20000 155) = true := by decide +kernel
set_option maxRecDepth 1000000 in
theorem x_m155b : (x_CT 155).all (vMeth x_KT x_tb x_tyl (x_ovS (some 1200000)) (x_CTb 155) x_hs x_knd 20000 155) = true := by decide +kernel
set_option maxRecDepth 1000000 in
theorem x_m156a : (x_CT 156).all (vMeth x_KT x_tb x_tyl (x_ovS none) (x_CTb 156) x_hs x_knd 20000 156) = true := by decide +kernel
set_option maxRecDepth 1000000 in
theorem x_m156b : (x_CT 156).all (vMeth x_KT x_tb x_tyl (x_ovS (some 1200000)) (x_CTb 156) x_hs x_knd 20000 156) = true := by decide +kernel
set_option maxRecDepth 1000000 in
theorem x_m157a : (x_CT 157).all (vMeth x_KT x_tb x_tyl (x_ovS none) (x_CTb 157) x_hs x_knd 20000 157) = true := by decide +kernel
set_option maxRecDepth 1000000 in
theorem x_m157b : (x_CT 157).all (vMeth x_KT x_tb x_tyl (x_ovS (some 1200000)) (x_CTb 157) x_hs x_knd 20000 157) = true := by decide +kernel
set_option maxRecDepth 1000000 in
theorem x_m159a : (x_CT 159).all (vMeth x_KT x_tb x_tyl (x_ovS none) (x_CTb 159) x_hs x_knd 20000 159) = true := by decide +kernel
set_option maxRecDepth 1000000 in
theorem x_m159b : (x_CT 159).all (vMeth x_KT x_tb x_tyl (x_ovS (some 1200000)) (x_CTb 159) x_hs x_knd 20000 159) = true := by decide +kernel
set_option maxRecDepth 1000000 in
theorem x_m160a : (x_CT 160).all (vMeth x_KT x_tb x_tyl (x_ovS none) (x_CTb 160) x_hs x_knd 20000 160) = true := by decide +kernel
set_option maxRecDepth 1000000 in
theorem x_m160b : (x_CT 160).all (vMeth x_KT x_tb x_tyl (x_ovS (some 1200000)) (x_CTb 160) x_hs x_knd 20000 160) = true := by decide +kernel
end XM2
