section
theorem zz_test : nI 0 = 0 := nI_0
end
