/-! the walk runs: 10 -/
set_option maxRecDepth 100000 in
theorem w_g1990 : w_g (nat_lit 1990) = true := by decide +kernel
theorem w_r1991 : w_rg 1991 := w_rg_s (n := 1990) w_r1990 w_g1990
set_option maxRecDepth 100000 in
theorem w_g1991 : w_g (nat_lit 1991) = true := by decide +kernel
theorem w_r1992 : w_rg 1992 := w_rg_s (n := 1991) w_r1991 w_g1991
set_option maxRecDepth 100000 in
theorem w_g1992 : w_g (nat_lit 1992) = true := by decide +kernel
theorem w_r1993 : w_rg 1993 := w_rg_s (n := 1992) w_r1992 w_g1992
set_option maxRecDepth 100000 in
theorem w_g1993 : w_g (nat_lit 1993) = true := by decide +kernel
theorem w_r1994 : w_rg 1994 := w_rg_s (n := 1993) w_r1993 w_g1993
set_option maxRecDepth 100000 in
theorem w_g1994 : w_g (nat_lit 1994) = true := by decide +kernel
theorem w_r1995 : w_rg 1995 := w_rg_s (n := 1994) w_r1994 w_g1994
set_option maxRecDepth 100000 in
theorem w_g1995 : w_g (nat_lit 1995) = true := by decide +kernel
theorem w_r1996 : w_rg 1996 := w_rg_s (n := 1995) w_r1995 w_g1995
set_option maxRecDepth 100000 in
theorem w_g1996 : w_g (nat_lit 1996) = true := by decide +kernel
theorem w_r1997 : w_rg 1997 := w_rg_s (n := 1996) w_r1996 w_g1996
set_option maxRecDepth 100000 in
theorem w_g1997 : w_g (nat_lit 1997) = true := by decide +kernel
theorem w_r1998 : w_rg 1998 := w_rg_s (n := 1997) w_r1997 w_g1997
set_option maxRecDepth 100000 in
theorem w_g1998 : w_g (nat_lit 1998) = true := by decide +kernel
theorem w_r1999 : w_rg 1999 := w_rg_s (n := 1998) w_r1998 w_g1998
set_option maxRecDepth 100000 in
theorem w_g1999 : w_g (nat_lit 1999) = true := by decide +kernel
theorem w_r2000 : w_rg 2000 := w_rg_s (n := 1999) w_r1999 w_g1999
set_option maxRecDepth 100000 in
theorem w_g2000 : w_g (nat_lit 2000) = true := by decide +kernel
theorem w_r2001 : w_rg 2001 := w_rg_s (n := 2000) w_r2000 w_g2000
set_option maxRecDepth 100000 in
theorem w_g2001 : w_g (nat_lit 2001) = true := by decide +kernel
theorem w_r2002 : w_rg 2002 := w_rg_s (n := 2001) w_r2001 w_g2001
set_option maxRecDepth 100000 in
theorem w_g2002 : w_g (nat_lit 2002) = true := by decide +kernel
theorem w_r2003 : w_rg 2003 := w_rg_s (n := 2002) w_r2002 w_g2002
set_option maxRecDepth 100000 in
theorem w_g2003 : w_g (nat_lit 2003) = true := by decide +kernel
theorem w_r2004 : w_rg 2004 := w_rg_s (n := 2003) w_r2003 w_g2003
set_option maxRecDepth 100000 in
theorem w_g2004 : w_g (nat_lit 2004) = true := by decide +kernel
theorem w_r2005 : w_rg 2005 := w_rg_s (n := 2004) w_r2004 w_g2004
set_option maxRecDepth 100000 in
theorem w_g2005 : w_g (nat_lit 2005) = true := by decide +kernel
theorem w_r2006 : w_rg 2006 := w_rg_s (n := 2005) w_r2005 w_g2005
set_option maxRecDepth 100000 in
theorem w_g2006 : w_g (nat_lit 2006) = true := by decide +kernel
theorem w_r2007 : w_rg 2007 := w_rg_s (n := 2006) w_r2006 w_g2006
set_option maxRecDepth 100000 in
theorem w_g2007 : w_g (nat_lit 2007) = true := by decide +kernel
theorem w_r2008 : w_rg 2008 := w_rg_s (n := 2007) w_r2007 w_g2007
set_option maxRecDepth 100000 in
theorem w_g2008 : w_g (nat_lit 2008) = true := by decide +kernel
theorem w_r2009 : w_rg 2009 := w_rg_s (n := 2008) w_r2008 w_g2008
set_option maxRecDepth 100000 in
theorem w_g2009 : w_g (nat_lit 2009) = true := by decide +kernel
theorem w_r2010 : w_rg 2010 := w_rg_s (n := 2009) w_r2009 w_g2009
set_option maxRecDepth 100000 in
theorem w_g2010 : w_g (nat_lit 2010) = true := by decide +kernel
theorem w_r2011 : w_rg 2011 := w_rg_s (n := 2010) w_r2010 w_g2010
set_option maxRecDepth 100000 in
theorem w_g2011 : w_g (nat_lit 2011) = true := by decide +kernel
theorem w_r2012 : w_rg 2012 := w_rg_s (n := 2011) w_r2011 w_g2011
set_option maxRecDepth 100000 in
theorem w_g2012 : w_g (nat_lit 2012) = true := by decide +kernel
theorem w_r2013 : w_rg 2013 := w_rg_s (n := 2012) w_r2012 w_g2012
set_option maxRecDepth 100000 in
theorem w_g2013 : w_g (nat_lit 2013) = true := by decide +kernel
theorem w_r2014 : w_rg 2014 := w_rg_s (n := 2013) w_r2013 w_g2013
set_option maxRecDepth 100000 in
theorem w_g2014 : w_g (nat_lit 2014) = true := by decide +kernel
theorem w_r2015 : w_rg 2015 := w_rg_s (n := 2014) w_r2014 w_g2014
set_option maxRecDepth 100000 in
theorem w_g2015 : w_g (nat_lit 2015) = true := by decide +kernel
theorem w_r2016 : w_rg 2016 := w_rg_s (n := 2015) w_r2015 w_g2015
set_option maxRecDepth 100000 in
theorem w_g2016 : w_g (nat_lit 2016) = true := by decide +kernel
theorem w_r2017 : w_rg 2017 := w_rg_s (n := 2016) w_r2016 w_g2016
set_option maxRecDepth 100000 in
theorem w_g2017 : w_g (nat_lit 2017) = true := by decide +kernel
theorem w_r2018 : w_rg 2018 := w_rg_s (n := 2017) w_r2017 w_g2017
set_option maxRecDepth 100000 in
theorem w_g2018 : w_g (nat_lit 2018) = true := by decide +kernel
theorem w_r2019 : w_rg 2019 := w_rg_s (n := 2018) w_r2018 w_g2018
set_option maxRecDepth 100000 in
theorem w_g2019 : w_g (nat_lit 2019) = true := by decide +kernel
theorem w_r2020 : w_rg 2020 := w_rg_s (n := 2019) w_r2019 w_g2019
set_option maxRecDepth 100000 in
theorem w_g2020 : w_g (nat_lit 2020) = true := by decide +kernel
theorem w_r2021 : w_rg 2021 := w_rg_s (n := 2020) w_r2020 w_g2020
set_option maxRecDepth 100000 in
theorem w_g2021 : w_g (nat_lit 2021) = true := by decide +kernel
theorem w_r2022 : w_rg 2022 := w_rg_s (n := 2021) w_r2021 w_g2021
set_option maxRecDepth 100000 in
theorem w_g2022 : w_g (nat_lit 2022) = true := by decide +kernel
theorem w_r2023 : w_rg 2023 := w_rg_s (n := 2022) w_r2022 w_g2022
set_option maxRecDepth 100000 in
theorem w_g2023 : w_g (nat_lit 2023) = true := by decide +kernel
theorem w_r2024 : w_rg 2024 := w_rg_s (n := 2023) w_r2023 w_g2023
set_option maxRecDepth 100000 in
theorem w_g2024 : w_g (nat_lit 2024) = true := by decide +kernel
theorem w_r2025 : w_rg 2025 := w_rg_s (n := 2024) w_r2024 w_g2024
set_option maxRecDepth 100000 in
theorem w_g2025 : w_g (nat_lit 2025) = true := by decide +kernel
theorem w_r2026 : w_rg 2026 := w_rg_s (n := 2025) w_r2025 w_g2025
set_option maxRecDepth 100000 in
theorem w_g2026 : w_g (nat_lit 2026) = true := by decide +kernel
theorem w_r2027 : w_rg 2027 := w_rg_s (n := 2026) w_r2026 w_g2026
set_option maxRecDepth 100000 in
theorem w_g2027 : w_g (nat_lit 2027) = true := by decide +kernel
theorem w_r2028 : w_rg 2028 := w_rg_s (n := 2027) w_r2027 w_g2027
set_option maxRecDepth 100000 in
theorem w_g2028 : w_g (nat_lit 2028) = true := by decide +kernel
theorem w_r2029 : w_rg 2029 := w_rg_s (n := 2028) w_r2028 w_g2028
set_option maxRecDepth 100000 in
theorem w_g2029 : w_g (nat_lit 2029) = true := by decide +kernel
theorem w_r2030 : w_rg 2030 := w_rg_s (n := 2029) w_r2029 w_g2029
set_option maxRecDepth 100000 in
theorem w_g2030 : w_g (nat_lit 2030) = true := by decide +kernel
theorem w_r2031 : w_rg 2031 := w_rg_s (n := 2030) w_r2030 w_g2030
set_option maxRecDepth 100000 in
theorem w_g2031 : w_g (nat_lit 2031) = true := by decide +kernel
theorem w_r2032 : w_rg 2032 := w_rg_s (n := 2031) w_r2031 w_g2031
set_option maxRecDepth 100000 in
theorem w_g2032 : w_g (nat_lit 2032) = true := by decide +kernel
theorem w_r2033 : w_rg 2033 := w_rg_s (n := 2032) w_r2032 w_g2032
set_option maxRecDepth 100000 in
theorem w_g2033 : w_g (nat_lit 2033) = true := by decide +kernel
theorem w_r2034 : w_rg 2034 := w_rg_s (n := 2033) w_r2033 w_g2033
set_option maxRecDepth 100000 in
theorem w_g2034 : w_g (nat_lit 2034) = true := by decide +kernel
theorem w_r2035 : w_rg 2035 := w_rg_s (n := 2034) w_r2034 w_g2034
set_option maxRecDepth 100000 in
theorem w_g2035 : w_g (nat_lit 2035) = true := by decide +kernel
theorem w_r2036 : w_rg 2036 := w_rg_s (n := 2035) w_r2035 w_g2035
set_option maxRecDepth 100000 in
theorem w_g2036 : w_g (nat_lit 2036) = true := by decide +kernel
theorem w_r2037 : w_rg 2037 := w_rg_s (n := 2036) w_r2036 w_g2036
set_option maxRecDepth 100000 in
theorem w_g2037 : w_g (nat_lit 2037) = true := by decide +kernel
theorem w_r2038 : w_rg 2038 := w_rg_s (n := 2037) w_r2037 w_g2037
set_option maxRecDepth 100000 in
theorem w_g2038 : w_g (nat_lit 2038) = true := by decide +kernel
theorem w_r2039 : w_rg 2039 := w_rg_s (n := 2038) w_r2038 w_g2038
set_option maxRecDepth 100000 in
theorem w_g2039 : w_g (nat_lit 2039) = true := by decide +kernel
theorem w_r2040 : w_rg 2040 := w_rg_s (n := 2039) w_r2039 w_g2039
set_option maxRecDepth 100000 in
theorem w_g2040 : w_g (nat_lit 2040) = true := by decide +kernel
theorem w_r2041 : w_rg 2041 := w_rg_s (n := 2040) w_r2040 w_g2040
set_option maxRecDepth 100000 in
theorem w_g2041 : w_g (nat_lit 2041) = true := by decide +kernel
theorem w_r2042 : w_rg 2042 := w_rg_s (n := 2041) w_r2041 w_g2041
set_option maxRecDepth 100000 in
theorem w_g2042 : w_g (nat_lit 2042) = true := by decide +kernel
theorem w_r2043 : w_rg 2043 := w_rg_s (n := 2042) w_r2042 w_g2042
set_option maxRecDepth 100000 in
theorem w_g2043 : w_g (nat_lit 2043) = true := by decide +kernel
theorem w_r2044 : w_rg 2044 := w_rg_s (n := 2043) w_r2043 w_g2043
set_option maxRecDepth 100000 in
theorem w_g2044 : w_g (nat_lit 2044) = true := by decide +kernel
theorem w_r2045 : w_rg 2045 := w_rg_s (n := 2044) w_r2044 w_g2044
set_option maxRecDepth 100000 in
theorem w_g2045 : w_g (nat_lit 2045) = true := by decide +kernel
theorem w_r2046 : w_rg 2046 := w_rg_s (n := 2045) w_r2045 w_g2045
set_option maxRecDepth 100000 in
theorem w_g2046 : w_g (nat_lit 2046) = true := by decide +kernel
theorem w_r2047 : w_rg 2047 := w_rg_s (n := 2046) w_r2046 w_g2046
set_option maxRecDepth 100000 in
theorem w_g2047 : w_g (nat_lit 2047) = true := by decide +kernel
theorem w_r2048 : w_rg 2048 := w_rg_s (n := 2047) w_r2047 w_g2047
set_option maxRecDepth 100000 in
theorem w_g2048 : w_g (nat_lit 2048) = true := by decide +kernel
theorem w_r2049 : w_rg 2049 := w_rg_s (n := 2048) w_r2048 w_g2048
set_option maxRecDepth 100000 in
theorem w_g2049 : w_g (nat_lit 2049) = true := by decide +kernel
theorem w_r2050 : w_rg 2050 := w_rg_s (n := 2049) w_r2049 w_g2049
set_option maxRecDepth 100000 in
theorem w_g2050 : w_g (nat_lit 2050) = true := by decide +kernel
theorem w_r2051 : w_rg 2051 := w_rg_s (n := 2050) w_r2050 w_g2050
set_option maxRecDepth 100000 in
theorem w_g2051 : w_g (nat_lit 2051) = true := by decide +kernel
theorem w_r2052 : w_rg 2052 := w_rg_s (n := 2051) w_r2051 w_g2051
set_option maxRecDepth 100000 in
theorem w_g2052 : w_g (nat_lit 2052) = true := by decide +kernel
theorem w_r2053 : w_rg 2053 := w_rg_s (n := 2052) w_r2052 w_g2052
set_option maxRecDepth 100000 in
theorem w_g2053 : w_g (nat_lit 2053) = true := by decide +kernel
theorem w_r2054 : w_rg 2054 := w_rg_s (n := 2053) w_r2053 w_g2053
set_option maxRecDepth 100000 in
theorem w_g2054 : w_g (nat_lit 2054) = true := by decide +kernel
theorem w_r2055 : w_rg 2055 := w_rg_s (n := 2054) w_r2054 w_g2054
set_option maxRecDepth 100000 in
theorem w_g2055 : w_g (nat_lit 2055) = true := by decide +kernel
theorem w_r2056 : w_rg 2056 := w_rg_s (n := 2055) w_r2055 w_g2055
set_option maxRecDepth 100000 in
theorem w_g2056 : w_g (nat_lit 2056) = true := by decide +kernel
theorem w_r2057 : w_rg 2057 := w_rg_s (n := 2056) w_r2056 w_g2056
set_option maxRecDepth 100000 in
theorem w_g2057 : w_g (nat_lit 2057) = true := by decide +kernel
theorem w_r2058 : w_rg 2058 := w_rg_s (n := 2057) w_r2057 w_g2057
set_option maxRecDepth 100000 in
theorem w_g2058 : w_g (nat_lit 2058) = true := by decide +kernel
theorem w_r2059 : w_rg 2059 := w_rg_s (n := 2058) w_r2058 w_g2058
set_option maxRecDepth 100000 in
theorem w_g2059 : w_g (nat_lit 2059) = true := by decide +kernel
theorem w_r2060 : w_rg 2060 := w_rg_s (n := 2059) w_r2059 w_g2059
set_option maxRecDepth 100000 in
theorem w_g2060 : w_g (nat_lit 2060) = true := by decide +kernel
theorem w_r2061 : w_rg 2061 := w_rg_s (n := 2060) w_r2060 w_g2060
set_option maxRecDepth 100000 in
theorem w_g2061 : w_g (nat_lit 2061) = true := by decide +kernel
theorem w_r2062 : w_rg 2062 := w_rg_s (n := 2061) w_r2061 w_g2061
set_option maxRecDepth 100000 in
theorem w_g2062 : w_g (nat_lit 2062) = true := by decide +kernel
theorem w_r2063 : w_rg 2063 := w_rg_s (n := 2062) w_r2062 w_g2062
set_option maxRecDepth 100000 in
theorem w_g2063 : w_g (nat_lit 2063) = true := by decide +kernel
theorem w_r2064 : w_rg 2064 := w_rg_s (n := 2063) w_r2063 w_g2063
set_option maxRecDepth 100000 in
theorem w_g2064 : w_g (nat_lit 2064) = true := by decide +kernel
theorem w_r2065 : w_rg 2065 := w_rg_s (n := 2064) w_r2064 w_g2064
set_option maxRecDepth 100000 in
theorem w_g2065 : w_g (nat_lit 2065) = true := by decide +kernel
theorem w_r2066 : w_rg 2066 := w_rg_s (n := 2065) w_r2065 w_g2065
set_option maxRecDepth 100000 in
theorem w_g2066 : w_g (nat_lit 2066) = true := by decide +kernel
theorem w_r2067 : w_rg 2067 := w_rg_s (n := 2066) w_r2066 w_g2066
set_option maxRecDepth 100000 in
theorem w_g2067 : w_g (nat_lit 2067) = true := by decide +kernel
theorem w_r2068 : w_rg 2068 := w_rg_s (n := 2067) w_r2067 w_g2067
set_option maxRecDepth 100000 in
theorem w_g2068 : w_g (nat_lit 2068) = true := by decide +kernel
theorem w_r2069 : w_rg 2069 := w_rg_s (n := 2068) w_r2068 w_g2068
set_option maxRecDepth 100000 in
theorem w_g2069 : w_g (nat_lit 2069) = true := by decide +kernel
theorem w_r2070 : w_rg 2070 := w_rg_s (n := 2069) w_r2069 w_g2069
set_option maxRecDepth 100000 in
theorem w_g2070 : w_g (nat_lit 2070) = true := by decide +kernel
theorem w_r2071 : w_rg 2071 := w_rg_s (n := 2070) w_r2070 w_g2070
set_option maxRecDepth 100000 in
theorem w_g2071 : w_g (nat_lit 2071) = true := by decide +kernel
theorem w_r2072 : w_rg 2072 := w_rg_s (n := 2071) w_r2071 w_g2071
set_option maxRecDepth 100000 in
theorem w_g2072 : w_g (nat_lit 2072) = true := by decide +kernel
theorem w_r2073 : w_rg 2073 := w_rg_s (n := 2072) w_r2072 w_g2072
set_option maxRecDepth 100000 in
theorem w_g2073 : w_g (nat_lit 2073) = true := by decide +kernel
theorem w_r2074 : w_rg 2074 := w_rg_s (n := 2073) w_r2073 w_g2073
set_option maxRecDepth 100000 in
theorem w_g2074 : w_g (nat_lit 2074) = true := by decide +kernel
theorem w_r2075 : w_rg 2075 := w_rg_s (n := 2074) w_r2074 w_g2074
set_option maxRecDepth 100000 in
theorem w_g2075 : w_g (nat_lit 2075) = true := by decide +kernel
theorem w_r2076 : w_rg 2076 := w_rg_s (n := 2075) w_r2075 w_g2075
set_option maxRecDepth 100000 in
theorem w_g2076 : w_g (nat_lit 2076) = true := by decide +kernel
theorem w_r2077 : w_rg 2077 := w_rg_s (n := 2076) w_r2076 w_g2076
set_option maxRecDepth 100000 in
theorem w_g2077 : w_g (nat_lit 2077) = true := by decide +kernel
theorem w_r2078 : w_rg 2078 := w_rg_s (n := 2077) w_r2077 w_g2077
set_option maxRecDepth 100000 in
theorem w_g2078 : w_g (nat_lit 2078) = true := by decide +kernel
theorem w_r2079 : w_rg 2079 := w_rg_s (n := 2078) w_r2078 w_g2078
set_option maxRecDepth 100000 in
theorem w_g2079 : w_g (nat_lit 2079) = true := by decide +kernel
theorem w_r2080 : w_rg 2080 := w_rg_s (n := 2079) w_r2079 w_g2079
set_option maxRecDepth 100000 in
theorem w_g2080 : w_g (nat_lit 2080) = true := by decide +kernel
theorem w_r2081 : w_rg 2081 := w_rg_s (n := 2080) w_r2080 w_g2080
set_option maxRecDepth 100000 in
theorem w_g2081 : w_g (nat_lit 2081) = true := by decide +kernel
theorem w_r2082 : w_rg 2082 := w_rg_s (n := 2081) w_r2081 w_g2081
set_option maxRecDepth 100000 in
theorem w_g2082 : w_g (nat_lit 2082) = true := by decide +kernel
theorem w_r2083 : w_rg 2083 := w_rg_s (n := 2082) w_r2082 w_g2082
set_option maxRecDepth 100000 in
theorem w_g2083 : w_g (nat_lit 2083) = true := by decide +kernel
theorem w_r2084 : w_rg 2084 := w_rg_s (n := 2083) w_r2083 w_g2083
set_option maxRecDepth 100000 in
theorem w_g2084 : w_g (nat_lit 2084) = true := by decide +kernel
theorem w_r2085 : w_rg 2085 := w_rg_s (n := 2084) w_r2084 w_g2084
set_option maxRecDepth 100000 in
theorem w_g2085 : w_g (nat_lit 2085) = true := by decide +kernel
theorem w_r2086 : w_rg 2086 := w_rg_s (n := 2085) w_r2085 w_g2085
set_option maxRecDepth 100000 in
theorem w_g2086 : w_g (nat_lit 2086) = true := by decide +kernel
theorem w_r2087 : w_rg 2087 := w_rg_s (n := 2086) w_r2086 w_g2086
set_option maxRecDepth 100000 in
theorem w_g2087 : w_g (nat_lit 2087) = true := by decide +kernel
theorem w_r2088 : w_rg 2088 := w_rg_s (n := 2087) w_r2087 w_g2087
set_option maxRecDepth 100000 in
theorem w_g2088 : w_g (nat_lit 2088) = true := by decide +kernel
theorem w_r2089 : w_rg 2089 := w_rg_s (n := 2088) w_r2088 w_g2088
set_option maxRecDepth 100000 in
theorem w_g2089 : w_g (nat_lit 2089) = true := by decide +kernel
theorem w_r2090 : w_rg 2090 := w_rg_s (n := 2089) w_r2089 w_g2089
set_option maxRecDepth 100000 in
theorem w_g2090 : w_g (nat_lit 2090) = true := by decide +kernel
theorem w_r2091 : w_rg 2091 := w_rg_s (n := 2090) w_r2090 w_g2090
set_option maxRecDepth 100000 in
theorem w_g2091 : w_g (nat_lit 2091) = true := by decide +kernel
theorem w_r2092 : w_rg 2092 := w_rg_s (n := 2091) w_r2091 w_g2091
set_option maxRecDepth 100000 in
theorem w_g2092 : w_g (nat_lit 2092) = true := by decide +kernel
theorem w_r2093 : w_rg 2093 := w_rg_s (n := 2092) w_r2092 w_g2092
set_option maxRecDepth 100000 in
theorem w_g2093 : w_g (nat_lit 2093) = true := by decide +kernel
theorem w_r2094 : w_rg 2094 := w_rg_s (n := 2093) w_r2093 w_g2093
set_option maxRecDepth 100000 in
theorem w_g2094 : w_g (nat_lit 2094) = true := by decide +kernel
theorem w_r2095 : w_rg 2095 := w_rg_s (n := 2094) w_r2094 w_g2094
set_option maxRecDepth 100000 in
theorem w_g2095 : w_g (nat_lit 2095) = true := by decide +kernel
theorem w_r2096 : w_rg 2096 := w_rg_s (n := 2095) w_r2095 w_g2095
set_option maxRecDepth 100000 in
theorem w_g2096 : w_g (nat_lit 2096) = true := by decide +kernel
theorem w_r2097 : w_rg 2097 := w_rg_s (n := 2096) w_r2096 w_g2096
set_option maxRecDepth 100000 in
theorem w_g2097 : w_g (nat_lit 2097) = true := by decide +kernel
theorem w_r2098 : w_rg 2098 := w_rg_s (n := 2097) w_r2097 w_g2097
set_option maxRecDepth 100000 in
theorem w_g2098 : w_g (nat_lit 2098) = true := by decide +kernel
theorem w_r2099 : w_rg 2099 := w_rg_s (n := 2098) w_r2098 w_g2098
set_option maxRecDepth 100000 in
theorem w_g2099 : w_g (nat_lit 2099) = true := by decide +kernel
theorem w_r2100 : w_rg 2100 := w_rg_s (n := 2099) w_r2099 w_g2099
set_option maxRecDepth 100000 in
theorem w_g2100 : w_g (nat_lit 2100) = true := by decide +kernel
theorem w_r2101 : w_rg 2101 := w_rg_s (n := 2100) w_r2100 w_g2100
set_option maxRecDepth 100000 in
theorem w_g2101 : w_g (nat_lit 2101) = true := by decide +kernel
theorem w_r2102 : w_rg 2102 := w_rg_s (n := 2101) w_r2101 w_g2101
set_option maxRecDepth 100000 in
theorem w_g2102 : w_g (nat_lit 2102) = true := by decide +kernel
theorem w_r2103 : w_rg 2103 := w_rg_s (n := 2102) w_r2102 w_g2102
set_option maxRecDepth 100000 in
theorem w_g2103 : w_g (nat_lit 2103) = true := by decide +kernel
theorem w_r2104 : w_rg 2104 := w_rg_s (n := 2103) w_r2103 w_g2103
set_option maxRecDepth 100000 in
theorem w_g2104 : w_g (nat_lit 2104) = true := by decide +kernel
theorem w_r2105 : w_rg 2105 := w_rg_s (n := 2104) w_r2104 w_g2104
set_option maxRecDepth 100000 in
theorem w_g2105 : w_g (nat_lit 2105) = true := by decide +kernel
theorem w_r2106 : w_rg 2106 := w_rg_s (n := 2105) w_r2105 w_g2105
set_option maxRecDepth 100000 in
theorem w_g2106 : w_g (nat_lit 2106) = true := by decide +kernel
theorem w_r2107 : w_rg 2107 := w_rg_s (n := 2106) w_r2106 w_g2106
set_option maxRecDepth 100000 in
theorem w_g2107 : w_g (nat_lit 2107) = true := by decide +kernel
theorem w_r2108 : w_rg 2108 := w_rg_s (n := 2107) w_r2107 w_g2107
set_option maxRecDepth 100000 in
theorem w_g2108 : w_g (nat_lit 2108) = true := by decide +kernel
theorem w_r2109 : w_rg 2109 := w_rg_s (n := 2108) w_r2108 w_g2108
set_option maxRecDepth 100000 in
theorem w_g2109 : w_g (nat_lit 2109) = true := by decide +kernel
theorem w_r2110 : w_rg 2110 := w_rg_s (n := 2109) w_r2109 w_g2109
set_option maxRecDepth 100000 in
theorem w_g2110 : w_g (nat_lit 2110) = true := by decide +kernel
theorem w_r2111 : w_rg 2111 := w_rg_s (n := 2110) w_r2110 w_g2110
set_option maxRecDepth 100000 in
theorem w_g2111 : w_g (nat_lit 2111) = true := by decide +kernel
theorem w_r2112 : w_rg 2112 := w_rg_s (n := 2111) w_r2111 w_g2111
set_option maxRecDepth 100000 in
theorem w_g2112 : w_g (nat_lit 2112) = true := by decide +kernel
theorem w_r2113 : w_rg 2113 := w_rg_s (n := 2112) w_r2112 w_g2112
set_option maxRecDepth 100000 in
theorem w_g2113 : w_g (nat_lit 2113) = true := by decide +kernel
theorem w_r2114 : w_rg 2114 := w_rg_s (n := 2113) w_r2113 w_g2113
set_option maxRecDepth 100000 in
theorem w_g2114 : w_g (nat_lit 2114) = true := by decide +kernel
theorem w_r2115 : w_rg 2115 := w_rg_s (n := 2114) w_r2114 w_g2114
set_option maxRecDepth 100000 in
theorem w_g2115 : w_g (nat_lit 2115) = true := by decide +kernel
theorem w_r2116 : w_rg 2116 := w_rg_s (n := 2115) w_r2115 w_g2115
set_option maxRecDepth 100000 in
theorem w_g2116 : w_g (nat_lit 2116) = true := by decide +kernel
theorem w_r2117 : w_rg 2117 := w_rg_s (n := 2116) w_r2116 w_g2116
set_option maxRecDepth 100000 in
theorem w_g2117 : w_g (nat_lit 2117) = true := by decide +kernel
theorem w_r2118 : w_rg 2118 := w_rg_s (n := 2117) w_r2117 w_g2117
set_option maxRecDepth 100000 in
theorem w_g2118 : w_g (nat_lit 2118) = true := by decide +kernel
theorem w_r2119 : w_rg 2119 := w_rg_s (n := 2118) w_r2118 w_g2118
set_option maxRecDepth 100000 in
theorem w_g2119 : w_g (nat_lit 2119) = true := by decide +kernel
theorem w_r2120 : w_rg 2120 := w_rg_s (n := 2119) w_r2119 w_g2119
set_option maxRecDepth 100000 in
theorem w_g2120 : w_g (nat_lit 2120) = true := by decide +kernel
theorem w_r2121 : w_rg 2121 := w_rg_s (n := 2120) w_r2120 w_g2120
set_option maxRecDepth 100000 in
theorem w_g2121 : w_g (nat_lit 2121) = true := by decide +kernel
theorem w_r2122 : w_rg 2122 := w_rg_s (n := 2121) w_r2121 w_g2121
set_option maxRecDepth 100000 in
theorem w_g2122 : w_g (nat_lit 2122) = true := by decide +kernel
theorem w_r2123 : w_rg 2123 := w_rg_s (n := 2122) w_r2122 w_g2122
set_option maxRecDepth 100000 in
theorem w_g2123 : w_g (nat_lit 2123) = true := by decide +kernel
theorem w_r2124 : w_rg 2124 := w_rg_s (n := 2123) w_r2123 w_g2123
set_option maxRecDepth 100000 in
theorem w_g2124 : w_g (nat_lit 2124) = true := by decide +kernel
theorem w_r2125 : w_rg 2125 := w_rg_s (n := 2124) w_r2124 w_g2124
set_option maxRecDepth 100000 in
theorem w_g2125 : w_g (nat_lit 2125) = true := by decide +kernel
theorem w_r2126 : w_rg 2126 := w_rg_s (n := 2125) w_r2125 w_g2125
set_option maxRecDepth 100000 in
theorem w_g2126 : w_g (nat_lit 2126) = true := by decide +kernel
theorem w_r2127 : w_rg 2127 := w_rg_s (n := 2126) w_r2126 w_g2126
set_option maxRecDepth 100000 in
theorem w_g2127 : w_g (nat_lit 2127) = true := by decide +kernel
theorem w_r2128 : w_rg 2128 := w_rg_s (n := 2127) w_r2127 w_g2127
set_option maxRecDepth 100000 in
theorem w_g2128 : w_g (nat_lit 2128) = true := by decide +kernel
theorem w_r2129 : w_rg 2129 := w_rg_s (n := 2128) w_r2128 w_g2128
set_option maxRecDepth 100000 in
theorem w_g2129 : w_g (nat_lit 2129) = true := by decide +kernel
theorem w_r2130 : w_rg 2130 := w_rg_s (n := 2129) w_r2129 w_g2129
set_option maxRecDepth 100000 in
theorem w_g2130 : w_g (nat_lit 2130) = true := by decide +kernel
theorem w_r2131 : w_rg 2131 := w_rg_s (n := 2130) w_r2130 w_g2130
set_option maxRecDepth 100000 in
theorem w_g2131 : w_g (nat_lit 2131) = true := by decide +kernel
theorem w_r2132 : w_rg 2132 := w_rg_s (n := 2131) w_r2131 w_g2131
set_option maxRecDepth 100000 in
theorem w_g2132 : w_g (nat_lit 2132) = true := by decide +kernel
theorem w_r2133 : w_rg 2133 := w_rg_s (n := 2132) w_r2132 w_g2132
set_option maxRecDepth 100000 in
theorem w_g2133 : w_g (nat_lit 2133) = true := by decide +kernel
theorem w_r2134 : w_rg 2134 := w_rg_s (n := 2133) w_r2133 w_g2133
set_option maxRecDepth 100000 in
theorem w_g2134 : w_g (nat_lit 2134) = true := by decide +kernel
theorem w_r2135 : w_rg 2135 := w_rg_s (n := 2134) w_r2134 w_g2134
set_option maxRecDepth 100000 in
theorem w_g2135 : w_g (nat_lit 2135) = true := by decide +kernel
theorem w_r2136 : w_rg 2136 := w_rg_s (n := 2135) w_r2135 w_g2135
set_option maxRecDepth 100000 in
theorem w_g2136 : w_g (nat_lit 2136) = true := by decide +kernel
theorem w_r2137 : w_rg 2137 := w_rg_s (n := 2136) w_r2136 w_g2136
set_option maxRecDepth 100000 in
theorem w_g2137 : w_g (nat_lit 2137) = true := by decide +kernel
theorem w_r2138 : w_rg 2138 := w_rg_s (n := 2137) w_r2137 w_g2137
set_option maxRecDepth 100000 in
theorem w_g2138 : w_g (nat_lit 2138) = true := by decide +kernel
theorem w_r2139 : w_rg 2139 := w_rg_s (n := 2138) w_r2138 w_g2138
set_option maxRecDepth 100000 in
theorem w_g2139 : w_g (nat_lit 2139) = true := by decide +kernel
theorem w_r2140 : w_rg 2140 := w_rg_s (n := 2139) w_r2139 w_g2139
set_option maxRecDepth 100000 in
theorem w_g2140 : w_g (nat_lit 2140) = true := by decide +kernel
theorem w_r2141 : w_rg 2141 := w_rg_s (n := 2140) w_r2140 w_g2140
set_option maxRecDepth 100000 in
theorem w_g2141 : w_g (nat_lit 2141) = true := by decide +kernel
theorem w_r2142 : w_rg 2142 := w_rg_s (n := 2141) w_r2141 w_g2141
set_option maxRecDepth 100000 in
theorem w_g2142 : w_g (nat_lit 2142) = true := by decide +kernel
theorem w_r2143 : w_rg 2143 := w_rg_s (n := 2142) w_r2142 w_g2142
set_option maxRecDepth 100000 in
theorem w_g2143 : w_g (nat_lit 2143) = true := by decide +kernel
theorem w_r2144 : w_rg 2144 := w_rg_s (n := 2143) w_r2143 w_g2143
set_option maxRecDepth 100000 in
theorem w_g2144 : w_g (nat_lit 2144) = true := by decide +kernel
theorem w_r2145 : w_rg 2145 := w_rg_s (n := 2144) w_r2144 w_g2144
set_option maxRecDepth 100000 in
theorem w_g2145 : w_g (nat_lit 2145) = true := by decide +kernel
theorem w_r2146 : w_rg 2146 := w_rg_s (n := 2145) w_r2145 w_g2145
set_option maxRecDepth 100000 in
theorem w_g2146 : w_g (nat_lit 2146) = true := by decide +kernel
theorem w_r2147 : w_rg 2147 := w_rg_s (n := 2146) w_r2146 w_g2146
set_option maxRecDepth 100000 in
theorem w_g2147 : w_g (nat_lit 2147) = true := by decide +kernel
theorem w_r2148 : w_rg 2148 := w_rg_s (n := 2147) w_r2147 w_g2147
set_option maxRecDepth 100000 in
theorem w_g2148 : w_g (nat_lit 2148) = true := by decide +kernel
theorem w_r2149 : w_rg 2149 := w_rg_s (n := 2148) w_r2148 w_g2148
set_option maxRecDepth 100000 in
theorem w_g2149 : w_g (nat_lit 2149) = true := by decide +kernel
theorem w_r2150 : w_rg 2150 := w_rg_s (n := 2149) w_r2149 w_g2149
set_option maxRecDepth 100000 in
theorem w_g2150 : w_g (nat_lit 2150) = true := by decide +kernel
theorem w_r2151 : w_rg 2151 := w_rg_s (n := 2150) w_r2150 w_g2150
set_option maxRecDepth 100000 in
theorem w_g2151 : w_g (nat_lit 2151) = true := by decide +kernel
theorem w_r2152 : w_rg 2152 := w_rg_s (n := 2151) w_r2151 w_g2151
set_option maxRecDepth 100000 in
theorem w_g2152 : w_g (nat_lit 2152) = true := by decide +kernel
theorem w_r2153 : w_rg 2153 := w_rg_s (n := 2152) w_r2152 w_g2152
set_option maxRecDepth 100000 in
theorem w_g2153 : w_g (nat_lit 2153) = true := by decide +kernel
theorem w_r2154 : w_rg 2154 := w_rg_s (n := 2153) w_r2153 w_g2153
set_option maxRecDepth 100000 in
theorem w_g2154 : w_g (nat_lit 2154) = true := by decide +kernel
theorem w_r2155 : w_rg 2155 := w_rg_s (n := 2154) w_r2154 w_g2154
set_option maxRecDepth 100000 in
theorem w_g2155 : w_g (nat_lit 2155) = true := by decide +kernel
theorem w_r2156 : w_rg 2156 := w_rg_s (n := 2155) w_r2155 w_g2155
set_option maxRecDepth 100000 in
theorem w_g2156 : w_g (nat_lit 2156) = true := by decide +kernel
theorem w_r2157 : w_rg 2157 := w_rg_s (n := 2156) w_r2156 w_g2156
set_option maxRecDepth 100000 in
theorem w_g2157 : w_g (nat_lit 2157) = true := by decide +kernel
theorem w_r2158 : w_rg 2158 := w_rg_s (n := 2157) w_r2157 w_g2157
set_option maxRecDepth 100000 in
theorem w_g2158 : w_g (nat_lit 2158) = true := by decide +kernel
theorem w_r2159 : w_rg 2159 := w_rg_s (n := 2158) w_r2158 w_g2158
set_option maxRecDepth 100000 in
theorem w_g2159 : w_g (nat_lit 2159) = true := by decide +kernel
theorem w_r2160 : w_rg 2160 := w_rg_s (n := 2159) w_r2159 w_g2159
set_option maxRecDepth 100000 in
theorem w_g2160 : w_g (nat_lit 2160) = true := by decide +kernel
theorem w_r2161 : w_rg 2161 := w_rg_s (n := 2160) w_r2160 w_g2160
set_option maxRecDepth 100000 in
theorem w_g2161 : w_g (nat_lit 2161) = true := by decide +kernel
theorem w_r2162 : w_rg 2162 := w_rg_s (n := 2161) w_r2161 w_g2161
set_option maxRecDepth 100000 in
theorem w_g2162 : w_g (nat_lit 2162) = true := by decide +kernel
theorem w_r2163 : w_rg 2163 := w_rg_s (n := 2162) w_r2162 w_g2162
set_option maxRecDepth 100000 in
theorem w_g2163 : w_g (nat_lit 2163) = true := by decide +kernel
theorem w_r2164 : w_rg 2164 := w_rg_s (n := 2163) w_r2163 w_g2163
set_option maxRecDepth 100000 in
theorem w_g2164 : w_g (nat_lit 2164) = true := by decide +kernel
theorem w_r2165 : w_rg 2165 := w_rg_s (n := 2164) w_r2164 w_g2164
set_option maxRecDepth 100000 in
theorem w_g2165 : w_g (nat_lit 2165) = true := by decide +kernel
theorem w_r2166 : w_rg 2166 := w_rg_s (n := 2165) w_r2165 w_g2165
set_option maxRecDepth 100000 in
theorem w_g2166 : w_g (nat_lit 2166) = true := by decide +kernel
theorem w_r2167 : w_rg 2167 := w_rg_s (n := 2166) w_r2166 w_g2166
set_option maxRecDepth 100000 in
theorem w_g2167 : w_g (nat_lit 2167) = true := by decide +kernel
theorem w_r2168 : w_rg 2168 := w_rg_s (n := 2167) w_r2167 w_g2167
set_option maxRecDepth 100000 in
theorem w_g2168 : w_g (nat_lit 2168) = true := by decide +kernel
theorem w_r2169 : w_rg 2169 := w_rg_s (n := 2168) w_r2168 w_g2168
set_option maxRecDepth 100000 in
theorem w_g2169 : w_g (nat_lit 2169) = true := by decide +kernel
theorem w_r2170 : w_rg 2170 := w_rg_s (n := 2169) w_r2169 w_g2169
set_option maxRecDepth 100000 in
theorem w_g2170 : w_g (nat_lit 2170) = true := by decide +kernel
theorem w_r2171 : w_rg 2171 := w_rg_s (n := 2170) w_r2170 w_g2170
set_option maxRecDepth 100000 in
theorem w_g2171 : w_g (nat_lit 2171) = true := by decide +kernel
theorem w_r2172 : w_rg 2172 := w_rg_s (n := 2171) w_r2171 w_g2171
set_option maxRecDepth 100000 in
theorem w_g2172 : w_g (nat_lit 2172) = true := by decide +kernel
theorem w_r2173 : w_rg 2173 := w_rg_s (n := 2172) w_r2172 w_g2172
set_option maxRecDepth 100000 in
theorem w_g2173 : w_g (nat_lit 2173) = true := by decide +kernel
theorem w_r2174 : w_rg 2174 := w_rg_s (n := 2173) w_r2173 w_g2173
set_option maxRecDepth 100000 in
theorem w_g2174 : w_g (nat_lit 2174) = true := by decide +kernel
theorem w_r2175 : w_rg 2175 := w_rg_s (n := 2174) w_r2174 w_g2174
set_option maxRecDepth 100000 in
theorem w_g2175 : w_g (nat_lit 2175) = true := by decide +kernel
theorem w_r2176 : w_rg 2176 := w_rg_s (n := 2175) w_r2175 w_g2175
set_option maxRecDepth 100000 in
theorem w_g2176 : w_g (nat_lit 2176) = true := by decide +kernel
theorem w_r2177 : w_rg 2177 := w_rg_s (n := 2176) w_r2176 w_g2176
set_option maxRecDepth 100000 in
theorem w_g2177 : w_g (nat_lit 2177) = true := by decide +kernel
theorem w_r2178 : w_rg 2178 := w_rg_s (n := 2177) w_r2177 w_g2177
set_option maxRecDepth 100000 in
theorem w_g2178 : w_g (nat_lit 2178) = true := by decide +kernel
theorem w_r2179 : w_rg 2179 := w_rg_s (n := 2178) w_r2178 w_g2178
set_option maxRecDepth 100000 in
theorem w_g2179 : w_g (nat_lit 2179) = true := by decide +kernel
theorem w_r2180 : w_rg 2180 := w_rg_s (n := 2179) w_r2179 w_g2179
set_option maxRecDepth 100000 in
theorem w_g2180 : w_g (nat_lit 2180) = true := by decide +kernel
theorem w_r2181 : w_rg 2181 := w_rg_s (n := 2180) w_r2180 w_g2180
set_option maxRecDepth 100000 in
theorem w_g2181 : w_g (nat_lit 2181) = true := by decide +kernel
theorem w_r2182 : w_rg 2182 := w_rg_s (n := 2181) w_r2181 w_g2181
set_option maxRecDepth 100000 in
theorem w_g2182 : w_g (nat_lit 2182) = true := by decide +kernel
theorem w_r2183 : w_rg 2183 := w_rg_s (n := 2182) w_r2182 w_g2182
set_option maxRecDepth 100000 in
theorem w_g2183 : w_g (nat_lit 2183) = true := by decide +kernel
theorem w_r2184 : w_rg 2184 := w_rg_s (n := 2183) w_r2183 w_g2183
set_option maxRecDepth 100000 in
theorem w_g2184 : w_g (nat_lit 2184) = true := by decide +kernel
theorem w_r2185 : w_rg 2185 := w_rg_s (n := 2184) w_r2184 w_g2184
set_option maxRecDepth 100000 in
theorem w_g2185 : w_g (nat_lit 2185) = true := by decide +kernel
theorem w_r2186 : w_rg 2186 := w_rg_s (n := 2185) w_r2185 w_g2185
set_option maxRecDepth 100000 in
theorem w_g2186 : w_g (nat_lit 2186) = true := by decide +kernel
theorem w_r2187 : w_rg 2187 := w_rg_s (n := 2186) w_r2186 w_g2186
set_option maxRecDepth 100000 in
theorem w_g2187 : w_g (nat_lit 2187) = true := by decide +kernel
theorem w_r2188 : w_rg 2188 := w_rg_s (n := 2187) w_r2187 w_g2187
set_option maxRecDepth 100000 in
theorem w_g2188 : w_g (nat_lit 2188) = true := by decide +kernel
theorem w_r2189 : w_rg 2189 := w_rg_s (n := 2188) w_r2188 w_g2188
